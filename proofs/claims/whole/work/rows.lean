section
-- ===== PART A: goes FIRST, ahead of the names: the tables' words, and 'selects' of the private methods out of them =====
/-- a private method of a class that the tables say can be made, by its rows of tables_1 -/
def lw_okq (q : MethodName × Nat) : Prop := (q.1.cls ≠ "java/lang/invoke/MethodHandle" ∧ q.1.cls ≠ "java/lang/invoke/VarHandle") ∧ Cond.instantiable q.1.cls q.2 ∈ tables_1 ∧ Cond.privateMethod q.1 ∈ tables_1 ∧ Cond.instanceMethod q.1 ∈ tables_1
theorem lw_p0 : lw_okq (⟨"PrivateCounts$Natural", "append", "(J)V"⟩, 2) := ⟨⟨by decide +kernel, by decide +kernel⟩, List.mem_of_getElem? (i := 64) (by decide +kernel), List.mem_of_getElem? (i := 97) (by decide +kernel), List.mem_of_getElem? (i := 98) (by decide +kernel)⟩
theorem lw_p1 : lw_okq (⟨"java/lang/Throwable", "fillInStackTrace", "(I)Ljava/lang/Throwable;"⟩, 6) := ⟨⟨by decide +kernel, by decide +kernel⟩, List.mem_of_getElem? (i := 219) (by decide +kernel), List.mem_of_getElem? (i := 217) (by decide +kernel), List.mem_of_getElem? (i := 218) (by decide +kernel)⟩
theorem lw_p2 : lw_okq (⟨"PrivateCounts$Natural", "trim", "()V"⟩, 2) := ⟨⟨by decide +kernel, by decide +kernel⟩, List.mem_of_getElem? (i := 64) (by decide +kernel), List.mem_of_getElem? (i := 331) (by decide +kernel), List.mem_of_getElem? (i := 332) (by decide +kernel)⟩
theorem lw_p3 : lw_okq (⟨"PrivateCounts$Fraction", "change", "(III)V"⟩, 2) := ⟨⟨by decide +kernel, by decide +kernel⟩, List.mem_of_getElem? (i := 85) (by decide +kernel), List.mem_of_getElem? (i := 350) (by decide +kernel), List.mem_of_getElem? (i := 351) (by decide +kernel)⟩
theorem lw_p4 : lw_okq (⟨"PrivateCountsModel", "put", "(IJ)V"⟩, 16) := ⟨⟨by decide +kernel, by decide +kernel⟩, List.mem_of_getElem? (i := 439) (by decide +kernel), List.mem_of_getElem? (i := 445) (by decide +kernel), List.mem_of_getElem? (i := 446) (by decide +kernel)⟩
theorem lw_p5 : lw_okq (⟨"PrivateCountsModel", "trim", "(II)V"⟩, 16) := ⟨⟨by decide +kernel, by decide +kernel⟩, List.mem_of_getElem? (i := 439) (by decide +kernel), List.mem_of_getElem? (i := 450) (by decide +kernel), List.mem_of_getElem? (i := 451) (by decide +kernel)⟩
theorem lw_p6 : lw_okq (⟨"PrivateCountsModel", "countRows", "(II)I"⟩, 16) := ⟨⟨by decide +kernel, by decide +kernel⟩, List.mem_of_getElem? (i := 439) (by decide +kernel), List.mem_of_getElem? (i := 520) (by decide +kernel), List.mem_of_getElem? (i := 521) (by decide +kernel)⟩
theorem lw_p7 : lw_okq (⟨"PrivateCountsModel", "allOf", "()J"⟩, 16) := ⟨⟨by decide +kernel, by decide +kernel⟩, List.mem_of_getElem? (i := 439) (by decide +kernel), List.mem_of_getElem? (i := 528) (by decide +kernel), List.mem_of_getElem? (i := 529) (by decide +kernel)⟩
theorem lw_p8 : lw_okq (⟨"PrivateCountsModel", "weightOf", "(II)J"⟩, 16) := ⟨⟨by decide +kernel, by decide +kernel⟩, List.mem_of_getElem? (i := 439) (by decide +kernel), List.mem_of_getElem? (i := 543) (by decide +kernel), List.mem_of_getElem? (i := 544) (by decide +kernel)⟩
theorem lw_p9 : lw_okq (⟨"PrivateCountsModel", "isOut", "(I)Z"⟩, 16) := ⟨⟨by decide +kernel, by decide +kernel⟩, List.mem_of_getElem? (i := 439) (by decide +kernel), List.mem_of_getElem? (i := 547) (by decide +kernel), List.mem_of_getElem? (i := 548) (by decide +kernel)⟩
theorem lw_p10 : lw_okq (⟨"PrivateCountsModel", "noCoin", "(J)Z"⟩, 16) := ⟨⟨by decide +kernel, by decide +kernel⟩, List.mem_of_getElem? (i := 439) (by decide +kernel), List.mem_of_getElem? (i := 559) (by decide +kernel), List.mem_of_getElem? (i := 560) (by decide +kernel)⟩
theorem lw_p11 : lw_okq (⟨"PrivateCountsModel", "drawn", "(IJ)I"⟩, 16) := ⟨⟨by decide +kernel, by decide +kernel⟩, List.mem_of_getElem? (i := 439) (by decide +kernel), List.mem_of_getElem? (i := 563) (by decide +kernel), List.mem_of_getElem? (i := 564) (by decide +kernel)⟩
theorem lw_p12 : lw_okq (⟨"PrivateCountsModel", "enough", "(II)Z"⟩, 16) := ⟨⟨by decide +kernel, by decide +kernel⟩, List.mem_of_getElem? (i := 439) (by decide +kernel), List.mem_of_getElem? (i := 578) (by decide +kernel), List.mem_of_getElem? (i := 579) (by decide +kernel)⟩
theorem lw_p13 : lw_okq (⟨"PrivateCountsModel", "reaches", "()Z"⟩, 16) := ⟨⟨by decide +kernel, by decide +kernel⟩, List.mem_of_getElem? (i := 439) (by decide +kernel), List.mem_of_getElem? (i := 585) (by decide +kernel), List.mem_of_getElem? (i := 586) (by decide +kernel)⟩
theorem lw_p14 : lw_okq (⟨"PrivateCountsModel", "set", "(III)V"⟩, 16) := ⟨⟨by decide +kernel, by decide +kernel⟩, List.mem_of_getElem? (i := 439) (by decide +kernel), List.mem_of_getElem? (i := 600) (by decide +kernel), List.mem_of_getElem? (i := 601) (by decide +kernel)⟩
theorem lw_p15 : lw_okq (⟨"PrivateCountsModel", "lowest", "(III)V"⟩, 16) := ⟨⟨by decide +kernel, by decide +kernel⟩, List.mem_of_getElem? (i := 439) (by decide +kernel), List.mem_of_getElem? (i := 604) (by decide +kernel), List.mem_of_getElem? (i := 605) (by decide +kernel)⟩
def lw_privs_1 : List (MethodName × Nat) := [(⟨"PrivateCounts$Natural", "append", "(J)V"⟩, 2), (⟨"java/lang/Throwable", "fillInStackTrace", "(I)Ljava/lang/Throwable;"⟩, 6), (⟨"PrivateCounts$Natural", "trim", "()V"⟩, 2), (⟨"PrivateCounts$Fraction", "change", "(III)V"⟩, 2), (⟨"PrivateCountsModel", "put", "(IJ)V"⟩, 16), (⟨"PrivateCountsModel", "trim", "(II)V"⟩, 16), (⟨"PrivateCountsModel", "countRows", "(II)I"⟩, 16), (⟨"PrivateCountsModel", "allOf", "()J"⟩, 16), (⟨"PrivateCountsModel", "weightOf", "(II)J"⟩, 16), (⟨"PrivateCountsModel", "isOut", "(I)Z"⟩, 16), (⟨"PrivateCountsModel", "noCoin", "(J)Z"⟩, 16), (⟨"PrivateCountsModel", "drawn", "(IJ)I"⟩, 16), (⟨"PrivateCountsModel", "enough", "(II)Z"⟩, 16), (⟨"PrivateCountsModel", "reaches", "()Z"⟩, 16), (⟨"PrivateCountsModel", "set", "(III)V"⟩, 16), (⟨"PrivateCountsModel", "lowest", "(III)V"⟩, 16)]
theorem lw_r1 : ∀ q ∈ lw_privs_1, lw_okq q := List.forall_mem_cons.mpr ⟨lw_p0, List.forall_mem_cons.mpr ⟨lw_p1, List.forall_mem_cons.mpr ⟨lw_p2, List.forall_mem_cons.mpr ⟨lw_p3, List.forall_mem_cons.mpr ⟨lw_p4, List.forall_mem_cons.mpr ⟨lw_p5, List.forall_mem_cons.mpr ⟨lw_p6, List.forall_mem_cons.mpr ⟨lw_p7, List.forall_mem_cons.mpr ⟨lw_p8, List.forall_mem_cons.mpr ⟨lw_p9, List.forall_mem_cons.mpr ⟨lw_p10, List.forall_mem_cons.mpr ⟨lw_p11, List.forall_mem_cons.mpr ⟨lw_p12, List.forall_mem_cons.mpr ⟨lw_p13, List.forall_mem_cons.mpr ⟨lw_p14, List.forall_mem_cons.mpr ⟨lw_p15, fun _ h => absurd h List.not_mem_nil⟩⟩⟩⟩⟩⟩⟩⟩⟩⟩⟩⟩⟩⟩⟩⟩
theorem lw_p16 : lw_okq (⟨"PrivateCountsModel", "divisor", "(II)V"⟩, 16) := ⟨⟨by decide +kernel, by decide +kernel⟩, List.mem_of_getElem? (i := 439) (by decide +kernel), List.mem_of_getElem? (i := 608) (by decide +kernel), List.mem_of_getElem? (i := 609) (by decide +kernel)⟩
theorem lw_p17 : lw_okq (⟨"PrivateCountsModel", "copy", "(II)V"⟩, 16) := ⟨⟨by decide +kernel, by decide +kernel⟩, List.mem_of_getElem? (i := 439) (by decide +kernel), List.mem_of_getElem? (i := 612) (by decide +kernel), List.mem_of_getElem? (i := 613) (by decide +kernel)⟩
theorem lw_p18 : lw_okq (⟨"PrivateCountsModel", "halve", "(I)V"⟩, 16) := ⟨⟨by decide +kernel, by decide +kernel⟩, List.mem_of_getElem? (i := 439) (by decide +kernel), List.mem_of_getElem? (i := 617) (by decide +kernel), List.mem_of_getElem? (i := 618) (by decide +kernel)⟩
theorem lw_p19 : lw_okq (⟨"PrivateCountsModel", "compare", "(II)I"⟩, 16) := ⟨⟨by decide +kernel, by decide +kernel⟩, List.mem_of_getElem? (i := 439) (by decide +kernel), List.mem_of_getElem? (i := 621) (by decide +kernel), List.mem_of_getElem? (i := 622) (by decide +kernel)⟩
theorem lw_p20 : lw_okq (⟨"PrivateCountsModel", "figureOf", "(II)J"⟩, 16) := ⟨⟨by decide +kernel, by decide +kernel⟩, List.mem_of_getElem? (i := 439) (by decide +kernel), List.mem_of_getElem? (i := 625) (by decide +kernel), List.mem_of_getElem? (i := 626) (by decide +kernel)⟩
theorem lw_p21 : lw_okq (⟨"PrivateCountsModel", "minus", "(III)V"⟩, 16) := ⟨⟨by decide +kernel, by decide +kernel⟩, List.mem_of_getElem? (i := 439) (by decide +kernel), List.mem_of_getElem? (i := 629) (by decide +kernel), List.mem_of_getElem? (i := 630) (by decide +kernel)⟩
theorem lw_p22 : lw_okq (⟨"PrivateCountsModel", "take", "(II)V"⟩, 16) := ⟨⟨by decide +kernel, by decide +kernel⟩, List.mem_of_getElem? (i := 439) (by decide +kernel), List.mem_of_getElem? (i := 633) (by decide +kernel), List.mem_of_getElem? (i := 634) (by decide +kernel)⟩
theorem lw_p23 : lw_okq (⟨"PrivateCountsModel", "plus", "(III)V"⟩, 16) := ⟨⟨by decide +kernel, by decide +kernel⟩, List.mem_of_getElem? (i := 439) (by decide +kernel), List.mem_of_getElem? (i := 637) (by decide +kernel), List.mem_of_getElem? (i := 638) (by decide +kernel)⟩
theorem lw_p24 : lw_okq (⟨"PrivateCountsModel", "divide", "(IIII)V"⟩, 16) := ⟨⟨by decide +kernel, by decide +kernel⟩, List.mem_of_getElem? (i := 439) (by decide +kernel), List.mem_of_getElem? (i := 641) (by decide +kernel), List.mem_of_getElem? (i := 642) (by decide +kernel)⟩
theorem lw_p25 : lw_okq (⟨"PrivateCountsModel", "add0", "(III)V"⟩, 16) := ⟨⟨by decide +kernel, by decide +kernel⟩, List.mem_of_getElem? (i := 439) (by decide +kernel), List.mem_of_getElem? (i := 649) (by decide +kernel), List.mem_of_getElem? (i := 650) (by decide +kernel)⟩
theorem lw_p26 : lw_okq (⟨"PrivateCountsModel", "cross", "(II)V"⟩, 16) := ⟨⟨by decide +kernel, by decide +kernel⟩, List.mem_of_getElem? (i := 439) (by decide +kernel), List.mem_of_getElem? (i := 653) (by decide +kernel), List.mem_of_getElem? (i := 654) (by decide +kernel)⟩
theorem lw_p27 : lw_okq (⟨"PrivateCountsModel", "times", "(III)V"⟩, 16) := ⟨⟨by decide +kernel, by decide +kernel⟩, List.mem_of_getElem? (i := 439) (by decide +kernel), List.mem_of_getElem? (i := 657) (by decide +kernel), List.mem_of_getElem? (i := 658) (by decide +kernel)⟩
theorem lw_p28 : lw_okq (⟨"PrivateCountsModel", "isMore", "(II)Z"⟩, 16) := ⟨⟨by decide +kernel, by decide +kernel⟩, List.mem_of_getElem? (i := 439) (by decide +kernel), List.mem_of_getElem? (i := 666) (by decide +kernel), List.mem_of_getElem? (i := 667) (by decide +kernel)⟩
theorem lw_p29 : lw_okq (⟨"PrivateCountsModel", "subtract", "(III)V"⟩, 16) := ⟨⟨by decide +kernel, by decide +kernel⟩, List.mem_of_getElem? (i := 439) (by decide +kernel), List.mem_of_getElem? (i := 674) (by decide +kernel), List.mem_of_getElem? (i := 675) (by decide +kernel)⟩
def lw_privs_2 : List (MethodName × Nat) := [(⟨"PrivateCountsModel", "divisor", "(II)V"⟩, 16), (⟨"PrivateCountsModel", "copy", "(II)V"⟩, 16), (⟨"PrivateCountsModel", "halve", "(I)V"⟩, 16), (⟨"PrivateCountsModel", "compare", "(II)I"⟩, 16), (⟨"PrivateCountsModel", "figureOf", "(II)J"⟩, 16), (⟨"PrivateCountsModel", "minus", "(III)V"⟩, 16), (⟨"PrivateCountsModel", "take", "(II)V"⟩, 16), (⟨"PrivateCountsModel", "plus", "(III)V"⟩, 16), (⟨"PrivateCountsModel", "divide", "(IIII)V"⟩, 16), (⟨"PrivateCountsModel", "add0", "(III)V"⟩, 16), (⟨"PrivateCountsModel", "cross", "(II)V"⟩, 16), (⟨"PrivateCountsModel", "times", "(III)V"⟩, 16), (⟨"PrivateCountsModel", "isMore", "(II)Z"⟩, 16), (⟨"PrivateCountsModel", "subtract", "(III)V"⟩, 16)]
theorem lw_r2 : ∀ q ∈ lw_privs_2, lw_okq q := List.forall_mem_cons.mpr ⟨lw_p16, List.forall_mem_cons.mpr ⟨lw_p17, List.forall_mem_cons.mpr ⟨lw_p18, List.forall_mem_cons.mpr ⟨lw_p19, List.forall_mem_cons.mpr ⟨lw_p20, List.forall_mem_cons.mpr ⟨lw_p21, List.forall_mem_cons.mpr ⟨lw_p22, List.forall_mem_cons.mpr ⟨lw_p23, List.forall_mem_cons.mpr ⟨lw_p24, List.forall_mem_cons.mpr ⟨lw_p25, List.forall_mem_cons.mpr ⟨lw_p26, List.forall_mem_cons.mpr ⟨lw_p27, List.forall_mem_cons.mpr ⟨lw_p28, List.forall_mem_cons.mpr ⟨lw_p29, fun _ h => absurd h List.not_mem_nil⟩⟩⟩⟩⟩⟩⟩⟩⟩⟩⟩⟩⟩⟩
def lw_privs : List (MethodName × Nat) := lw_privs_1 ++ (lw_privs_2)
def lw_tbl : List Cond := k2_sels lw_privs ++ tables_1
theorem lw_privs_ok : ∀ q ∈ lw_privs, lw_okq q := by
  show ∀ q ∈ lw_privs_1 ++ (lw_privs_2), lw_okq q
  exact List.forall_mem_append.mpr ⟨lw_r1, lw_r2⟩
-- ===== end of PART A; then your names; then what follows =====
/-! ===== BEGIN words of one list among another's, by their places ===== -/
theorem goodIn_r {big : List Cond} (ws : List Cond) (ps : List Nat) (hp : ws = ps.filterMap (fun i => big[i]?)) (h : ws.all goodWord = true) : GoodIn big ws := by
  intro w hw
  have h1 := List.all_eq_true.mp h w hw
  rw [hp] at hw
  obtain ⟨i, -, hi⟩ := List.mem_filterMap.mp hw
  have hm : w ∈ big := by first | exact List.mem_of_getElem? hi | exact List.getElem?_mem hi
  exact ⟨hm, good_of_word h1⟩
theorem goodIn_app {big a b : List Cond} (ha : GoodIn big a) (hb : GoodIn big b) : GoodIn big (a ++ b) := fun w h => (List.mem_append.mp h).elim (ha w) (hb w)
theorem goodIn_ca {big a b : List Cond} {c : Cond} (ha : GoodIn big (c :: a)) (hb : GoodIn big b) : GoodIn big (c :: (a ++ b)) := fun w h => (List.mem_cons.mp h).elim (fun e => ha w (List.mem_cons.mpr (Or.inl e))) (fun h => (List.mem_append.mp h).elim (fun h => ha w (List.mem_cons.mpr (Or.inr h))) (hb w))
theorem goodIn_sub {big ws : List Cond} (hm : ∀ w ∈ ws, w ∈ big) (h : ws.all goodWord = true) : GoodIn big ws := fun w hw => ⟨hm w hw, good_of_word (List.all_eq_true.mp h w hw)⟩
/-! ===== END ===== -/

/-! ===== BEGIN exceptions that leave a method, and their catching by the caller (launches without stack traces) ===== -/
section VXA
/-! The laws vx_back, vx_callV, vx_callS, vx_callSW, vx_throw0, vx_throwS follow proofs of the library, with one case more: JvmDerived/Free/Laws.lean (Back.of_free), Shelf42/LK1.lean (callV, callS), Shelf/KitTraced.lean (throwNew0V, throwNewS). -/
/-- where a method has thrown q: the class by its name, the cell, what was written, the world -/
def vx_T (XC : String → State → State → Prop) (st : State) (q : Addr) (t : State) (mc ms : Nat) (free : Addr → Prop) : Prop :=
  ∃ (E : String) (ce : Cell) (L : List Loc), XC E st t ∧ t.heap[q]? = some ce ∧ ce.vm = .none ∧ st.vm.findClass E = some ce.cls ∧ st.WarmedH t.vm ∧ st.sameButNew ({ t with vm := st.vm } : State) L mc ms ∧ ∀ z ∈ L, free z.base
def vx_Q (Qc : Array Value → State → Outcome → State → Prop) (XC : String → State → State → Prop) (mc ms : Nat) (free : Addr → Prop) : Array Value → State → Outcome → State → Prop := fun a st o t =>
  (Qc a st o t ∧ ∃ L, FrameEnd st o t L mc ms ∧ ∀ q ∈ L, free q.base) ∨ ∃ q, o = .threw q ∧ vx_T XC st q t mc ms free
/-- a callee that returns or throws -/
def vx_Met (l : Launch) (y : MethodName) (ws : List Cond) (rm : Room) (Pc : Array Value → State → Prop) (Qc : Array Value → State → Outcome → State → Prop) (XC : String → State → State → Prop) (mc ms : Nat) (free : Addr → Prop) : Prop :=
  MetFree l y (headSpec ws rm) Pc (fun _ _ _ _ _ => True) (vx_Q Qc XC mc ms free)
def vx_Post (XC : String → State → State → Prop) (mc ms : Nat) (free : Addr → Prop) : Pt → Array Value → Addr → Pt → Prop := fun A a q B =>
  ∃ (g : JFrame) (mk : MethodId) (t : State) (L : List Loc) (E : String) (ce : Cell), B.U.heap = t.heap ∧ B.U.vm = t.vm ∧ XC E (A.U.calling g mk a) t ∧ t.heap[q]? = some ce ∧ ce.vm = .none ∧ A.U.vm.findClass E = some ce.cls ∧ B.locs = A.locs ++ L ∧ (∀ z ∈ L, free z.base) ∧ B.cells = A.cells + mc ∧ B.slots = A.slots + ms
def vx_Back (l : Launch) (R : Room) (p : Program) (e : Env) (below : List Frame) (s : State) (sargs : Array Value) (y : MethodName) (len W9 : Nat)
    (Pre : Pt → Array Value → Prop) (Post : Pt → Array Value → Option Value → Pt → Prop) (PostX : Pt → Array Value → Addr → Pt → Prop) : Prop :=
  ∀ (m : MethodId) (meth : Method) (c : Code) (A : Pt) (g : JFrame) (ig : Instr) (mk : MethodId) (a : Array Value),
    Stand p l e R s m sargs below meth c A.U A.locs A.cells A.slots → g.method = m → g.locals.size = c.maxLocals → decode c.code g.pc = .ok (ig, len) →
    2 * g.monitorRoom + (g.stack.map fun v => v.category).sum ≤ W9 → A.U.methodNamed? y = some mk → Pre A a →
    (∃ (v : Option Value) (B : Pt), Stand p l e R s m sargs below meth c B.U B.locs B.cells B.slots ∧ Post A a v B ∧
      Steps p.tables e below (doInvoke e (A.U.setTop g) [] mk a).1 (B.U.setTop { g with pc := g.pc + len, stack := v.toList ++ g.stack })) ∨
    (∃ (q : Addr) (B : Pt), Stand p l e R s m sargs below meth c B.U B.locs B.cells B.slots ∧ PostX A a q B ∧
      Steps p.tables e below (doInvoke e (A.U.setTop g) [] mk a).1 ((B.U.setTop g).pushFrame (.throwing q)))
section Payer
variable {l : Launch} {R : Room} {p : Program} {e : Env} {below : List Frame} {s : State} {sargs : Array Value} {y : MethodName} {len W9 : Nat}
theorem vx_back {ws : List Cond} {rm : Room} {Pc : Array Value → State → Prop} {Qc : Array Value → State → Outcome → State → Prop} {XC : String → State → State → Prop} {mc ms : Nat} {free : Addr → Prop} {bytes : ByteArray} {maxL : Nat} {ret : Option FieldType}
    (hM : vx_Met l y ws rm Pc Qc XC mc ms free) (hblind : FrameBlind Pc) (hrc : rm.cells = mc) (hrs : rm.slots = ms)
    (hframes : rm.frames + 1 ≤ R.frames) (hlocals : W9 + (maxL + 11) + rm.locals ≤ R.locals)
    (hws : ∀ w ∈ ws, ∀ a' U, s.WarmedH U.vm → w.before a' U = true) (hcode : Cond.code y bytes maxL ret ∈ ws) (hinit : ∀ a' U, s.WarmedH U.vm → (Cond.initialized y.cls).before a' U = true) :
    vx_Back l R p e below s sargs y len W9 (PreOf R mc ms Pc) (PostOf Qc mc ms free) (vx_Post XC mc ms free) := by
  intro m meth c A g ig mk a X hg hsize hdg hW hn hp
  have h1 : (headSpec ws rm).pre.before a A.U = true := atoms_intro fun w hw => hws w hw _ _ X.warmed
  have h2 : (Cond.code y bytes maxL ret).before a A.U = true := hws _ hcode _ _ X.warmed
  have h3 : (Cond.initialized y.cls).before a A.U = true := hinit _ _ X.warmed
  have h4 : A.cells + (headSpec ws rm).room.cells ≤ R.cells := by rw [show (headSpec ws rm).room.cells = mc from hrc]; exact hp.1
  have h5 : A.slots + (headSpec ws rm).room.slots ≤ R.slots := by rw [show (headSpec ws rm).room.slots = ms from hrs]; exact hp.2.1
  have hPc : Pc a (A.U.calling g mk a) := hblind _ _ _ _ hp.2.2
  obtain ⟨U, Ls, c0, s0⟩ := A
  dsimp only [Pt.U, Pt.locs, Pt.cells, Pt.slots] at h1 h2 h3 h4 h5 X hn hPc ⊢
  obtain ⟨methY, cY, hmY, hcY, -, hlY, -, -, -, -⟩ := Cond.code_spec hn h2
  obtain ⟨kY, hkY, -⟩ := className_of_methodNamed hn
  have hinitY : kY.init = .initialized := Cond.initialized_spec (findClass_of_methodNamed hn) hkY h3
  have h : At U g.method c below := by rw [hg]; exact X.here
  have hlocals9 : W9 + (maxL + 11) + (headSpec ws rm).room.locals ≤ R.locals := hlocals
  have happ : (headSpec ws rm).appliesLoose y e.platform (U.calling g mk a) = true :=
    Spec.appliesLoose_calling (g := g) h hdg hn hkY hinitY
      (X.room_calling (g := g) (R' := (headSpec ws rm).room) hsize hmY hcY hframes (by rw [hlY]; omega) h4 h5) h1
  obtain ⟨mid, hmid⟩ := h.above
  have hfr : (U.setTop g).frames = (.java g :: mid) ++ below := by rw [State.frames_setTop' g h.top, hmid]; rfl
  obtain ⟨o, s₂, hsteps, -, hend, hq⟩ := Steps.callFree hM p X.admits X.cas X.clock (acts := []) hfr happ hPc trivial
  have hq' : vx_Q Qc XC mc ms free a (U.calling g mk a) o s₂ := hq
  rw [State.frames_setTop' g h.top] at hend
  obtain ⟨g₀, hg0⟩ := Option.isSome_iff_exists.mp h.top
  obtain ⟨r, hr⟩ := State.topJava?_eq_some.mp hg0
  have hr' : (({ U with heap := s₂.heap, slotsUsed := s₂.slotsUsed } : State).setVm s₂.vm).frames = .java g₀ :: r := hr
  rcases hq' with ⟨hqc, L, hfe, hL⟩ | ⟨q, rfl, E, ce, L, hx, hce, hcv, hcl, hW₂, hsm, hL⟩
  · obtain ⟨⟨v, rfl⟩, hW₂, e2, q2, q3, q4, q5, q6⟩ := id hfe
    have e3 : s₂ = ({ (U.calling g mk a).setFrames s₂.frames with heap := s₂.heap, slotsUsed := s₂.slotsUsed } : State).setVm s₂.vm := by
      have : s₂ = ({ s₂ with vm := (U.calling g mk a).vm } : State).setVm s₂.vm := rfl
      rw [e2] at this
      exact this
    obtain ⟨c₂, i₂, len₂, hc₂, hd₂, hf₂⟩ := hend
    have hW' : U.WarmedH s₂.vm := hW₂
    have hcc : c₂ = c := by
      have h1 : s₂.code? g.method = U.code? g.method := by
        rw [State.code?_eq, State.code?_eq, hW'.alike.method?]
      exact Option.some.inj (hc₂.symm.trans (h1.trans h.code))
    subst hcc
    have hlen : len₂ = len := by rw [hdg] at hd₂; cases hd₂; rfl
    subst hlen
    have hs₂ : s₂ = (({ U with heap := s₂.heap, slotsUsed := s₂.slotsUsed } : State).setVm s₂.vm).setTop { g with pc := g.pc + len₂, stack := v.toList ++ g.stack } := by
      refine e3.trans ?_
      rw [hf₂, State.calling_eq h.top, State.setFrames_setFrames, State.setTop_of_frames _ hr', hr]
      rfl
    have hsame : U.sameButNew ({ U with heap := s₂.heap, slotsUsed := s₂.slotsUsed } : State) L mc ms := by
      refine ⟨?_, q2, q3, q4, q5, q6⟩
      obtain ⟨t, ht, -⟩ := State.frames_cons hr
      show ({ U with heap := s₂.heap, slotsUsed := s₂.slotsUsed } : State) = { U.setFrames U.frames with heap := s₂.heap, slotsUsed := s₂.slotsUsed }
      rw [State.setFrames_self ht]
    subst hg
    refine Or.inl ⟨v, ⟨(({ U with heap := s₂.heap, slotsUsed := s₂.slotsUsed } : State).setVm s₂.vm), Ls ++ L, c0 + mc, s0 + ms⟩,
      ⟨X.admits, X.cas, X.clock, X.frames, X.room, X.hears, X.method, X.code, (X.here.setHeapUsed s₂.heap s₂.slotsUsed).setVm hW'.alike, X.tail, State.WarmedH.trans X.warmed hW', X.limits, X.bytes, X.same.trans (hsame.setVm s.vm)⟩,
      ⟨g, mk, s₂, L, rfl, rfl, hqc, rfl, hL, rfl, rfl⟩, ?_⟩
    show Steps p.tables e below _ ((({ U with heap := s₂.heap, slotsUsed := s₂.slotsUsed } : State).setVm s₂.vm).setTop { g with pc := g.pc + len₂, stack := v.toList ++ g.stack })
    rw [← hs₂]
    exact hsteps
  · obtain ⟨e2, q2, q3, q4, q5, q6⟩ := id hsm
    have e3 : s₂ = ({ (U.calling g mk a).setFrames s₂.frames with heap := s₂.heap, slotsUsed := s₂.slotsUsed } : State).setVm s₂.vm := by
      have : s₂ = ({ s₂ with vm := (U.calling g mk a).vm } : State).setVm s₂.vm := rfl
      rw [e2] at this
      exact this
    have hf₂ : s₂.frames = .throwing q :: .java g :: U.frames.tail := hend
    have hW' : U.WarmedH s₂.vm := hW₂
    have hs₂ : s₂ = ((({ U with heap := s₂.heap, slotsUsed := s₂.slotsUsed } : State).setVm s₂.vm).setTop g).pushFrame (.throwing q) := by
      refine e3.trans ?_
      rw [hf₂, State.calling_eq h.top, State.setFrames_setFrames, State.pushFrame, State.frames_setTop _ hr', State.setTop_of_frames _ hr', State.setFrames_setFrames, hr]
      rfl
    have hsame : U.sameButNew ({ U with heap := s₂.heap, slotsUsed := s₂.slotsUsed } : State) L mc ms := by
      refine ⟨?_, q2, q3, q4, q5, q6⟩
      obtain ⟨t, ht, -⟩ := State.frames_cons hr
      show ({ U with heap := s₂.heap, slotsUsed := s₂.slotsUsed } : State) = { U.setFrames U.frames with heap := s₂.heap, slotsUsed := s₂.slotsUsed }
      rw [State.setFrames_self ht]
    subst hg
    refine Or.inr ⟨q, ⟨(({ U with heap := s₂.heap, slotsUsed := s₂.slotsUsed } : State).setVm s₂.vm), Ls ++ L, c0 + mc, s0 + ms⟩,
      ⟨X.admits, X.cas, X.clock, X.frames, X.room, X.hears, X.method, X.code, (X.here.setHeapUsed s₂.heap s₂.slotsUsed).setVm hW'.alike, X.tail, State.WarmedH.trans X.warmed hW', X.limits, X.bytes, X.same.trans (hsame.setVm s.vm)⟩,
      ⟨g, mk, s₂, L, E, ce, rfl, rfl, hx, hce, hcv, hcl, rfl, hL, rfl, rfl⟩, ?_⟩
    show Steps p.tables e below _ (((({ U with heap := s₂.heap, slotsUsed := s₂.slotsUsed } : State).setVm s₂.vm).setTop g).pushFrame (.throwing q))
    rw [← hs₂]
    exact hsteps
end Payer
section Calls
variable {p : Program} {l : Launch} {e : Env} {R : Room} {s : State} {m : MethodId} {args : Array Value} {below : List Frame} {meth : Method} {c : Code} {T : State} {locs : List Loc} {cells slots : Nat}
theorem vx_callV (X : Stand p l e R s m args below meth c T locs cells slots) (hexec : p.tables.exec = Jvm.exec) {own C : String} {index : Nat} {y : MethodName} {bytes : ByteArray} {maxL : Nat} {ret : Option FieldType}
    (hown : s.vm.findClass own = some m.cls) (hlink : (Cond.methodLink own index y).before args s = true) (hinst : (Cond.instanceMethod y).before args s = true) (hsel : (Cond.selects C y y).before args s = true)
    (hcode : (Cond.code y bytes maxL ret).before args s = true) (hy : y.cls ≠ "java/lang/invoke/MethodHandle" ∧ y.cls ≠ "java/lang/invoke/VarHandle")
    {W9 : Nat} {Pre : Pt → Array Value → Prop} {Post : Pt → Array Value → Option Value → Pt → Prop} {PostX : Pt → Array Value → Addr → Pt → Prop} (hK : vx_Back l R p e below s args y 3 W9 Pre Post PostX)
    {b : Addr} {cellB : Cell} (hcell : T.heap[b]? = some cellB) (hobj : cellB.vm.isStatics = false) (hcls : s.vm.findClass C = some cellB.cls)
    {g : JFrame} (hg : g.method = m) (hsize : g.locals.size = c.maxLocals) {argsL rest : List Value} (hlen : ∀ sig, parseMethodDescriptor y.desc = some sig → argsL.length = sig.parameters.length)
    (hstack : g.stack = argsL.reverse ++ .ref b :: rest) (hW : 2 * g.monitorRoom + (rest.map fun v => v.category).sum ≤ W9) (hdg : decode c.code g.pc = .ok (.invokevirtual index, 3))
    (hpre : ∀ vm₁, s.WarmedH vm₁ → Pre ⟨T.setVm vm₁, locs, cells, slots⟩ (Value.ref b :: argsL).toArray) :
    (∃ (v : Option Value) (vm₁ : Vm) (B : Pt), s.WarmedH vm₁ ∧ Stand p l e R s m args below meth c B.U B.locs B.cells B.slots ∧ Post ⟨T.setVm vm₁, locs, cells, slots⟩ (Value.ref b :: argsL).toArray v B ∧
      ∀ target, Steps p.tables e below (B.U.setTop { g with pc := g.pc + 3, stack := v.toList ++ rest }) target → Steps p.tables e below (T.setTop g) target) ∨
    (∃ (q : Addr) (vm₁ : Vm) (B : Pt), s.WarmedH vm₁ ∧ Stand p l e R s m args below meth c B.U B.locs B.cells B.slots ∧ PostX ⟨T.setVm vm₁, locs, cells, slots⟩ (Value.ref b :: argsL).toArray q B ∧
      Steps p.tables e below (T.setTop g) ((B.U.setTop { g with stack := rest }).pushFrame (.throwing q))) := by
  obtain ⟨mk, methM, hnamed, hmethM, hstM, habM⟩ := Cond.instanceMethod_spec hinst
  obtain ⟨methM', cM, hmethM', -, -, -, -, -, -, hsigM⟩ := Cond.code_spec hnamed hcode
  cases hmethM.symm.trans hmethM'
  obtain ⟨c2, r2, m2, q1, q2, q3, q4, kP, hkP, hkPi⟩ := Cond.selects_spec hsel
  cases hcls.symm.trans q1
  cases (State.methodFound?_of_named hnamed hy).symm.trans q2
  cases hnamed.symm.trans q3
  have hselP : selectMethod e.platform s.vm cellB.cls mk = .method mk := by rw [Launch.admits_selectMethod X.admits]; exact q4
  obtain ⟨vm₁, X₁, hstep₁⟩ := X.invokevirtual hexec hown hlink hnamed hmethM hstM hkP hkPi hy (a := b) (cell := cellB) hcell
    (fun z h => by rw [h] at hobj; cases hobj) hselP hmethM habM hkP hkPi (g := g) hg (argsL := argsL) (rest := rest) (hlen _ hsigM) hstack hdg
  rcases hK m meth c ⟨T.setVm vm₁, locs, cells, slots⟩ { g with stack := rest } (.invokevirtual index) mk (Value.ref b :: argsL).toArray X₁ hg hsize hdg hW (X₁.named hnamed) (hpre vm₁ X₁.warmed) with ⟨v, B, X', hpost, hsteps⟩ | ⟨q, B, X', hpost, hsteps⟩
  · exact Or.inl ⟨v, vm₁, B, X₁.warmed, X', hpost, fun target h => hstep₁ _ fun acts => by rw [doInvoke_state]; exact hsteps.trans h⟩
  · exact Or.inr ⟨q, vm₁, B, X₁.warmed, X', hpost, hstep₁ _ fun acts => by rw [doInvoke_state]; exact hsteps⟩
theorem vx_callS (X : Stand p l e R s m args below meth c T locs cells slots) (hexec : p.tables.exec = Jvm.exec) {own : String} {index : Nat} {y : MethodName} {bytes : ByteArray} {maxL : Nat} {ret : Option FieldType}
    (hown : s.vm.findClass own = some m.cls) (hlink : (Cond.methodLink own index y).before args s = true) (hstat : (Cond.static y).before args s = true) (hinit : (Cond.initialized y.cls).before args s = true)
    (hcode : (Cond.code y bytes maxL ret).before args s = true) (hy : y.cls ≠ "java/lang/invoke/MethodHandle" ∧ y.cls ≠ "java/lang/invoke/VarHandle")
    {W9 : Nat} {Pre : Pt → Array Value → Prop} {Post : Pt → Array Value → Option Value → Pt → Prop} {PostX : Pt → Array Value → Addr → Pt → Prop} (hK : vx_Back l R p e below s args y 3 W9 Pre Post PostX)
    {g : JFrame} (hg : g.method = m) (hsize : g.locals.size = c.maxLocals) {argsL rest : List Value} (hlen : ∀ sig, parseMethodDescriptor y.desc = some sig → argsL.length = sig.parameters.length)
    (hstack : g.stack = argsL.reverse ++ rest) (hW : 2 * g.monitorRoom + (rest.map fun v => v.category).sum ≤ W9) (hdg : decode c.code g.pc = .ok (.invokestatic index, 3))
    (hpre : ∀ vm₁, s.WarmedH vm₁ → Pre ⟨T.setVm vm₁, locs, cells, slots⟩ argsL.toArray) :
    (∃ (v : Option Value) (vm₁ : Vm) (B : Pt), s.WarmedH vm₁ ∧ Stand p l e R s m args below meth c B.U B.locs B.cells B.slots ∧ Post ⟨T.setVm vm₁, locs, cells, slots⟩ argsL.toArray v B ∧
      ∀ target, Steps p.tables e below (B.U.setTop { g with pc := g.pc + 3, stack := v.toList ++ rest }) target → Steps p.tables e below (T.setTop g) target) ∨
    (∃ (q : Addr) (vm₁ : Vm) (B : Pt), s.WarmedH vm₁ ∧ Stand p l e R s m args below meth c B.U B.locs B.cells B.slots ∧ PostX ⟨T.setVm vm₁, locs, cells, slots⟩ argsL.toArray q B ∧
      Steps p.tables e below (T.setTop g) ((B.U.setTop { g with stack := rest }).pushFrame (.throwing q))) := by
  obtain ⟨mk, hnamed⟩ := Cond.code_named hcode
  obtain ⟨methM, cM, hmethM, -, -, -, -, -, -, hsigM⟩ := Cond.code_spec hnamed hcode
  have hstatic : methM.isStatic = true := Cond.static_spec hnamed hmethM hstat
  obtain ⟨kP, hkP, -⟩ := className_of_methodNamed hnamed
  have hinitP : kP.init = .initialized := Cond.initialized_spec (findClass_of_methodNamed hnamed) hkP hinit
  obtain ⟨vm₁, X₁, hstep₁⟩ := X.invokestatic hexec hown hlink hnamed hmethM hstatic hkP hinitP hy (g := g) hg (argsL := argsL) (rest := rest) (hlen _ hsigM) hstack hdg
  rcases hK m meth c ⟨T.setVm vm₁, locs, cells, slots⟩ { g with stack := rest } (.invokestatic index) mk argsL.toArray X₁ hg hsize hdg hW (X₁.named hnamed) (hpre vm₁ X₁.warmed) with ⟨v, B, X', hpost, hsteps⟩ | ⟨q, B, X', hpost, hsteps⟩
  · exact Or.inl ⟨v, vm₁, B, X₁.warmed, X', hpost, fun target h => hstep₁ _ fun acts => by rw [doInvoke_state]; exact hsteps.trans h⟩
  · exact Or.inr ⟨q, vm₁, B, X₁.warmed, X', hpost, hstep₁ _ fun acts => by rw [doInvoke_state]; exact hsteps⟩
end Calls
theorem vx_cls {s : State} {T : State} {vm₁ : Vm} {E : String} {k : ClassId} (hW : s.WarmedH vm₁) (h : (T.setVm vm₁).vm.findClass E = some k) : s.vm.findClass E = some k := by
  have h1 : vm₁.findClass E = some k := h
  rw [hW.alike.findClass] at h1
  exact h1
/-- the method's frame g, with q thrown over it -/
def vx_W (p : Program) (l : Launch) (e : Env) (R : Room) (s : State) (m : MethodId) (args : Array Value) (below : List Frame) (meth : Method) (c : Code) (H : Heap) (locs : List Loc) (cells slots : Nat) (Q : State → Prop) (g : JFrame) (q : Addr) : Prop :=
  ∀ T : State, T.heap = H → Stand p l e R s m args below meth c T locs cells slots → ∃ t, Steps p.tables e below ((T.setTop g).pushFrame (.throwing q)) t ∧ Q t
def vx_Run (p : Program) (l : Launch) (e : Env) (R : Room) (s : State) (m : MethodId) (args : Array Value) (below : List Frame) (meth : Method) (c : Code) (H : Heap) (locs : List Loc) (cells slots mc ms : Nat) (g : JFrame) (rest : List Value) (Qa : State → Outcome → State → Prop) (XC : String → State → State → Prop) (free : Addr → Prop) : Prop :=
  ∀ T : State, T.heap = H → Stand p l e R s m args below meth c T locs cells slots →
    (∃ (v : Option Value) (st₀ t T' : State) (L : List Loc), st₀.heap = H ∧ Stand p l e R s m args below meth c T' (locs ++ L) (cells + mc) (slots + ms) ∧ (∀ q ∈ L, free q.base) ∧ T'.heap = t.heap ∧ T'.vm = t.vm ∧ Qa st₀ (.returned v) t ∧
      Goes p e below T g T' { g with pc := g.pc + 3, stack := v.toList ++ rest }) ∨
    (∃ (q : Addr) (st₀ t T' : State) (L : List Loc) (E : String) (ce : Cell), st₀.heap = H ∧ Stand p l e R s m args below meth c T' (locs ++ L) (cells + mc) (slots + ms) ∧ (∀ z ∈ L, free z.base) ∧ T'.heap = t.heap ∧ T'.vm = t.vm ∧ XC E st₀ t ∧ t.heap[q]? = some ce ∧ ce.vm = .none ∧ s.vm.findClass E = some ce.cls ∧
      Steps p.tables e below (T.setTop g) ((T'.setTop { g with stack := rest }).pushFrame (.throwing q)))
def vx_X {S : Type} (px : S → Prop) (B : String → S → State → Prop) (A : Nat → Prop) : String → State → State → Prop := fun E st t => ∃ u : S, px u ∧ B E u t ∧ va_F A st t
section Runs
variable {p : Program} {l : Launch} {e : Env} {R : Room} {s : State} {m : MethodId} {args : Array Value} {below : List Frame} {meth : Method} {c : Code} {H : Heap} {locs : List Loc} {cells slots : Nat}
variable {y : MethodName} {bytes cc : ByteArray} {maxL nL mc ms n index : Nat} {ret : Option FieldType} {ws : List Cond} {rm : Room} {Pc : Array Value → State → Prop} {Qc : Array Value → State → Outcome → State → Prop} {XC : String → State → State → Prop} {free : Addr → Prop} {Ts : List Cond} {own C : String} {b : Addr} {As rest : List Value} {g : JFrame}
theorem vx_callBack (cb : CallB R s args own index y bytes maxL ret ws rm mc ms n) (hM : vx_Met l y ws rm Pc Qc XC mc ms free) (hbl : FrameBlind Pc) : vx_Back l R p e below s args y 3 8 (PreOf R mc ms Pc) (PostOf Qc mc ms free) (vx_Post XC mc ms free) := by
  obtain ⟨hrc, hrs, hfr, hlo, hws, hcw, -, hini, -⟩ := cb
  exact vx_back (bytes := bytes) (maxL := maxL) (ret := ret) hM hbl hrc hrs hfr hlo hws hcw (fun a' U hW => word_at hW (Or.inl (by first | rfl | simp [Cond.onTables, Cond.keeps, Cond.steady])) hini)
theorem vx_runV (S : CallFix p m c cc nL s args Ts own) (hM : vx_Met l y ws rm Pc Qc XC mc ms free) (cw : CallW R s args own C index y bytes maxL ret ws rm mc ms n) (hp : PreV s H C b Pc As)
    (hg : g.method = m) (hn : As.length = n) (hsize : g.locals.size = nL) (hstack : g.stack = As.reverse ++ .ref b :: rest) (hW : 2 * g.monitorRoom + (rest.map fun v => v.category).sum ≤ 8) (hdg : decode cc g.pc = .ok (.invokevirtual index, 3)) (hf : cells + mc ≤ R.cells ∧ slots + ms ≤ R.slots) :
    vx_Run p l e R s m args below meth c H locs cells slots mc ms g rest (Qc (Value.ref b :: As).toArray) XC free := by
  have hK : vx_Back l R p e below s args y 3 8 (PreOf R mc ms Pc) (PostOf Qc mc ms free) (vx_Post XC mc ms free) := vx_callBack cw.1 hM hp.1
  obtain ⟨⟨-, -, -, -, -, -, hcode, -, hy, hlen, hl⟩, hin, hse⟩ := cw
  obtain ⟨hx, hb, hml, ho, -⟩ := S
  obtain ⟨-, ⟨cellB, hcB, hoB, hclB⟩, hPc⟩ := hp
  intro T hT X
  rcases vx_callV X hx (C := C) (bytes := bytes) (maxL := maxL) (ret := ret) ho hl hin hse hcode hy hK (by rw [hT]; exact hcB) hoB hclB hg (hsize.trans hml.symm) (argsL := As) (rest := rest) (fun sig h => hn.trans (hlen sig h)) hstack hW (by rw [hb]; exact hdg)
    (fun vm₁ hW₁ => ⟨hf.1, hf.2, hPc (T.setVm vm₁) hT hW₁⟩) with ⟨v, vm₁, ⟨U', l2, c2, s2⟩, hW₁, X', ⟨g', mk, t, L, e1, e2, hq, h1, hL, h2, h3⟩, st⟩ | ⟨q, vm₁, ⟨U', l2, c2, s2⟩, hW₁, X', ⟨g', mk, t, L, E, ce, e1, e2, hq, hce, hcv, hcl, h1, hL, h2, h3⟩, st⟩
  · dsimp only [Pt.U, Pt.locs, Pt.cells, Pt.slots] at X' e1 e2 h1 h2 h3 st
    subst h1; subst h2; subst h3
    exact Or.inl ⟨v, (T.setVm vm₁).calling g' mk (Value.ref b :: As).toArray, t, U', L, hT, X', hL, e1, e2, hq, st⟩
  · dsimp only [Pt.U, Pt.locs, Pt.cells, Pt.slots] at X' e1 e2 h1 h2 h3 st hcl
    subst h1; subst h2; subst h3
    exact Or.inr ⟨q, (T.setVm vm₁).calling g' mk (Value.ref b :: As).toArray, t, U', L, E, ce, hT, X', hL, e1, e2, hq, hce, hcv, vx_cls hW₁ hcl, st⟩
theorem vx_runS (S : CallFix p m c cc nL s args Ts own) (hM : vx_Met l y ws rm Pc Qc XC mc ms free) (cw : CallB R s args own index y bytes maxL ret ws rm mc ms n ∧ (Cond.static y).before args s = true) (hp : PreS s H Pc As)
    (hg : g.method = m) (hn : As.length = n) (hsize : g.locals.size = nL) (hstack : g.stack = As.reverse ++ rest) (hW : 2 * g.monitorRoom + (rest.map fun v => v.category).sum ≤ 8) (hdg : decode cc g.pc = .ok (.invokestatic index, 3)) (hf : cells + mc ≤ R.cells ∧ slots + ms ≤ R.slots) :
    vx_Run p l e R s m args below meth c H locs cells slots mc ms g rest (Qc As.toArray) XC free := by
  have hK : vx_Back l R p e below s args y 3 8 (PreOf R mc ms Pc) (PostOf Qc mc ms free) (vx_Post XC mc ms free) := vx_callBack cw.1 hM hp.1
  obtain ⟨⟨-, -, -, -, -, -, hcode, hini, hy, hlen, hl⟩, hstt⟩ := cw
  obtain ⟨hx, hb, hml, ho, -⟩ := S
  intro T hT X
  rcases vx_callS X hx (bytes := bytes) (maxL := maxL) (ret := ret) ho hl hstt hini hcode hy hK hg (hsize.trans hml.symm) (argsL := As) (rest := rest) (fun sig h => hn.trans (hlen sig h)) hstack hW (by rw [hb]; exact hdg)
    (fun vm₁ hW₁ => ⟨hf.1, hf.2, hp.2 (T.setVm vm₁) hT hW₁⟩) with ⟨v, vm₁, ⟨U', l2, c2, s2⟩, hW₁, X', ⟨g', mk, t, L, e1, e2, hq, h1, hL, h2, h3⟩, st⟩ | ⟨q, vm₁, ⟨U', l2, c2, s2⟩, hW₁, X', ⟨g', mk, t, L, E, ce, e1, e2, hq, hce, hcv, hcl, h1, hL, h2, h3⟩, st⟩
  · dsimp only [Pt.U, Pt.locs, Pt.cells, Pt.slots] at X' e1 e2 h1 h2 h3 st
    subst h1; subst h2; subst h3
    exact Or.inl ⟨v, (T.setVm vm₁).calling g' mk As.toArray, t, U', L, hT, X', hL, e1, e2, hq, st⟩
  · dsimp only [Pt.U, Pt.locs, Pt.cells, Pt.slots] at X' e1 e2 h1 h2 h3 st hcl
    subst h1; subst h2; subst h3
    exact Or.inr ⟨q, (T.setVm vm₁).calling g' mk As.toArray, t, U', L, E, ce, hT, X', hL, e1, e2, hq, hce, hcv, vx_cls hW₁ hcl, st⟩
end Runs
section Rows
variable {p : Program} {l : Launch} {e : Env} {R : Room} {s : State} {m : MethodId} {args : Array Value} {below : List Frame} {meth : Method} {c : Code} {H : Heap} {locs : List Loc} {cells slots : Nat} {Q : State → Prop}
variable {mc ms : Nat} {free : Addr → Prop} {A0 A1 : Nat → Prop} {H0 : Heap} {a : Array Value} {pc : Nat} {ls : Array Slot} {st0 rest : List Value}
theorem vx_keep {st₀ t T' : State} {L : List Loc} (h0 : st₀.heap = H) (e1 : T'.heap = t.heap) (hS : va_S A0 H0 H locs) (hA : ∀ q, q < H.size → A1 q → A0 q) (hf : ∀ q, free q → A0 q) (hL : ∀ q ∈ L, free q.base) (hF : va_F A1 st₀ t) :
    H.size ≤ T'.heap.size ∧ (∀ q : Nat, q < H.size → ¬ A1 q → T'.heap[q]? = H[q]?) ∧ va_S A0 H0 T'.heap (locs ++ L) := by
  obtain ⟨hz, hk⟩ := hF
  rw [h0] at hz hk
  exact ⟨by rw [e1]; exact hz, fun q h1 h2 => by rw [e1]; exact hk q h1 h2,
    ⟨Nat.le_trans hS.1 (by rw [e1]; exact hz), fun q h1 h2 => by rw [e1, hk q (Nat.lt_of_lt_of_le h1 hS.1) (fun z => h2 (hA q (Nat.lt_of_lt_of_le h1 hS.1) z))]; exact hS.2.1 q h1 h2, fun q hq => by
      rcases List.mem_append.mp hq with h | h
      · exact hS.2.2 q h
      · exact hf _ (hL q h)⟩⟩
theorem vx_calli {S SX : Type} {post : Int32 → S → Prop} {px : SX → Prop} {B : S → State → Prop} {BX : String → SX → State → Prop} {AX : Nat → Prop} (hr : vx_Run p l e R s m args below meth c H locs cells slots mc ms (F0 m pc ls st0) rest (va_Qi post B A1 a) (vx_X px BX AX) free) (hS : va_S A0 H0 H locs) (hA : ∀ q, q < H.size → A1 q → A0 q) (hf : ∀ q, free q → A0 q) (hAX : ∀ q, q < H.size → AX q → A0 q)
    (kx : ∀ (E : String) (ce : Cell) (q9 : Addr) (u : SX) (t : State) (H1 : Heap) (locs1 : List Loc), t.heap = H1 → s.vm.Alike t.vm → px u → BX E u t → H.size ≤ H1.size → (∀ q : Nat, q < H.size → ¬ AX q → H1[q]? = H[q]?) → va_S A0 H0 H1 locs1 → H1[q9]? = some ce → ce.vm = .none → s.vm.findClass E = some ce.cls → vx_W p l e R s m args below meth c H1 locs1 (cells + mc) (slots + ms) Q (F0 m pc ls rest) q9)
    (kk : ∀ (r : Int32) (u : S) (t : State) (H1 : Heap) (locs1 : List Loc), t.heap = H1 → s.vm.Alike t.vm → post r u → B u t → H.size ≤ H1.size → (∀ q : Nat, q < H.size → ¬ A1 q → H1[q]? = H[q]?) → va_S A0 H0 H1 locs1 → W p l e R s m args below meth c H1 locs1 (cells + mc) (slots + ms) Q (F0 m (pc + 3) ls (.int r :: rest))) : W p l e R s m args below meth c H locs cells slots Q (F0 m pc ls st0) := by
  intro T hT X
  rcases hr T hT X with ⟨v, st₀, t, T', L, h0, X', hL, e1, e2, ⟨⟨r, u, hv, hp, hb⟩, hF⟩, st⟩ | ⟨q, st₀, t, T', L, E, ce, h0, X', hL, e1, e2, ⟨u, hp, hb, hF⟩, hce, hcv, hcl, st⟩
  · cases hv
    obtain ⟨k1, k2, k3⟩ := vx_keep h0 e1 hS hA hf hL hF
    obtain ⟨t2, a1, b1⟩ := kk r u t T'.heap (locs ++ L) e1.symm (by rw [← e2]; exact X'.warmed.alike) hp hb k1 k2 k3 T' rfl X'
    exact ⟨t2, st t2 a1, b1⟩
  · obtain ⟨k1, k2, k3⟩ := vx_keep h0 e1 hS hAX hf hL hF
    obtain ⟨t2, a1, b1⟩ := kx E ce q u t T'.heap (locs ++ L) e1.symm (by rw [← e2]; exact X'.warmed.alike) hp hb k1 k2 k3 (by rw [e1]; exact hce) hcv hcl T' rfl X'
    exact ⟨t2, st.trans a1, b1⟩
theorem vx_calll {S SX : Type} {post : Int64 → S → Prop} {px : SX → Prop} {B : S → State → Prop} {BX : String → SX → State → Prop} {AX : Nat → Prop} (hr : vx_Run p l e R s m args below meth c H locs cells slots mc ms (F0 m pc ls st0) rest (va_Ql post B A1 a) (vx_X px BX AX) free) (hS : va_S A0 H0 H locs) (hA : ∀ q, q < H.size → A1 q → A0 q) (hf : ∀ q, free q → A0 q) (hAX : ∀ q, q < H.size → AX q → A0 q)
    (kx : ∀ (E : String) (ce : Cell) (q9 : Addr) (u : SX) (t : State) (H1 : Heap) (locs1 : List Loc), t.heap = H1 → s.vm.Alike t.vm → px u → BX E u t → H.size ≤ H1.size → (∀ q : Nat, q < H.size → ¬ AX q → H1[q]? = H[q]?) → va_S A0 H0 H1 locs1 → H1[q9]? = some ce → ce.vm = .none → s.vm.findClass E = some ce.cls → vx_W p l e R s m args below meth c H1 locs1 (cells + mc) (slots + ms) Q (F0 m pc ls rest) q9)
    (kk : ∀ (r : Int64) (u : S) (t : State) (H1 : Heap) (locs1 : List Loc), t.heap = H1 → s.vm.Alike t.vm → post r u → B u t → H.size ≤ H1.size → (∀ q : Nat, q < H.size → ¬ A1 q → H1[q]? = H[q]?) → va_S A0 H0 H1 locs1 → W p l e R s m args below meth c H1 locs1 (cells + mc) (slots + ms) Q (F0 m (pc + 3) ls (.long r :: rest))) : W p l e R s m args below meth c H locs cells slots Q (F0 m pc ls st0) := by
  intro T hT X
  rcases hr T hT X with ⟨v, st₀, t, T', L, h0, X', hL, e1, e2, ⟨⟨r, u, hv, hp, hb⟩, hF⟩, st⟩ | ⟨q, st₀, t, T', L, E, ce, h0, X', hL, e1, e2, ⟨u, hp, hb, hF⟩, hce, hcv, hcl, st⟩
  · cases hv
    obtain ⟨k1, k2, k3⟩ := vx_keep h0 e1 hS hA hf hL hF
    obtain ⟨t2, a1, b1⟩ := kk r u t T'.heap (locs ++ L) e1.symm (by rw [← e2]; exact X'.warmed.alike) hp hb k1 k2 k3 T' rfl X'
    exact ⟨t2, st t2 a1, b1⟩
  · obtain ⟨k1, k2, k3⟩ := vx_keep h0 e1 hS hAX hf hL hF
    obtain ⟨t2, a1, b1⟩ := kx E ce q u t T'.heap (locs ++ L) e1.symm (by rw [← e2]; exact X'.warmed.alike) hp hb k1 k2 k3 (by rw [e1]; exact hce) hcv hcl T' rfl X'
    exact ⟨t2, st.trans a1, b1⟩
theorem vx_callf {S SX : Type} {post : UInt32 → S → Prop} {px : SX → Prop} {B : S → State → Prop} {BX : String → SX → State → Prop} {AX : Nat → Prop} (hr : vx_Run p l e R s m args below meth c H locs cells slots mc ms (F0 m pc ls st0) rest (va_Qf post B A1 a) (vx_X px BX AX) free) (hS : va_S A0 H0 H locs) (hA : ∀ q, q < H.size → A1 q → A0 q) (hf : ∀ q, free q → A0 q) (hAX : ∀ q, q < H.size → AX q → A0 q)
    (kx : ∀ (E : String) (ce : Cell) (q9 : Addr) (u : SX) (t : State) (H1 : Heap) (locs1 : List Loc), t.heap = H1 → s.vm.Alike t.vm → px u → BX E u t → H.size ≤ H1.size → (∀ q : Nat, q < H.size → ¬ AX q → H1[q]? = H[q]?) → va_S A0 H0 H1 locs1 → H1[q9]? = some ce → ce.vm = .none → s.vm.findClass E = some ce.cls → vx_W p l e R s m args below meth c H1 locs1 (cells + mc) (slots + ms) Q (F0 m pc ls rest) q9)
    (kk : ∀ (r : UInt32) (u : S) (t : State) (H1 : Heap) (locs1 : List Loc), t.heap = H1 → s.vm.Alike t.vm → post r u → B u t → H.size ≤ H1.size → (∀ q : Nat, q < H.size → ¬ A1 q → H1[q]? = H[q]?) → va_S A0 H0 H1 locs1 → W p l e R s m args below meth c H1 locs1 (cells + mc) (slots + ms) Q (F0 m (pc + 3) ls (.float r :: rest))) : W p l e R s m args below meth c H locs cells slots Q (F0 m pc ls st0) := by
  intro T hT X
  rcases hr T hT X with ⟨v, st₀, t, T', L, h0, X', hL, e1, e2, ⟨⟨r, u, hv, hp, hb⟩, hF⟩, st⟩ | ⟨q, st₀, t, T', L, E, ce, h0, X', hL, e1, e2, ⟨u, hp, hb, hF⟩, hce, hcv, hcl, st⟩
  · cases hv
    obtain ⟨k1, k2, k3⟩ := vx_keep h0 e1 hS hA hf hL hF
    obtain ⟨t2, a1, b1⟩ := kk r u t T'.heap (locs ++ L) e1.symm (by rw [← e2]; exact X'.warmed.alike) hp hb k1 k2 k3 T' rfl X'
    exact ⟨t2, st t2 a1, b1⟩
  · obtain ⟨k1, k2, k3⟩ := vx_keep h0 e1 hS hAX hf hL hF
    obtain ⟨t2, a1, b1⟩ := kx E ce q u t T'.heap (locs ++ L) e1.symm (by rw [← e2]; exact X'.warmed.alike) hp hb k1 k2 k3 (by rw [e1]; exact hce) hcv hcl T' rfl X'
    exact ⟨t2, st.trans a1, b1⟩
theorem vx_calld {S SX : Type} {post : UInt64 → S → Prop} {px : SX → Prop} {B : S → State → Prop} {BX : String → SX → State → Prop} {AX : Nat → Prop} (hr : vx_Run p l e R s m args below meth c H locs cells slots mc ms (F0 m pc ls st0) rest (va_Qd post B A1 a) (vx_X px BX AX) free) (hS : va_S A0 H0 H locs) (hA : ∀ q, q < H.size → A1 q → A0 q) (hf : ∀ q, free q → A0 q) (hAX : ∀ q, q < H.size → AX q → A0 q)
    (kx : ∀ (E : String) (ce : Cell) (q9 : Addr) (u : SX) (t : State) (H1 : Heap) (locs1 : List Loc), t.heap = H1 → s.vm.Alike t.vm → px u → BX E u t → H.size ≤ H1.size → (∀ q : Nat, q < H.size → ¬ AX q → H1[q]? = H[q]?) → va_S A0 H0 H1 locs1 → H1[q9]? = some ce → ce.vm = .none → s.vm.findClass E = some ce.cls → vx_W p l e R s m args below meth c H1 locs1 (cells + mc) (slots + ms) Q (F0 m pc ls rest) q9)
    (kk : ∀ (r : UInt64) (u : S) (t : State) (H1 : Heap) (locs1 : List Loc), t.heap = H1 → s.vm.Alike t.vm → post r u → B u t → H.size ≤ H1.size → (∀ q : Nat, q < H.size → ¬ A1 q → H1[q]? = H[q]?) → va_S A0 H0 H1 locs1 → W p l e R s m args below meth c H1 locs1 (cells + mc) (slots + ms) Q (F0 m (pc + 3) ls (.double r :: rest))) : W p l e R s m args below meth c H locs cells slots Q (F0 m pc ls st0) := by
  intro T hT X
  rcases hr T hT X with ⟨v, st₀, t, T', L, h0, X', hL, e1, e2, ⟨⟨r, u, hv, hp, hb⟩, hF⟩, st⟩ | ⟨q, st₀, t, T', L, E, ce, h0, X', hL, e1, e2, ⟨u, hp, hb, hF⟩, hce, hcv, hcl, st⟩
  · cases hv
    obtain ⟨k1, k2, k3⟩ := vx_keep h0 e1 hS hA hf hL hF
    obtain ⟨t2, a1, b1⟩ := kk r u t T'.heap (locs ++ L) e1.symm (by rw [← e2]; exact X'.warmed.alike) hp hb k1 k2 k3 T' rfl X'
    exact ⟨t2, st t2 a1, b1⟩
  · obtain ⟨k1, k2, k3⟩ := vx_keep h0 e1 hS hAX hf hL hF
    obtain ⟨t2, a1, b1⟩ := kx E ce q u t T'.heap (locs ++ L) e1.symm (by rw [← e2]; exact X'.warmed.alike) hp hb k1 k2 k3 (by rw [e1]; exact hce) hcv hcl T' rfl X'
    exact ⟨t2, st.trans a1, b1⟩
theorem vx_callv {S SX : Type} {post : S → Prop} {px : SX → Prop} {B : S → State → Prop} {BX : String → SX → State → Prop} {AX : Nat → Prop} (hr : vx_Run p l e R s m args below meth c H locs cells slots mc ms (F0 m pc ls st0) rest (va_Qv post B A1 a) (vx_X px BX AX) free) (hS : va_S A0 H0 H locs) (hA : ∀ q, q < H.size → A1 q → A0 q) (hf : ∀ q, free q → A0 q) (hAX : ∀ q, q < H.size → AX q → A0 q)
    (kx : ∀ (E : String) (ce : Cell) (q9 : Addr) (u : SX) (t : State) (H1 : Heap) (locs1 : List Loc), t.heap = H1 → s.vm.Alike t.vm → px u → BX E u t → H.size ≤ H1.size → (∀ q : Nat, q < H.size → ¬ AX q → H1[q]? = H[q]?) → va_S A0 H0 H1 locs1 → H1[q9]? = some ce → ce.vm = .none → s.vm.findClass E = some ce.cls → vx_W p l e R s m args below meth c H1 locs1 (cells + mc) (slots + ms) Q (F0 m pc ls rest) q9)
    (kk : ∀ (u : S) (t : State) (H1 : Heap) (locs1 : List Loc), t.heap = H1 → s.vm.Alike t.vm → post u → B u t → H.size ≤ H1.size → (∀ q : Nat, q < H.size → ¬ A1 q → H1[q]? = H[q]?) → va_S A0 H0 H1 locs1 → W p l e R s m args below meth c H1 locs1 (cells + mc) (slots + ms) Q (F0 m (pc + 3) ls (rest))) : W p l e R s m args below meth c H locs cells slots Q (F0 m pc ls st0) := by
  intro T hT X
  rcases hr T hT X with ⟨v, st₀, t, T', L, h0, X', hL, e1, e2, ⟨⟨u, hv, hp, hb⟩, hF⟩, st⟩ | ⟨q, st₀, t, T', L, E, ce, h0, X', hL, e1, e2, ⟨u, hp, hb, hF⟩, hce, hcv, hcl, st⟩
  · cases hv
    obtain ⟨k1, k2, k3⟩ := vx_keep h0 e1 hS hA hf hL hF
    obtain ⟨t2, a1, b1⟩ := kk u t T'.heap (locs ++ L) e1.symm (by rw [← e2]; exact X'.warmed.alike) hp hb k1 k2 k3 T' rfl X'
    exact ⟨t2, st t2 a1, b1⟩
  · obtain ⟨k1, k2, k3⟩ := vx_keep h0 e1 hS hAX hf hL hF
    obtain ⟨t2, a1, b1⟩ := kx E ce q u t T'.heap (locs ++ L) e1.symm (by rw [← e2]; exact X'.warmed.alike) hp hb k1 k2 k3 (by rw [e1]; exact hce) hcv hcl T' rfl X'
    exact ⟨t2, st.trans a1, b1⟩
/-- caught by the row x of this method's table; the rows ahead don't take it -/
theorem vx_catch {own name : String} {E : String} {ce : Cell} {q : Addr} (hown : s.vm.findClass own = some m.cls) (pre : List ExceptionTableEntry) (x : ExceptionTableEntry) (suf : List ExceptionTableEntry) (hsplit : c.exceptionTable.toList = pre ++ x :: suf)
    (hpass : ∀ z ∈ pre, covers z pc = false ∨ (z.catchType ≠ 0 ∧ ∃ nm : String, (Cond.classLink own z.catchType nm).before args s = true ∧ va_Nc E nm s)) (hx : covers x pc = true) (h0 : x.catchType ≠ 0)
    (hlink : (Cond.classLink own x.catchType name).before args s = true) (hcast : (Cond.castable E name).before args s = true) (hcell : H[q]? = some ce) (hv : ce.vm = .none) (hcl : s.vm.findClass E = some ce.cls)
    (kk : W p l e R s m args below meth c H locs cells slots Q (F0 m x.handlerPc ls [.ref q])) : vx_W p l e R s m args below meth c H locs cells slots Q (F0 m pc ls rest) q := by
  intro T hT X
  have hpl : e.platform.magicAccessors = ({} : Platform).magicAccessors := by rw [X.admits.platform]
  obtain ⟨c3, c4, hc3, hc4, hasg⟩ := Cond.castable_spec hcast
  cases Option.some.inj (hc3.symm.trans hcl)
  obtain ⟨c5, hc5, hcl5⟩ := Cond.classLink_spec hown hlink e.platform hpl
  cases Option.some.inj (hc4.symm.trans hc5)
  obtain ⟨vm', X', st⟩ := X.thenCaughtThrough q (g := F0 m pc ls rest) rfl (Steps.refl _) (by rw [hT]; exact hcell) (by rw [hv]; rfl) (by obtain ⟨k9, h9, -⟩ := Vm.findClass_spec hcl; exact ⟨k9, h9⟩) pre x suf hsplit
    (fun z hz => by
      rcases hpass z hz with h | ⟨hz0, nm, hl1, hn1⟩
      · exact Or.inl h
      · obtain ⟨c6, hc6, hcl6⟩ := Cond.classLink_spec hown hl1 e.platform hpl
        obtain ⟨a8, b8, h1, h2, h3⟩ := hn1
        cases Option.some.inj (h1.symm.trans hcl)
        cases Option.some.inj (h2.symm.trans hc6)
        exact Or.inr ⟨hz0, _, hcl6, h3⟩) hx (Or.inr ⟨h0, c4, hcl5, hasg⟩)
  obtain ⟨t, a1, b1⟩ := kk (T.setVm vm') hT X'
  exact ⟨t, st.trans a1, b1⟩
end Rows
section Ends
variable {p : Program} {l : Launch} {e : Env} {R : Room} {s : State} {m : MethodId} {args : Array Value} {below : List Frame} {meth : Method} {c : Code} {H : Heap} {locs : List Loc} {cells slots : Nat} {Q : State → Prop}
variable {mc ms : Nat} {free : Addr → Prop} {A0 A1 : Nat → Prop} {H0 : Heap} {a : Array Value} {ls : Array Slot} {st0 rest : List Value}
variable {Qc : Array Value → State → Outcome → State → Prop} {XC : String → State → State → Prop}
/-- what a body that may throw owes at its end -/
def vx_MQ (below : List Frame) (Qc : Array Value → State → Outcome → State → Prop) (XC : String → State → State → Prop) (a : Array Value) (s : State) (mc ms : Nat) (free : Addr → Prop) : State → Prop := fun t =>
  ∃ o, t.status = .running ∧ Ended t below o ∧ vx_Q Qc XC mc ms free a s o t
theorem vx_ret {g : JFrame} {mc ms : Nat} (k : W p l e R s m args below meth c H locs cells slots (MQ below Qc args s mc ms free) g) : W p l e R s m args below meth c H locs cells slots (vx_MQ below Qc XC args s mc ms free) g := by
  intro T hT X
  obtain ⟨t, a1, o, b1, b2, b3, b4⟩ := k T hT X
  exact ⟨t, a1, o, b1, b2, Or.inl ⟨b3, b4⟩⟩
/-- not caught here: it goes on to the caller -/
theorem vx_widen {g : JFrame} {q : Addr} {k n : Nat} (h1 : cells ≤ k) (h2 : slots ≤ n) (kk : vx_W p l e R s m args below meth c H locs k n Q g q) : vx_W p l e R s m args below meth c H locs cells slots Q g q := fun T hT X => kk T hT (stand_widen X h1 h2)
theorem vx_out {pc : Nat} {E : String} {ce : Cell} {q : Addr} {mc ms : Nat} (hout : ∀ x ∈ c.exceptionTable.toList, covers x pc = false) (hlocks : meth.locks = false) (hcell : H[q]? = some ce) (hv : ce.vm = .none) (hcl : s.vm.findClass E = some ce.cls)
    (hx : ∀ t : State, t.heap = H → s.vm.Alike t.vm → XC E s t) (hf : ∀ z ∈ locs, free z.base) (hc : cells ≤ mc) (hs : slots ≤ ms) :
    vx_W p l e R s m args below meth c H locs cells slots (vx_MQ below Qc XC args s mc ms free) (F0 m pc ls rest) q := by
  intro T hT X
  obtain ⟨st1, hrun, hend, hW, hsm⟩ := X.leaveThrown q (g := F0 m pc ls rest) rfl rfl rfl hout hlocks
  have hcell9 : (T.setFrames (.throwing q :: below)).heap[q]? = some ce := by
    show T.heap[q]? = some ce
    rw [hT]; exact hcell
  exact ⟨_, st1, .threw q, hrun, hend, Or.inr ⟨q, rfl, E, ce, locs, hx _ hT hW.alike, hcell9, hv, hcl, hW, hsm.mono hc hs, hf⟩⟩
theorem vx_frame {U : State} {k n : Nat} (h : s.sameButNew ({ U with vm := s.vm } : State) locs k n) : s.heap.size ≤ U.heap.size ∧ ∀ q : Nat, q < s.heap.size → (∀ z ∈ locs, z.base ≠ q) → U.heap[q]? = s.heap[q]? := by
  obtain ⟨-, h2, -, -, -, h6⟩ := h
  refine ⟨h2, fun q hq hz => ?_⟩
  obtain ⟨c9, e1, e2, e3, e4⟩ := h6 q _ (Array.getElem?_eq_getElem hq)
  have hs : c9.slots = (s.heap[q]).slots := Array.ext_getElem? fun i => e4 i fun hm => hz _ hm rfl
  have h9 : c9 = s.heap[q] := by
    rw [hs] at e2
    exact e2
  have e5 : U.heap[q]? = some c9 := e1
  rw [e5, h9, Array.getElem?_eq_getElem hq]
/-- the words of a throw but the four that speak of the heap -/
def vx_no (w : Cond) : Bool := decide (w ≠ .isRef (.static Bundle.tN "UNASSIGNED_STACK" Bundle.steD)) && decide (w ≠ .isRef (.static Bundle.tN "SUPPRESSED_SENTINEL" Bundle.listD)) && decide (w ≠ .laysStatic Bundle.tN "UNASSIGNED_STACK" Bundle.steD) && decide (w ≠ .laysStatic Bundle.tN "SUPPRESSED_SENTINEL" Bundle.listD)
def vx_at0 (own : String) (ic : Nat) (X : String) (names : List String) : List Cond := (Bundle.ownAtoms0 own ic X names).filter vx_no
def vx_atS (own : String) (ic : Nat) (X : String) (names : List String) : List Cond := (Bundle.ownAtoms own ic X names).filter vx_no
/-- a word that the tables alone decide, or a good one -/
def vx_ot (w : Cond) : Bool := w.onTables || goodWord w
theorem vx_ot_at {args a' : Array Value} {s U : State} {w : Cond} (hW : s.WarmedH U.vm) (hvm : s.vm = U.vm) (hg : vx_ot w = true) (h : w.before args s = true) : w.before a' U = true := by
  simp only [vx_ot, Bool.or_eq_true] at hg
  rcases hg with hg | hg
  · exact va_tabs hg hvm h
  · exact word_at hW (good_of_word hg) h
/-- a list's words: the good ones out of the method's own list, the others by premises of their own -/
theorem vx_hat {args : Array Value} {s : State} {L B : List Cond} (h1 : ∀ w ∈ L.filter goodWord, w.before args s = true) (h2 : ∀ w ∈ L.filter (fun w => !goodWord w), w ∈ B) (h3 : ∀ w ∈ B, w.before args s = true) : ∀ w ∈ L, w.before args s = true := by
  intro w hw
  by_cases g : goodWord w = true
  · exact h1 w (List.mem_filter.mpr ⟨hw, g⟩)
  · refine h3 w (h2 w (List.mem_filter.mpr ⟨hw, ?_⟩))
    show (!goodWord w) = true
    cases hgw : goodWord w
    · rfl
    · exact absurd hgw g
theorem vx_c {args : Array Value} {s : State} {w : Cond} {B : List Cond} (h : w.before args s = true) (t : ∀ w ∈ B, w.before args s = true) : ∀ w' ∈ w :: B, w'.before args s = true := fun w' h' => (List.mem_cons.mp h').elim (fun e => by rw [e]; exact h) (t w')
theorem vx_n {args : Array Value} {s : State} : ∀ w ∈ ([] : List Cond), w.before args s = true := fun _ h => nomatch h
theorem vx_own {args : Array Value} {s : State} {L : List Cond} (h1 : ∀ w ∈ L.filter vx_no, w.before args s = true)
    (hU : (Cond.isRef (.static Bundle.tN "UNASSIGNED_STACK" Bundle.steD)).before args s = true) (hN : (Cond.isRef (.static Bundle.tN "SUPPRESSED_SENTINEL" Bundle.listD)).before args s = true)
    (lU : (Cond.laysStatic Bundle.tN "UNASSIGNED_STACK" Bundle.steD).before args s = true) (lN : (Cond.laysStatic Bundle.tN "SUPPRESSED_SENTINEL" Bundle.listD).before args s = true) : ∀ w ∈ L, w.before args s = true := by
  intro w hw
  by_cases e1 : w = .isRef (.static Bundle.tN "UNASSIGNED_STACK" Bundle.steD)
  · rw [e1]; exact hU
  · by_cases e2 : w = .isRef (.static Bundle.tN "SUPPRESSED_SENTINEL" Bundle.listD)
    · rw [e2]; exact hN
    · by_cases e3 : w = .laysStatic Bundle.tN "UNASSIGNED_STACK" Bundle.steD
      · rw [e3]; exact lU
      · by_cases e4 : w = .laysStatic Bundle.tN "SUPPRESSED_SENTINEL" Bundle.listD
        · rw [e4]; exact lN
        · exact h1 w (List.mem_filter.mpr ⟨hw, by unfold vx_no; rw [decide_eq_true e1, decide_eq_true e2, decide_eq_true e3, decide_eq_true e4]; rfl⟩)
/-- where a static field lies, its class's statics cell in H -/
def vx_L (C n d : String) (A : Nat → Prop) (U : State) (H : Heap) : Prop := ∃ (c : ClassId) (k : Class) (i : Nat) (f : Field) (a : Nat) (cell : Cell), U.vm.findClass C = some c ∧ U.fieldFound? C n d = some (c, k, i, f) ∧ f.isStatic = true ∧ k.statics = some a ∧ H[a]? = some cell ∧ cell.vm.isStatics = true ∧ cell.cls = c ∧ f.slot < cell.slots.size ∧ k.staticTypes[f.slot]? = some f.type ∧ ¬ A a
theorem vx_L.moved {C n d : String} {A : Nat → Prop} {u U : State} {H : Heap} (hvm : u.vm.Alike U.vm) (h : vx_L C n d A u H) : vx_L C n d A U H := by
  obtain ⟨c, k, i, f, a, cell, h1, h2, h3, h4, h5, h6, h7, h8, h9, h10⟩ := h
  obtain ⟨k', hi', he⟩ := State.fieldFound?_setVm hvm h2
  exact ⟨c, k', i, f, a, cell, by rw [hvm.findClass]; exact h1, hi', h3, by rw [he]; exact h4, h5, h6, h7, h8, by rw [he]; exact h9, h10⟩
theorem vx_L.kept {C n d : String} {A : Nat → Prop} {U : State} {H H1 : Heap} (h : vx_L C n d A U H) (hq : ∀ a : Nat, a < H.size → ¬ A a → H1[a]? = H[a]?) : vx_L C n d A U H1 := by
  obtain ⟨c, k, i, f, a, cell, h1, h2, h3, h4, h5, h6, h7, h8, h9, h10⟩ := h
  exact ⟨c, k, i, f, a, cell, h1, h2, h3, h4, by rw [hq a (Array.getElem?_eq_some_iff.mp h5).1 h10]; exact h5, h6, h7, h8, h9, h10⟩
theorem vx_L.narrow {C n d : String} {A B : Nat → Prop} {U : State} {H : Heap} (h : vx_L C n d A U H) (hAB : ∀ q, B q → A q) : vx_L C n d B U H := by
  obtain ⟨c, k, i, f, a, cell, h1, h2, h3, h4, h5, h6, h7, h8, h9, h10⟩ := h
  exact ⟨c, k, i, f, a, cell, h1, h2, h3, h4, h5, h6, h7, h8, h9, fun z => h10 (hAB _ z)⟩
theorem vx_L.word {C n d : String} {A : Nat → Prop} {s : State} {args : Array Value} (h : vx_L C n d A s s.heap) : (Cond.laysStatic C n d).before args s = true := by
  obtain ⟨c, k, i, f, a, cell, h1, h2, h3, h4, h5, h6, h7, h8, h9, -⟩ := h
  show (Cond.laysStatic C n d).holds args s none s [] = true
  exact Cond.laysStatic_of h1 h2 h3 h4 h5 h6 h7 h8 h9
/-- .. and what it holds: null or some reference -/
def vx_Zq (C n d : String) (A : Nat → Prop) (U : State) (H : Heap) : Prop := va_Zq C n d A U H ∧ vx_L C n d A U H
theorem vx_Zq.moved {C n d : String} {A : Nat → Prop} {u U : State} {H : Heap} (hvm : u.vm.Alike U.vm) (h : vx_Zq C n d A u H) : vx_Zq C n d A U H := ⟨va_Zq.moved hvm h.1, vx_L.moved hvm h.2⟩
theorem vx_Zq.kept {C n d : String} {A : Nat → Prop} {U : State} {H H1 : Heap} (h : vx_Zq C n d A U H) (hq : ∀ a : Nat, a < H.size → ¬ A a → H1[a]? = H[a]?) : vx_Zq C n d A U H1 := ⟨va_Zq.kept h.1 hq, vx_L.kept h.2 hq⟩
theorem vx_Zq.narrow {C n d : String} {A B : Nat → Prop} {U : State} {H : Heap} (h : vx_Zq C n d A U H) (hAB : ∀ q, B q → A q) : vx_Zq C n d B U H := ⟨va_Zq.narrow h.1 hAB, vx_L.narrow h.2 hAB⟩
theorem vx_Zqof {args : Array Value} {s : State} {C n d : String} {A : Nat → Prop} (hl : (Cond.laysStatic C n d).before args s = true) (hini : (Cond.initialized C).before args s = true) (h : (Cond.isRef (.static C n d)).before args s = true) (hA : ∀ a : Nat, a < s.heap.size → ¬ A a) : vx_Zq C n d A s s.heap := by
  refine ⟨va_Zqof hl hini h hA, ?_⟩
  obtain ⟨c, k, i, f, a, cell, h1, h2, h3, h4, h5, h6, h7, h8, h9⟩ := Cond.laysStatic_spec hl
  exact ⟨c, k, i, f, a, cell, h1, h2, h3, h4, h5, h6, h7, h8, h9, hA a (Array.getElem?_eq_some_iff.mp h5).1⟩
theorem vx_isRef {C n d : String} {v : Value} {A : Nat → Prop} {s : State} {args : Array Value} (h : va_Z C n d v A s s.heap) (hv : v.isRef = true) : (Cond.isRef (.static C n d)).before args s = true := by
  obtain ⟨cf, kf, fi, f, a, cell, h1, h2, h3, h4, h5, h6, h7, -⟩ := h
  have he : (Term.static C n d).eval args s none [] s = some v := by
    simp [Term.eval, State.fieldNamed?, h1, h2, h4, h5, h6, h7]
  simp only [Cond.before, Cond.holds, Cond.value, he]
  cases v <;> simp_all [Value.isRef]
theorem vx_isRefq {C n d : String} {A : Nat → Prop} {s : State} {args : Array Value} (h : va_Zq C n d A s s.heap) : (Cond.isRef (.static C n d)).before args s = true := by
  rcases h with h | ⟨t, h⟩
  · exact vx_isRef h rfl
  · exact vx_isRef h rfl
/-- the same frame, seen from here: as if the method were called anew in this heap -/
theorem vx_rebase {T : State} (X : Stand p l e R s m args below meth c T locs cells slots) {R' : Room} (hf : R'.frames ≤ R.frames) (hl : R'.locals ≤ R.locals) (hc : cells + R'.cells ≤ R.cells) (hs : slots + R'.slots ≤ R.slots) :
    Stand p l e R' ((T.setVm s.vm).setFrames (.invoking m args :: below)) m args below meth c T [] 0 0 := by
  have htop : (T.setVm s.vm).topJava?.isSome := X.here.top
  have hF : ((T.setVm s.vm).setFrames (.invoking m args :: below)).frames = .invoking m args :: below := State.frames_setFrames _ (State.cur_lt_of_top htop)
  obtain ⟨g₀, hg0⟩ := Option.isSome_iff_exists.mp htop
  obtain ⟨r, hr⟩ := State.topJava?_eq_some.mp hg0
  have hl9 : e.platform.stackLimits (T.setVm s.vm).me = e.platform.stackLimits s.me := X.limits
  have hb9 : (T.setVm s.vm).me.stackBytes = s.me.stackBytes := X.bytes
  refine ⟨X.admits, X.cas, X.clock, hF, ?_, X.hears, X.method, X.code, X.here, X.tail, X.warmed, ?_, ?_, ?_⟩
  · have h := X.room
    have hU : ((T.setVm s.vm).setFrames (.invoking m args :: below)).localsInUse = s.localsInUse := by
      rw [State.localsInUse_invoking hF (meth := meth) (c := c) X.method X.code, State.localsInUse_invoking X.frames X.method X.code]
    simp only [State.hasRoom, Bool.and_eq_true, decide_eq_true_eq] at h ⊢
    obtain ⟨⟨⟨⟨h1, h2, h3, h4, h5, h6⟩, h7⟩, h8⟩, h9⟩ := h
    rw [X.frames, List.length_cons] at h2 h3
    have q1 := X.heapSize
    have q2 := X.used
    simp only [hF, hU, List.length_cons, State.stackLimits_setFrames, State.stackBytes_setFrames, hl9, hb9]
    refine ⟨⟨⟨⟨by omega, by omega, by omega, by omega, by omega, h6⟩, ?_⟩, ?_⟩, X.book⟩
    · show T.heap.size + R'.cells ≤ e.platform.maxCells
      omega
    · show T.slotsUsed + R'.slots ≤ e.platform.maxSlots
      omega
  · rw [State.stackLimits_setFrames]; rfl
  · rw [State.stackBytes_setFrames]; rfl
  · refine ⟨?_, Nat.le_refl _, Nat.le_refl _, ?_, ?_, fun a c9 h9 => ⟨c9, h9, rfl, rfl, fun _ _ => rfl⟩⟩
    · obtain ⟨t, ht, -⟩ := State.frames_cons hr
      show T.setVm s.vm = { ((T.setVm s.vm).setFrames (.invoking m args :: below)).setFrames (T.setVm s.vm).frames with heap := T.heap, slotsUsed := T.slotsUsed }
      rw [State.setFrames_setFrames, State.setFrames_self ht]
      rfl
    · show T.slotsUsed = T.slotsUsed + ((T.heap.toList.drop T.heap.size).map (·.slots.size)).sum
      rw [List.drop_eq_nil_of_le (Nat.le_of_eq Array.length_toList)]
      rfl
    · show ((T.heap.toList.drop T.heap.size).map (·.slots.size)).sum ≤ 0
      rw [List.drop_eq_nil_of_le (Nat.le_of_eq Array.length_toList)]
      exact Nat.le_refl _
/-- 'throw new E()': new; dup; invokespecial; athrow -/
theorem vx_throw0 {cc : ByteArray} {pc : Nat} (hexec : p.tables.exec = Jvm.exec) (hb : c.code = cc) (hl : l.stackTraces = false) {own cls : String} {names : List String} {ik ic mc ms : Nat} {A : Nat → Prop}
    (hown : s.vm.findClass own = some m.cls) (hcls : Bundle.fit cls = true) (hnames : ∀ n ∈ names, Bundle.fit n = true)
    (hk : (Cond.classLink own ik cls).before args s = true) (hini : (Cond.initialized cls).before args s = true) (hat : ∀ w ∈ vx_at0 own ic cls names, w.before args s = true)
    (hgood : ∀ w ∈ Cond.classLink own ik cls :: Cond.initialized cls :: vx_at0 own ic cls names, vx_ot w = true)
    (hU : vx_Zq Bundle.tN "UNASSIGNED_STACK" Bundle.steD A s s.heap) (hN : vx_Zq Bundle.tN "SUPPRESSED_SENTINEL" Bundle.listD A s s.heap) (hS : va_S A s.heap H locs) (hsize : ls.size = c.maxLocals)
    (d0 : decode cc pc = .ok (.new ik, 3)) (d3 : decode cc (pc + 3) = .ok (.dup, 1)) (d4 : decode cc (pc + 4) = .ok (.invokespecial ic, 3)) (d7 : decode cc (pc + 7) = .ok (.athrow, 1))
    (hout : ∀ x ∈ c.exceptionTable.toList, covers x (pc + 7) = false)
    (hRframes : names.length + 3 < R.frames) (hRlocals : (rest.map fun v => v.category).sum + (13 * (names.length + 1) + 42) ≤ R.locals) (hRcells : cells + 1 ≤ R.cells) (hRslots : slots + 6 ≤ R.slots) (hlocks : meth.locks = false)
    (hx : ∀ t : State, s.vm.Alike t.vm → H.size ≤ t.heap.size → (∀ q : Nat, q < H.size → t.heap[q]? = H[q]?) → XC cls s t)
    (hf : ∀ z ∈ locs, free z.base) (hc : cells + 1 ≤ mc) (hs : slots + 6 ≤ ms) :
    W p l e R s m args below meth c H locs cells slots (vx_MQ below Qc XC args s mc ms free) (F0 m pc ls rest) := by
  intro T hT X
  have htr : e.platform.stackTraces = false := (show e.platform.stackTraces = l.stackTraces by rw [X.admits.platform]).trans hl
  have Y := vx_rebase X (R' := { frames := R.frames, locals := R.locals, cells := 1, slots := 6 }) (Nat.le_refl _) (Nat.le_refl _) hRcells hRslots
  obtain ⟨s', hA⟩ : ∃ z, z = (T.setVm s.vm).setFrames (.invoking m args :: below) := ⟨_, rfl⟩
  rw [← hA] at Y
  have hvm : s'.vm = s.vm := by rw [hA]; rfl
  have hhp : s'.heap = H := by rw [hA]; exact hT
  have hW0 : s.WarmedH s'.vm := by rw [hvm]; exact State.WarmedH.refl s
  have hat' : ∀ w ∈ vx_at0 own ic cls names, w.before args s' = true := fun w hw => vx_ot_at hW0 hvm.symm (hgood w (List.mem_cons_of_mem _ (List.mem_cons_of_mem _ hw))) (hat w hw)
  have hk' : (Cond.classLink own ik cls).before args s' = true := vx_ot_at hW0 hvm.symm (hgood _ List.mem_cons_self) hk
  have hini' : (Cond.initialized cls).before args s' = true := vx_ot_at hW0 hvm.symm (hgood _ (List.mem_cons_of_mem _ List.mem_cons_self)) hini
  have hU' : vx_Zq Bundle.tN "UNASSIGNED_STACK" Bundle.steD A s' s'.heap := by rw [hhp]; exact vx_Zq.moved hW0.alike (hU.kept hS.2.1)
  have hN' : vx_Zq Bundle.tN "SUPPRESSED_SENTINEL" Bundle.listD A s' s'.heap := by rw [hhp]; exact vx_Zq.moved hW0.alike (hN.kept hS.2.1)
  have h : ∀ w ∈ Bundle.ownAtoms0 own ic cls names, w.before args s' = true := vx_own hat' (vx_isRefq hU'.1) (vx_isRefq hN'.1) hU'.2.word hN'.2.word
  have hown' : s'.vm.findClass own = some m.cls := by rw [hvm]; exact hown
  have hins : (Cond.instantiable cls 6).before args s' = true := h _ (by simp [Bundle.ownAtoms0])
  obtain ⟨vm₁, cX, kX, hfX, hkX, -, -, X₁, st1⟩ := Y.newCold hexec (own := own) (C := cls) (index := ik) (n := 6) hown' hk' hins hini'
    (g := F0 m pc ls rest) rfl (by rw [hb]; exact d0) (Nat.le_refl _) (Nat.le_refl _)
  generalize hT1 : (T.setVm vm₁).pushCell { cls := cX, slots := kX.instanceTypes.map defaultValue, vm := .none } = T1 at X₁ st1
  have hcat : (Value.ref T.heap.size).category = 1 := rfl
  have hcellA : T1.heap[T.heap.size]? = some (freshCell cX kX) := by rw [← hT1]; exact State.heap_pushCell_size _ _
  have d3' : decode c.code (pc + 3) = .ok (.dup, 1) := by rw [hb]; exact d3
  obtain ⟨U, hsteps, hrun, hend, hW, hsame, ce, hce, hO⟩ := X₁.ctorThrow0 hexec htr (own := own) (cls := cls) (names := names) (ic := ic) hown' hcls hnames h (fun x hx => nomatch hx) hfX hkX hcellA (by rw [hhp, hT]; exact Nat.le_refl _)
    (g := { method := m, pc := pc + 4, locals := ls, stack := .ref T.heap.size :: .ref T.heap.size :: rest, locked := none }) rfl hsize rfl rfl (rest := rest) rfl
    (by rw [hb]; exact d4) (by rw [hb]; exact d7) hout hRframes (by simp only [List.map_cons, List.sum_cons, hcat]; omega) hlocks
  obtain ⟨f1, f2⟩ := vx_frame hsame
  rw [hhp] at f1 f2
  have hWs : s.WarmedH U.vm := State.WarmedH.trans hW0 hW
  have hcl : s.vm.findClass cls = some ce.cls := by
    have h9 := hO.cls
    rw [hvm] at h9
    exact h9
  have hall : s.sameButNew ({ U with vm := s.vm } : State) locs mc ms := by
    subst hA
    obtain ⟨e1, e2⟩ := hsame
    rw [State.setFrames_setFrames] at e1
    have h2 : (T.setVm s.vm).sameButNew ({ U with vm := s.vm } : State) [] (0 + 1) (0 + 6) := ⟨e1, e2⟩
    have h3 := X.same.trans h2
    rw [List.append_nil] at h3
    exact h3.mono hc hs
  refine ⟨U, ?_, .threw T.heap.size, hrun, hend, Or.inr ⟨T.heap.size, rfl, cls, ce, locs, hx U hWs.alike f1 (fun q hq => f2 q hq (fun z hz => nomatch hz)), hce, hO.vm, hcl, hWs, hall, hf⟩⟩
  refine st1 _ ?_
  show Steps p.tables e below (T1.setTop { method := m, pc := pc + 3, locals := ls, stack := .ref T.heap.size :: rest, locked := none }) _
  jvm_step X₁.here [X₁.here.top, hexec, d3', Value.category]
  exact hsteps
/-- 'throw new E("text")': new; dup; ldc; invokespecial; athrow -/
theorem vx_throwS {cc : ByteArray} {pc : Nat} (hexec : p.tables.exec = Jvm.exec) (hb : c.code = cc) (hl : l.stackTraces = false) {own cls text : String} {names : List String} {ik is ic mc ms sa : Nat} {A : Nat → Prop}
    (hown : s.vm.findClass own = some m.cls) (hcls : Bundle.fit cls = true) (hnames : ∀ n ∈ names, Bundle.fit n = true)
    (hk : (Cond.classLink own ik cls).before args s = true) (hini : (Cond.initialized cls).before args s = true) (hstr : vk_R own is text sa s) (hat : ∀ w ∈ vx_atS own ic cls names, w.before args s = true)
    (hgood : ∀ w ∈ Cond.classLink own ik cls :: Cond.initialized cls :: vx_atS own ic cls names, vx_ot w = true)
    (hU : vx_Zq Bundle.tN "UNASSIGNED_STACK" Bundle.steD A s s.heap) (hN : vx_Zq Bundle.tN "SUPPRESSED_SENTINEL" Bundle.listD A s s.heap) (hS : va_S A s.heap H locs) (hsize : ls.size = c.maxLocals)
    (d0 : decode cc pc = .ok (.new ik, 3)) (d3 : decode cc (pc + 3) = .ok (.dup, 1)) (d4 : decode cc (pc + 4) = .ok (.ldc is, 2)) (d6 : decode cc (pc + 6) = .ok (.invokespecial ic, 3)) (d9 : decode cc (pc + 9) = .ok (.athrow, 1))
    (hout : ∀ x ∈ c.exceptionTable.toList, covers x (pc + 9) = false)
    (hRframes : names.length + 3 < R.frames) (hRlocals : (rest.map fun v => v.category).sum + (13 * (names.length + 1) + 43) ≤ R.locals) (hRcells : cells + 1 ≤ R.cells) (hRslots : slots + 6 ≤ R.slots) (hlocks : meth.locks = false)
    (hx : ∀ t : State, s.vm.Alike t.vm → H.size ≤ t.heap.size → (∀ q : Nat, q < H.size → t.heap[q]? = H[q]?) → XC cls s t)
    (hf : ∀ z ∈ locs, free z.base) (hc : cells + 1 ≤ mc) (hs : slots + 6 ≤ ms) :
    W p l e R s m args below meth c H locs cells slots (vx_MQ below Qc XC args s mc ms free) (F0 m pc ls rest) := by
  intro T hT X
  have htr : e.platform.stackTraces = false := (show e.platform.stackTraces = l.stackTraces by rw [X.admits.platform]).trans hl
  have Y := vx_rebase X (R' := { frames := R.frames, locals := R.locals, cells := 1, slots := 6 }) (Nat.le_refl _) (Nat.le_refl _) hRcells hRslots
  obtain ⟨s', hA⟩ : ∃ z, z = (T.setVm s.vm).setFrames (.invoking m args :: below) := ⟨_, rfl⟩
  rw [← hA] at Y
  have hvm : s'.vm = s.vm := by rw [hA]; rfl
  have hhp : s'.heap = H := by rw [hA]; exact hT
  have hW0 : s.WarmedH s'.vm := by rw [hvm]; exact State.WarmedH.refl s
  have hat' : ∀ w ∈ vx_atS own ic cls names, w.before args s' = true := fun w hw => vx_ot_at hW0 hvm.symm (hgood w (List.mem_cons_of_mem _ (List.mem_cons_of_mem _ hw))) (hat w hw)
  have hk' : (Cond.classLink own ik cls).before args s' = true := vx_ot_at hW0 hvm.symm (hgood _ List.mem_cons_self) hk
  have hini' : (Cond.initialized cls).before args s' = true := vx_ot_at hW0 hvm.symm (hgood _ (List.mem_cons_of_mem _ List.mem_cons_self)) hini
  have hU' : vx_Zq Bundle.tN "UNASSIGNED_STACK" Bundle.steD A s' s'.heap := by rw [hhp]; exact vx_Zq.moved hW0.alike (hU.kept hS.2.1)
  have hN' : vx_Zq Bundle.tN "SUPPRESSED_SENTINEL" Bundle.listD A s' s'.heap := by rw [hhp]; exact vx_Zq.moved hW0.alike (hN.kept hS.2.1)
  have h : ∀ w ∈ Bundle.ownAtoms own ic cls names, w.before args s' = true := vx_own hat' (vx_isRefq hU'.1) (vx_isRefq hN'.1) hU'.2.word hN'.2.word
  have hown' : s'.vm.findClass own = some m.cls := by rw [hvm]; exact hown
  have hins : (Cond.instantiable cls 6).before args s' = true := h _ (by simp [Bundle.ownAtoms])
  obtain ⟨vm₁, cX, kX, hfX, hkX, -, -, X₁, st1⟩ := Y.newCold hexec (own := own) (C := cls) (index := ik) (n := 6) hown' hk' hins hini'
    (g := F0 m pc ls rest) rfl (by rw [hb]; exact d0) (Nat.le_refl _) (Nat.le_refl _)
  generalize hT1 : (T.setVm vm₁).pushCell { cls := cX, slots := kX.instanceTypes.map defaultValue, vm := .none } = T1 at X₁ st1
  have hcat : (Value.ref T.heap.size).category = 1 := rfl
  have hcellA : T1.heap[T.heap.size]? = some (freshCell cX kX) := by rw [← hT1]; exact State.heap_pushCell_size _ _
  have d3' : decode c.code (pc + 3) = .ok (.dup, 1) := by rw [hb]; exact d3
  have d4' : decode c.code (pc + 4) = .ok (.ldc is, 2) := by rw [hb]; exact d4
  have hstr' : vk_R own is text sa s' := vk_R.warm hW0 hstr
  obtain ⟨U, hsteps, hrun, hend, hW, hsame, ce, hce, hO⟩ := X₁.ctorThrowS hexec htr (own := own) (cls := cls) (names := names) (ic := ic) hown' hcls hnames h (fun x hx => nomatch hx) hfX hkX hcellA (by rw [hhp, hT]; exact Nat.le_refl _) (msg := .ref sa) rfl
    (g := { method := m, pc := pc + 6, locals := ls, stack := .ref sa :: .ref T.heap.size :: .ref T.heap.size :: rest, locked := none }) rfl hsize rfl rfl (rest := rest) rfl
    (by rw [hb]; exact d6) (by rw [hb]; exact d9) hout hRframes (by simp only [List.map_cons, List.sum_cons, hcat]; omega) hlocks
  obtain ⟨f1, f2⟩ := vx_frame hsame
  rw [hhp] at f1 f2
  have hWs : s.WarmedH U.vm := State.WarmedH.trans hW0 hW
  have hcl : s.vm.findClass cls = some ce.cls := by
    have h9 := hO.cls
    rw [hvm] at h9
    exact h9
  have hall : s.sameButNew ({ U with vm := s.vm } : State) locs mc ms := by
    subst hA
    obtain ⟨e1, e2⟩ := hsame
    rw [State.setFrames_setFrames] at e1
    have h2 : (T.setVm s.vm).sameButNew ({ U with vm := s.vm } : State) [] (0 + 1) (0 + 6) := ⟨e1, e2⟩
    have h3 := X.same.trans h2
    rw [List.append_nil] at h3
    exact h3.mono hc hs
  refine ⟨U, ?_, .threw T.heap.size, hrun, hend, Or.inr ⟨T.heap.size, rfl, cls, ce, locs, hx U hWs.alike f1 (fun q hq => f2 q hq (fun z hz => nomatch hz)), hce, hO.vm, hcl, hWs, hall, hf⟩⟩
  refine st1 _ ?_
  show Steps p.tables e below (T1.setTop { method := m, pc := pc + 3, locals := ls, stack := .ref T.heap.size :: rest, locked := none }) _
  jvm_step X₁.here [X₁.here.top, hexec, d3', Value.category]
  exact X₁.ldcString hexec (own := own) (text := text) (index := is) (a := sa) hown' hstr'.1 hstr'.2
    (g := { method := m, pc := pc + 4, locals := ls, stack := .ref T.heap.size :: .ref T.heap.size :: rest, locked := none }) rfl d4' _ hsteps
/-- 'throw new E("text")', the text by a wide index -/
theorem vx_throwSW {cc : ByteArray} {pc : Nat} (hexec : p.tables.exec = Jvm.exec) (hb : c.code = cc) (hl : l.stackTraces = false) {own cls text : String} {names : List String} {ik is ic mc ms sa : Nat} {A : Nat → Prop}
    (hown : s.vm.findClass own = some m.cls) (hcls : Bundle.fit cls = true) (hnames : ∀ n ∈ names, Bundle.fit n = true)
    (hk : (Cond.classLink own ik cls).before args s = true) (hini : (Cond.initialized cls).before args s = true) (hstr : vk_R own is text sa s) (hat : ∀ w ∈ vx_atS own ic cls names, w.before args s = true)
    (hgood : ∀ w ∈ Cond.classLink own ik cls :: Cond.initialized cls :: vx_atS own ic cls names, vx_ot w = true)
    (hU : vx_Zq Bundle.tN "UNASSIGNED_STACK" Bundle.steD A s s.heap) (hN : vx_Zq Bundle.tN "SUPPRESSED_SENTINEL" Bundle.listD A s s.heap) (hS : va_S A s.heap H locs) (hsize : ls.size = c.maxLocals)
    (d0 : decode cc pc = .ok (.new ik, 3)) (d3 : decode cc (pc + 3) = .ok (.dup, 1)) (d4 : decode cc (pc + 4) = .ok (.ldc_w is, 3)) (d7 : decode cc (pc + 7) = .ok (.invokespecial ic, 3)) (d10 : decode cc (pc + 10) = .ok (.athrow, 1))
    (hout : ∀ x ∈ c.exceptionTable.toList, covers x (pc + 10) = false)
    (hRframes : names.length + 3 < R.frames) (hRlocals : (rest.map fun v => v.category).sum + (13 * (names.length + 1) + 43) ≤ R.locals) (hRcells : cells + 1 ≤ R.cells) (hRslots : slots + 6 ≤ R.slots) (hlocks : meth.locks = false)
    (hx : ∀ t : State, s.vm.Alike t.vm → H.size ≤ t.heap.size → (∀ q : Nat, q < H.size → t.heap[q]? = H[q]?) → XC cls s t)
    (hf : ∀ z ∈ locs, free z.base) (hc : cells + 1 ≤ mc) (hs : slots + 6 ≤ ms) :
    W p l e R s m args below meth c H locs cells slots (vx_MQ below Qc XC args s mc ms free) (F0 m pc ls rest) := by
  intro T hT X
  have htr : e.platform.stackTraces = false := (show e.platform.stackTraces = l.stackTraces by rw [X.admits.platform]).trans hl
  have Y := vx_rebase X (R' := { frames := R.frames, locals := R.locals, cells := 1, slots := 6 }) (Nat.le_refl _) (Nat.le_refl _) hRcells hRslots
  obtain ⟨s', hA⟩ : ∃ z, z = (T.setVm s.vm).setFrames (.invoking m args :: below) := ⟨_, rfl⟩
  rw [← hA] at Y
  have hvm : s'.vm = s.vm := by rw [hA]; rfl
  have hhp : s'.heap = H := by rw [hA]; exact hT
  have hW0 : s.WarmedH s'.vm := by rw [hvm]; exact State.WarmedH.refl s
  have hat' : ∀ w ∈ vx_atS own ic cls names, w.before args s' = true := fun w hw => vx_ot_at hW0 hvm.symm (hgood w (List.mem_cons_of_mem _ (List.mem_cons_of_mem _ hw))) (hat w hw)
  have hk' : (Cond.classLink own ik cls).before args s' = true := vx_ot_at hW0 hvm.symm (hgood _ List.mem_cons_self) hk
  have hini' : (Cond.initialized cls).before args s' = true := vx_ot_at hW0 hvm.symm (hgood _ (List.mem_cons_of_mem _ List.mem_cons_self)) hini
  have hU' : vx_Zq Bundle.tN "UNASSIGNED_STACK" Bundle.steD A s' s'.heap := by rw [hhp]; exact vx_Zq.moved hW0.alike (hU.kept hS.2.1)
  have hN' : vx_Zq Bundle.tN "SUPPRESSED_SENTINEL" Bundle.listD A s' s'.heap := by rw [hhp]; exact vx_Zq.moved hW0.alike (hN.kept hS.2.1)
  have h : ∀ w ∈ Bundle.ownAtoms own ic cls names, w.before args s' = true := vx_own hat' (vx_isRefq hU'.1) (vx_isRefq hN'.1) hU'.2.word hN'.2.word
  have hown' : s'.vm.findClass own = some m.cls := by rw [hvm]; exact hown
  have hins : (Cond.instantiable cls 6).before args s' = true := h _ (by simp [Bundle.ownAtoms])
  obtain ⟨vm₁, cX, kX, hfX, hkX, -, -, X₁, st1⟩ := Y.newCold hexec (own := own) (C := cls) (index := ik) (n := 6) hown' hk' hins hini'
    (g := F0 m pc ls rest) rfl (by rw [hb]; exact d0) (Nat.le_refl _) (Nat.le_refl _)
  generalize hT1 : (T.setVm vm₁).pushCell { cls := cX, slots := kX.instanceTypes.map defaultValue, vm := .none } = T1 at X₁ st1
  have hcat : (Value.ref T.heap.size).category = 1 := rfl
  have hcellA : T1.heap[T.heap.size]? = some (freshCell cX kX) := by rw [← hT1]; exact State.heap_pushCell_size _ _
  have d3' : decode c.code (pc + 3) = .ok (.dup, 1) := by rw [hb]; exact d3
  have d4' : decode c.code (pc + 4) = .ok (.ldc_w is, 3) := by rw [hb]; exact d4
  have hstr' : vk_R own is text sa s' := vk_R.warm hW0 hstr
  obtain ⟨U, hsteps, hrun, hend, hW, hsame, ce, hce, hO⟩ := X₁.ctorThrowS hexec htr (own := own) (cls := cls) (names := names) (ic := ic) hown' hcls hnames h (fun x hx => nomatch hx) hfX hkX hcellA (by rw [hhp, hT]; exact Nat.le_refl _) (msg := .ref sa) rfl
    (g := { method := m, pc := pc + 7, locals := ls, stack := .ref sa :: .ref T.heap.size :: .ref T.heap.size :: rest, locked := none }) rfl hsize rfl rfl (rest := rest) rfl
    (by rw [hb]; exact d7) (by rw [hb]; exact d10) hout hRframes (by simp only [List.map_cons, List.sum_cons, hcat]; omega) hlocks
  obtain ⟨f1, f2⟩ := vx_frame hsame
  rw [hhp] at f1 f2
  have hWs : s.WarmedH U.vm := State.WarmedH.trans hW0 hW
  have hcl : s.vm.findClass cls = some ce.cls := by
    have h9 := hO.cls
    rw [hvm] at h9
    exact h9
  have hall : s.sameButNew ({ U with vm := s.vm } : State) locs mc ms := by
    subst hA
    obtain ⟨e1, e2⟩ := hsame
    rw [State.setFrames_setFrames] at e1
    have h2 : (T.setVm s.vm).sameButNew ({ U with vm := s.vm } : State) [] (0 + 1) (0 + 6) := ⟨e1, e2⟩
    have h3 := X.same.trans h2
    rw [List.append_nil] at h3
    exact h3.mono hc hs
  refine ⟨U, ?_, .threw T.heap.size, hrun, hend, Or.inr ⟨T.heap.size, rfl, cls, ce, locs, hx U hWs.alike f1 (fun q hq => f2 q hq (fun z hz => nomatch hz)), hce, hO.vm, hcl, hWs, hall, hf⟩⟩
  refine st1 _ ?_
  show Steps p.tables e below (T1.setTop { method := m, pc := pc + 3, locals := ls, stack := .ref T.heap.size :: rest, locked := none }) _
  jvm_step X₁.here [X₁.here.top, hexec, d3', Value.category]
  exact X₁.ldcStringW hexec (own := own) (text := text) (index := is) (a := sa) hown' hstr'.1 hstr'.2
    (g := { method := m, pc := pc + 4, locals := ls, stack := .ref T.heap.size :: .ref T.heap.size :: rest, locked := none }) rfl d4' _ hsteps
end Ends
section Bodies
variable {l : Launch}
theorem vx_ofW {y : MethodName} {ws ws' : List Cond} {rm : Room} {Pc : Array Value → State → Prop} {Qc : Array Value → State → Outcome → State → Prop} {XC : String → State → State → Prop} {mc ms : Nat} {free : Addr → Prop} {cc : ByteArray} {maxL : Nat} {ret : Option FieldType}
    (hy : plainName y.cls = true) (hw : ws = Cond.code y cc maxL ret :: ws')
    (body : ∀ p e s m args below meth c s₁, BodyLoose p l y (headSpec ws rm) cc maxL ret e s m args below meth c s₁ → c.maxLocals = maxL → (∀ x ∈ c.exceptionTable.toList, False) → Pc args s →
      W p l e (headSpec ws rm).room s m args below meth c s.heap [] 0 0 (vx_MQ below Qc XC args s mc ms free) (entryFrame m args maxL)) : vx_Met l y ws rm Pc Qc XC mc ms free := by
  refine MetFree.of_bodyS (code := cc) (maxLocals := maxL) (ret := ret) hy ?_ ?_
  · intro args s m h hn
    obtain ⟨meth, c, h1, h2, h3, h4, h5, h6, -, -⟩ := Cond.code_spec hn (atoms_spec (ws := ws) h _ (by rw [hw]; exact List.mem_cons_self))
    exact ⟨meth, c, h1, h2, h3, h4, h5, h6⟩
  · intro p e s m args below meth c s₁ B hml hP _
    have hh0 : s₁.heap = s.heap := by rw [B.state]; rfl
    have ht : ∀ x ∈ c.exceptionTable.toList, False := by
      obtain ⟨meth9, c9, h1, h2, -, -, -, -, h7, -⟩ := Cond.code_spec B.named (atoms_spec (ws := ws) B.pre _ (by rw [hw]; exact List.mem_cons_self))
      cases Option.some.inj (h1.symm.trans B.method)
      cases Option.some.inj (h2.symm.trans (Stand.of_body B).code)
      intro x hx
      rw [Array.isEmpty_iff.mp h7] at hx
      cases hx
    obtain ⟨t, a1, o, b1, b2, b3⟩ := body p e s m args below meth c s₁ B hml ht hP s₁ hh0 (Stand.of_body B)
    exact ⟨t, o, a1, b1, b2, b3⟩
/-- the table of a body with handlers -/
theorem vx_table {p : Program} {x y : MethodName} {S : Spec} {cc bytes : ByteArray} {maxL maxL' : Nat} {ret ret' : Option FieldType} {e : Env} {s s₁ : State} {m : MethodId} {args : Array Value} {below : List Frame} {meth : Method} {c : Code} {hh : List (Nat × Nat × Nat × Nat)}
    (B : BodyLoose p l y S cc maxL ret e s m args below meth c s₁) (h : (Cond.codeWith y bytes maxL' ret' hh).before args s = true) : c.exceptionTable.toList = tableOf hh := by
  obtain ⟨m9, meth9, c9, hn9, h1, h2, -, -, h6, -⟩ := Cond.codeWith_spec h
  cases Option.some.inj (hn9.symm.trans B.named)
  cases Option.some.inj (h1.symm.trans B.method)
  cases Option.some.inj (h2.symm.trans (Stand.of_body B).code)
  rw [← h6, table_eq]
end Bodies
end VXA
/-! ===== END ===== -/
/-! ===== BEGIN a static call of a method with an exception table ===== -/
section VXS
variable {p : Program} {l : Launch} {e : Env} {R : Room} {s : State} {m : MethodId} {args : Array Value} {below : List Frame} {meth : Method} {c : Code} {T : State} {H : Heap} {locs : List Loc} {cells slots : Nat}
abbrev vx_CSW (R : Room) (s : State) (args : Array Value) (own : String) (index : Nat) (y : MethodName) (bytes : ByteArray) (maxL : Nat) (ret : Option FieldType) (hh : List (Nat × Nat × Nat × Nat)) (ws : List Cond) (rm : Room) (mc ms n : Nat) : Prop :=
  (rm.cells = mc ∧ rm.slots = ms ∧ rm.frames + 1 ≤ R.frames ∧ 8 + (maxL + 11) + rm.locals ≤ R.locals ∧ (∀ w ∈ ws, ∀ (a' : Array Value) (U : State), s.WarmedH U.vm → w.before a' U = true) ∧ Cond.codeWith y bytes maxL ret hh ∈ ws) ∧
  (Cond.codeWith y bytes maxL ret hh).before args s = true ∧ (Cond.initialized y.cls).before args s = true ∧ (y.cls ≠ "java/lang/invoke/MethodHandle" ∧ y.cls ≠ "java/lang/invoke/VarHandle") ∧
  (∀ sig, parseMethodDescriptor y.desc = some sig → n = sig.parameters.length) ∧ (Cond.methodLink own index y).before args s = true ∧ (Cond.static y).before args s = true
theorem vx_cwSW {own : String} {index maxL mc ms : Nat} {y : MethodName} {bytes : ByteArray} {ret : Option FieldType} {hh : List (Nat × Nat × Nat × Nat)} {Ts ws ws' : List Cond} {rm : Room} (n : Nat) (ht : ∀ w ∈ Ts, w.before args s = true) (hT : GoodIn Ts (va_wsS own index y ws)) (hw : ws = Cond.codeWith y bytes maxL ret hh :: ws') (hrc : rm.cells = mc) (hrs : rm.slots = ms)
    (hd : y.cls ≠ "java/lang/invoke/MethodHandle" ∧ y.cls ≠ "java/lang/invoke/VarHandle" ∧ (parseMethodDescriptor y.desc).map (fun d => d.parameters.length) = some n) (hR : rm.frames + 1 ≤ R.frames ∧ 8 + (maxL + 11) + rm.locals ≤ R.locals) :
    vx_CSW R s args own index y bytes maxL ret hh ws rm mc ms n := by
  have ok : ∀ w ∈ va_wsS own index y ws, w.before args s = true := fun w h => ht w (hT w h).1
  have hG : GoodIn Ts ws := fun w h => hT w (by unfold va_wsS; exact List.mem_append_right _ h)
  have hc : Cond.codeWith y bytes maxL ret hh ∈ ws := by rw [hw]; exact List.mem_cons_self
  refine ⟨⟨hrc, hrs, hR.1, hR.2, pay_in ht hG, hc⟩, ht _ (hG _ hc).1, ok _ (by simp [va_wsS]), ⟨hd.1, hd.2.1⟩, fun sig h => ?_, ok _ (by simp [va_wsS]), ok _ (by simp [va_wsS])⟩
  have h2 := hd.2.2
  rw [h] at h2
  exact (Option.some.inj h2).symm
theorem vx_callSW (X : Stand p l e R s m args below meth c T locs cells slots) (hexec : p.tables.exec = Jvm.exec) {own : String} {index : Nat} {y : MethodName} {bytes : ByteArray} {maxL : Nat} {ret : Option FieldType} {hh : List (Nat × Nat × Nat × Nat)}
    (hown : s.vm.findClass own = some m.cls) (hlink : (Cond.methodLink own index y).before args s = true) (hstat : (Cond.static y).before args s = true) (hinit : (Cond.initialized y.cls).before args s = true)
    (hcode : (Cond.codeWith y bytes maxL ret hh).before args s = true) (hy : y.cls ≠ "java/lang/invoke/MethodHandle" ∧ y.cls ≠ "java/lang/invoke/VarHandle")
    {W9 : Nat} {Pre : Pt → Array Value → Prop} {Post : Pt → Array Value → Option Value → Pt → Prop} (hK : Back l R p e below s args y 3 W9 Pre Post)
    {g : JFrame} (hg : g.method = m) (hsize : g.locals.size = c.maxLocals) {argsL rest : List Value} (hlen : ∀ sig, parseMethodDescriptor y.desc = some sig → argsL.length = sig.parameters.length)
    (hstack : g.stack = argsL.reverse ++ rest) (hW : 2 * g.monitorRoom + (rest.map fun v => v.category).sum ≤ W9) (hdg : decode c.code g.pc = .ok (.invokestatic index, 3))
    (hpre : ∀ vm₁, s.WarmedH vm₁ → Pre ⟨T.setVm vm₁, locs, cells, slots⟩ argsL.toArray) :
    ∃ (v : Option Value) (vm₁ : Vm) (B : Pt), s.WarmedH vm₁ ∧ Stand p l e R s m args below meth c B.U B.locs B.cells B.slots ∧ Post ⟨T.setVm vm₁, locs, cells, slots⟩ argsL.toArray v B ∧
      ∀ target, Steps p.tables e below (B.U.setTop { g with pc := g.pc + 3, stack := v.toList ++ rest }) target → Steps p.tables e below (T.setTop g) target := by
  obtain ⟨mk, methM, cM, hnamed, hmethM, -, -, -, -, -, -, hsigM⟩ := Cond.codeWith_spec hcode
  have hstatic : methM.isStatic = true := Cond.static_spec hnamed hmethM hstat
  obtain ⟨kP, hkP, -⟩ := className_of_methodNamed hnamed
  have hinitP : kP.init = .initialized := Cond.initialized_spec (findClass_of_methodNamed hnamed) hkP hinit
  obtain ⟨vm₁, X₁, hstep₁⟩ := X.invokestatic hexec hown hlink hnamed hmethM hstatic hkP hinitP hy (g := g) hg (argsL := argsL) (rest := rest) (hlen _ hsigM) hstack hdg
  obtain ⟨v, B, X', hpost, hsteps⟩ := hK m meth c ⟨T.setVm vm₁, locs, cells, slots⟩ { g with stack := rest } (.invokestatic index) mk argsL.toArray X₁ hg hsize hdg hW (X₁.named hnamed) (hpre vm₁ X₁.warmed)
  exact ⟨v, vm₁, B, X₁.warmed, X', hpost, fun target h => hstep₁ _ fun acts => by rw [doInvoke_state]; exact hsteps.trans h⟩
theorem vx_runSW {y : MethodName} {bytes cc : ByteArray} {maxL nL mc ms n index : Nat} {ret : Option FieldType} {hh : List (Nat × Nat × Nat × Nat)} {ws : List Cond} {rm : Room} {Pc : Array Value → State → Prop} {Qc : Array Value → State → Outcome → State → Prop} {free : Addr → Prop} {Ts : List Cond} {own : String} {As rest : List Value} {g : JFrame}
    (S : CallFix p m c cc nL s args Ts own) (hM : Met l y ws rm Pc Qc mc ms free) (cw : vx_CSW R s args own index y bytes maxL ret hh ws rm mc ms n) (hp : PreS s H Pc As)
    (hg : g.method = m) (hn : As.length = n) (hsize : g.locals.size = nL) (hstack : g.stack = As.reverse ++ rest) (hW : 2 * g.monitorRoom + (rest.map fun v => v.category).sum ≤ 8) (hdg : decode cc g.pc = .ok (.invokestatic index, 3)) (hf : cells + mc ≤ R.cells ∧ slots + ms ≤ R.slots) :
    va_Run p l e R s m args below meth c H locs cells slots mc ms g rest (Qc As.toArray) (free) := by
  obtain ⟨⟨hrc, hrs, hfr, hlo, hws, hcw⟩, hcode, hini, hy, hlen, hl, hstt⟩ := cw
  have hK : Back l R p e below s args y 3 8 (PreOf R mc ms Pc) (PostOf Qc mc ms free) := va_backW (hh := hh) (bytes := bytes) (maxL := maxL) (ret := ret) hM hp.1 hrc hrs hfr hlo hws hcw (fun a' U hW => word_at hW (Or.inl (by first | rfl | simp [Cond.onTables, Cond.keeps, Cond.steady])) hini)
  obtain ⟨hx, hb, hml, ho, -⟩ := S
  intro T hT X
  obtain ⟨v, vm₁, ⟨U', l2, c2, s2⟩, hW₁, X', ⟨g', mk, t, L, e1, e2, hq, h1, hL, h2, h3⟩, st⟩ := vx_callSW X hx (hh := hh) (bytes := bytes) (maxL := maxL) (ret := ret) ho hl hstt hini hcode hy hK hg (hsize.trans hml.symm) (argsL := As) (rest := rest) (fun sig h => hn.trans (hlen sig h)) hstack hW (by rw [hb]; exact hdg)
    (fun vm₁ hW₁ => ⟨hf.1, hf.2, hp.2 (T.setVm vm₁) hT hW₁⟩)
  dsimp only [Pt.U, Pt.locs, Pt.cells, Pt.slots] at X' e1 e2 h1 h2 h3 st
  subst h1; subst h2; subst h3
  exact ⟨v, (T.setVm vm₁).calling g' mk As.toArray, t, U', L, hT, X', hL, e1, e2, hq, st⟩
/-- not caught here, past rows that name other classes: it goes on to the caller -/
theorem vx_outP {p : Program} {l : Launch} {e : Env} {R : Room} {s : State} {m : MethodId} {args : Array Value} {below : List Frame} {meth : Method} {c : Code} {H : Heap} {locs : List Loc} {cells slots : Nat} {free : Addr → Prop} {ls : Array Slot} {rest : List Value} {Qc : Array Value → State → Outcome → State → Prop} {XC : String → State → State → Prop}
    {pc : Nat} {own E : String} {ce : Cell} {q : Addr} {mc ms : Nat} (hown : s.vm.findClass own = some m.cls) (hlocks : meth.locks = false)
    (hpass : ∀ z ∈ c.exceptionTable.toList, covers z pc = false ∨ (z.catchType ≠ 0 ∧ ∃ nm : String, (Cond.classLink own z.catchType nm).before args s = true ∧ va_Nc E nm s)) (hcell : H[q]? = some ce) (hv : ce.vm = .none) (hcl : s.vm.findClass E = some ce.cls)
    (hx : ∀ t : State, t.heap = H → s.vm.Alike t.vm → XC E s t) (hf : ∀ z ∈ locs, free z.base) (hc : cells ≤ mc) (hs : slots ≤ ms) :
    vx_W p l e R s m args below meth c H locs cells slots (vx_MQ below Qc XC args s mc ms free) (F0 m pc ls rest) q := by
  intro T hT X
  have hpl : e.platform.magicAccessors = ({} : Platform).magicAccessors := by rw [X.admits.platform]
  obtain ⟨vm', hW', X', st⟩ := X.outThrough hlocks q (g := F0 m pc ls rest) rfl rfl rfl (cell := ce) (by rw [hT]; exact hcell) (by rw [hv]; rfl)
    (by obtain ⟨k9, h9, -⟩ := Vm.findClass_spec hcl; exact ⟨k9, h9⟩) (fun z hz => by
      rcases hpass z hz with h | ⟨hz0, nm, hl1, hn1⟩
      · exact Or.inl h
      · obtain ⟨c6, hc6, hcl6⟩ := Cond.classLink_spec hown hl1 e.platform hpl
        obtain ⟨a8, b8, h1, h2, h3⟩ := hn1
        cases Option.some.inj (h1.symm.trans hcl)
        cases Option.some.inj (h2.symm.trans hc6)
        exact Or.inr ⟨hz0, _, hcl6, h3⟩)
  obtain ⟨g₀, hfr⟩ := X'.frames_eq
  have hcell9 : ((T.setVm vm').setFrames (.throwing q :: below)).heap[q]? = some ce := by
    show T.heap[q]? = some ce
    rw [hT]; exact hcell
  have hend : Ended ((T.setVm vm').setFrames (.throwing q :: below)) below (.threw q) := State.frames_setFrames _ (State.cur_lt_of_frames hfr)
  refine ⟨(T.setVm vm').setFrames (.throwing q :: below), ?_, .threw q, X'.here.running, hend, Or.inr ⟨q, rfl, E, ce, locs, hx _ hT (X'.ends _).1.alike, hcell9, hv, hcl, (X'.ends _).1, (X'.ends _).2.mono hc hs, hf⟩⟩
  rw [X.pushThrowing_eq]
  exact st
/-- a thing of a world lies in the heap -/
theorem vx_lt {D : va_G} {cl : List vw_C} {ws : va_W} {H1 : Heap} (h : va_P D cl ws H1) {k : Nat} {q : Nat × va_E} (hk : ws[k]? = some q) : q.1 < H1.size := (h k q hk).lt
end VXS
/-! ===== END ===== -/
/-! ===== BEGIN methods with a table of their own: called by a name, returning or throwing ===== -/
section VXH
/-! vx_backW, vx_callVX, vx_callSX, vx_callVW, vx_runVW, vx_runVX, vx_runSX, vx_ofWH follow the same proofs as their sisters above (Free/Laws.lean, Shelf42/LK1.lean); vx_outP calls Shelf42/NT130.lean (outThrough). -/
section
variable {l : Launch} {R : Room} {p : Program} {e : Env} {below : List Frame} {s : State} {sargs : Array Value} {y : MethodName} {len W9 : Nat}
theorem vx_backW {ws : List Cond} {rm : Room} {Pc : Array Value → State → Prop} {Qc : Array Value → State → Outcome → State → Prop} {XC : String → State → State → Prop} {mc ms : Nat} {free : Addr → Prop} {bytes : ByteArray} {maxL : Nat} {ret : Option FieldType} {hh : List (Nat × Nat × Nat × Nat)}
    (hM : vx_Met l y ws rm Pc Qc XC mc ms free) (hblind : FrameBlind Pc) (hrc : rm.cells = mc) (hrs : rm.slots = ms)
    (hframes : rm.frames + 1 ≤ R.frames) (hlocals : W9 + (maxL + 11) + rm.locals ≤ R.locals)
    (hws : ∀ w ∈ ws, ∀ a' U, s.WarmedH U.vm → w.before a' U = true) (hcode : Cond.codeWith y bytes maxL ret hh ∈ ws) (hinit : ∀ a' U, s.WarmedH U.vm → (Cond.initialized y.cls).before a' U = true) :
    vx_Back l R p e below s sargs y len W9 (PreOf R mc ms Pc) (PostOf Qc mc ms free) (vx_Post XC mc ms free) := by
  intro m meth c A g ig mk a X hg hsize hdg hW hn hp
  have h1 : (headSpec ws rm).pre.before a A.U = true := atoms_intro fun w hw => hws w hw _ _ X.warmed
  have h2 : (Cond.codeWith y bytes maxL ret hh).before a A.U = true := hws _ hcode _ _ X.warmed
  have h3 : (Cond.initialized y.cls).before a A.U = true := hinit _ _ X.warmed
  have h4 : A.cells + (headSpec ws rm).room.cells ≤ R.cells := by rw [show (headSpec ws rm).room.cells = mc from hrc]; exact hp.1
  have h5 : A.slots + (headSpec ws rm).room.slots ≤ R.slots := by rw [show (headSpec ws rm).room.slots = ms from hrs]; exact hp.2.1
  have hPc : Pc a (A.U.calling g mk a) := hblind _ _ _ _ hp.2.2
  obtain ⟨U, Ls, c0, s0⟩ := A
  dsimp only [Pt.U, Pt.locs, Pt.cells, Pt.slots] at h1 h2 h3 h4 h5 X hn hPc ⊢
  obtain ⟨m9, methY, cY, hn9, hmY, hcY, -, hlY, -⟩ := Cond.codeWith_spec h2
  cases Option.some.inj (hn9.symm.trans hn)
  obtain ⟨kY, hkY, -⟩ := className_of_methodNamed hn
  have hinitY : kY.init = .initialized := Cond.initialized_spec (findClass_of_methodNamed hn) hkY h3
  have h : At U g.method c below := by rw [hg]; exact X.here
  have hlocals9 : W9 + (maxL + 11) + (headSpec ws rm).room.locals ≤ R.locals := hlocals
  have happ : (headSpec ws rm).appliesLoose y e.platform (U.calling g mk a) = true :=
    Spec.appliesLoose_calling (g := g) h hdg hn hkY hinitY
      (X.room_calling (g := g) (R' := (headSpec ws rm).room) hsize hmY hcY hframes (by rw [hlY]; omega) h4 h5) h1
  obtain ⟨mid, hmid⟩ := h.above
  have hfr : (U.setTop g).frames = (.java g :: mid) ++ below := by rw [State.frames_setTop' g h.top, hmid]; rfl
  obtain ⟨o, s₂, hsteps, -, hend, hq⟩ := Steps.callFree hM p X.admits X.cas X.clock (acts := []) hfr happ hPc trivial
  have hq' : vx_Q Qc XC mc ms free a (U.calling g mk a) o s₂ := hq
  rw [State.frames_setTop' g h.top] at hend
  obtain ⟨g₀, hg0⟩ := Option.isSome_iff_exists.mp h.top
  obtain ⟨r, hr⟩ := State.topJava?_eq_some.mp hg0
  have hr' : (({ U with heap := s₂.heap, slotsUsed := s₂.slotsUsed } : State).setVm s₂.vm).frames = .java g₀ :: r := hr
  rcases hq' with ⟨hqc, L, hfe, hL⟩ | ⟨q, rfl, E, ce, L, hx, hce, hcv, hcl, hW₂, hsm, hL⟩
  · obtain ⟨⟨v, rfl⟩, hW₂, e2, q2, q3, q4, q5, q6⟩ := id hfe
    have e3 : s₂ = ({ (U.calling g mk a).setFrames s₂.frames with heap := s₂.heap, slotsUsed := s₂.slotsUsed } : State).setVm s₂.vm := by
      have : s₂ = ({ s₂ with vm := (U.calling g mk a).vm } : State).setVm s₂.vm := rfl
      rw [e2] at this
      exact this
    obtain ⟨c₂, i₂, len₂, hc₂, hd₂, hf₂⟩ := hend
    have hW' : U.WarmedH s₂.vm := hW₂
    have hcc : c₂ = c := by
      have h1 : s₂.code? g.method = U.code? g.method := by
        rw [State.code?_eq, State.code?_eq, hW'.alike.method?]
      exact Option.some.inj (hc₂.symm.trans (h1.trans h.code))
    subst hcc
    have hlen : len₂ = len := by rw [hdg] at hd₂; cases hd₂; rfl
    subst hlen
    have hs₂ : s₂ = (({ U with heap := s₂.heap, slotsUsed := s₂.slotsUsed } : State).setVm s₂.vm).setTop { g with pc := g.pc + len₂, stack := v.toList ++ g.stack } := by
      refine e3.trans ?_
      rw [hf₂, State.calling_eq h.top, State.setFrames_setFrames, State.setTop_of_frames _ hr', hr]
      rfl
    have hsame : U.sameButNew ({ U with heap := s₂.heap, slotsUsed := s₂.slotsUsed } : State) L mc ms := by
      refine ⟨?_, q2, q3, q4, q5, q6⟩
      obtain ⟨t, ht, -⟩ := State.frames_cons hr
      show ({ U with heap := s₂.heap, slotsUsed := s₂.slotsUsed } : State) = { U.setFrames U.frames with heap := s₂.heap, slotsUsed := s₂.slotsUsed }
      rw [State.setFrames_self ht]
    subst hg
    refine Or.inl ⟨v, ⟨(({ U with heap := s₂.heap, slotsUsed := s₂.slotsUsed } : State).setVm s₂.vm), Ls ++ L, c0 + mc, s0 + ms⟩,
      ⟨X.admits, X.cas, X.clock, X.frames, X.room, X.hears, X.method, X.code, (X.here.setHeapUsed s₂.heap s₂.slotsUsed).setVm hW'.alike, X.tail, State.WarmedH.trans X.warmed hW', X.limits, X.bytes, X.same.trans (hsame.setVm s.vm)⟩,
      ⟨g, mk, s₂, L, rfl, rfl, hqc, rfl, hL, rfl, rfl⟩, ?_⟩
    show Steps p.tables e below _ ((({ U with heap := s₂.heap, slotsUsed := s₂.slotsUsed } : State).setVm s₂.vm).setTop { g with pc := g.pc + len₂, stack := v.toList ++ g.stack })
    rw [← hs₂]
    exact hsteps
  · obtain ⟨e2, q2, q3, q4, q5, q6⟩ := id hsm
    have e3 : s₂ = ({ (U.calling g mk a).setFrames s₂.frames with heap := s₂.heap, slotsUsed := s₂.slotsUsed } : State).setVm s₂.vm := by
      have : s₂ = ({ s₂ with vm := (U.calling g mk a).vm } : State).setVm s₂.vm := rfl
      rw [e2] at this
      exact this
    have hf₂ : s₂.frames = .throwing q :: .java g :: U.frames.tail := hend
    have hW' : U.WarmedH s₂.vm := hW₂
    have hs₂ : s₂ = ((({ U with heap := s₂.heap, slotsUsed := s₂.slotsUsed } : State).setVm s₂.vm).setTop g).pushFrame (.throwing q) := by
      refine e3.trans ?_
      rw [hf₂, State.calling_eq h.top, State.setFrames_setFrames, State.pushFrame, State.frames_setTop _ hr', State.setTop_of_frames _ hr', State.setFrames_setFrames, hr]
      rfl
    have hsame : U.sameButNew ({ U with heap := s₂.heap, slotsUsed := s₂.slotsUsed } : State) L mc ms := by
      refine ⟨?_, q2, q3, q4, q5, q6⟩
      obtain ⟨t, ht, -⟩ := State.frames_cons hr
      show ({ U with heap := s₂.heap, slotsUsed := s₂.slotsUsed } : State) = { U.setFrames U.frames with heap := s₂.heap, slotsUsed := s₂.slotsUsed }
      rw [State.setFrames_self ht]
    subst hg
    refine Or.inr ⟨q, ⟨(({ U with heap := s₂.heap, slotsUsed := s₂.slotsUsed } : State).setVm s₂.vm), Ls ++ L, c0 + mc, s0 + ms⟩,
      ⟨X.admits, X.cas, X.clock, X.frames, X.room, X.hears, X.method, X.code, (X.here.setHeapUsed s₂.heap s₂.slotsUsed).setVm hW'.alike, X.tail, State.WarmedH.trans X.warmed hW', X.limits, X.bytes, X.same.trans (hsame.setVm s.vm)⟩,
      ⟨g, mk, s₂, L, E, ce, rfl, rfl, hx, hce, hcv, hcl, rfl, hL, rfl, rfl⟩, ?_⟩
    show Steps p.tables e below _ (((({ U with heap := s₂.heap, slotsUsed := s₂.slotsUsed } : State).setVm s₂.vm).setTop g).pushFrame (.throwing q))
    rw [← hs₂]
    exact hsteps
end
variable {p : Program} {l : Launch} {e : Env} {R : Room} {s : State} {m : MethodId} {args : Array Value} {below : List Frame} {meth : Method} {c : Code} {T : State} {H : Heap} {locs : List Loc} {cells slots : Nat}
theorem vx_callVX (X : Stand p l e R s m args below meth c T locs cells slots) (hexec : p.tables.exec = Jvm.exec) {own C : String} {index : Nat} {y : MethodName} {bytes : ByteArray} {maxL : Nat} {ret : Option FieldType} {hh : List (Nat × Nat × Nat × Nat)}
    (hown : s.vm.findClass own = some m.cls) (hlink : (Cond.methodLink own index y).before args s = true) (hinst : (Cond.instanceMethod y).before args s = true) (hsel : (Cond.selects C y y).before args s = true)
    (hcode : (Cond.codeWith y bytes maxL ret hh).before args s = true) (hy : y.cls ≠ "java/lang/invoke/MethodHandle" ∧ y.cls ≠ "java/lang/invoke/VarHandle")
    {W9 : Nat} {Pre : Pt → Array Value → Prop} {Post : Pt → Array Value → Option Value → Pt → Prop} {PostX : Pt → Array Value → Addr → Pt → Prop} (hK : vx_Back l R p e below s args y 3 W9 Pre Post PostX)
    {b : Addr} {cellB : Cell} (hcell : T.heap[b]? = some cellB) (hobj : cellB.vm.isStatics = false) (hcls : s.vm.findClass C = some cellB.cls)
    {g : JFrame} (hg : g.method = m) (hsize : g.locals.size = c.maxLocals) {argsL rest : List Value} (hlen : ∀ sig, parseMethodDescriptor y.desc = some sig → argsL.length = sig.parameters.length)
    (hstack : g.stack = argsL.reverse ++ .ref b :: rest) (hW : 2 * g.monitorRoom + (rest.map fun v => v.category).sum ≤ W9) (hdg : decode c.code g.pc = .ok (.invokevirtual index, 3))
    (hpre : ∀ vm₁, s.WarmedH vm₁ → Pre ⟨T.setVm vm₁, locs, cells, slots⟩ (Value.ref b :: argsL).toArray) :
    (∃ (v : Option Value) (vm₁ : Vm) (B : Pt), s.WarmedH vm₁ ∧ Stand p l e R s m args below meth c B.U B.locs B.cells B.slots ∧ Post ⟨T.setVm vm₁, locs, cells, slots⟩ (Value.ref b :: argsL).toArray v B ∧
      ∀ target, Steps p.tables e below (B.U.setTop { g with pc := g.pc + 3, stack := v.toList ++ rest }) target → Steps p.tables e below (T.setTop g) target) ∨
    (∃ (q : Addr) (vm₁ : Vm) (B : Pt), s.WarmedH vm₁ ∧ Stand p l e R s m args below meth c B.U B.locs B.cells B.slots ∧ PostX ⟨T.setVm vm₁, locs, cells, slots⟩ (Value.ref b :: argsL).toArray q B ∧
      Steps p.tables e below (T.setTop g) ((B.U.setTop { g with stack := rest }).pushFrame (.throwing q))) := by
  obtain ⟨mk, methM, hnamed, hmethM, hstM, habM⟩ := Cond.instanceMethod_spec hinst
  obtain ⟨m8, methM', cM, hn8, hmethM', -, -, -, -, -, -, hsigM⟩ := Cond.codeWith_spec hcode
  cases Option.some.inj (hn8.symm.trans hnamed)
  cases hmethM.symm.trans hmethM'
  obtain ⟨c2, r2, m2, q1, q2, q3, q4, kP, hkP, hkPi⟩ := Cond.selects_spec hsel
  cases hcls.symm.trans q1
  cases (State.methodFound?_of_named hnamed hy).symm.trans q2
  cases hnamed.symm.trans q3
  have hselP : selectMethod e.platform s.vm cellB.cls mk = .method mk := by rw [Launch.admits_selectMethod X.admits]; exact q4
  obtain ⟨vm₁, X₁, hstep₁⟩ := X.invokevirtual hexec hown hlink hnamed hmethM hstM hkP hkPi hy (a := b) (cell := cellB) hcell
    (fun z h => by rw [h] at hobj; cases hobj) hselP hmethM habM hkP hkPi (g := g) hg (argsL := argsL) (rest := rest) (hlen _ hsigM) hstack hdg
  rcases hK m meth c ⟨T.setVm vm₁, locs, cells, slots⟩ { g with stack := rest } (.invokevirtual index) mk (Value.ref b :: argsL).toArray X₁ hg hsize hdg hW (X₁.named hnamed) (hpre vm₁ X₁.warmed) with ⟨v, B, X', hpost, hsteps⟩ | ⟨q, B, X', hpost, hsteps⟩
  · exact Or.inl ⟨v, vm₁, B, X₁.warmed, X', hpost, fun target h => hstep₁ _ fun acts => by rw [doInvoke_state]; exact hsteps.trans h⟩
  · exact Or.inr ⟨q, vm₁, B, X₁.warmed, X', hpost, hstep₁ _ fun acts => by rw [doInvoke_state]; exact hsteps⟩
theorem vx_callSX (X : Stand p l e R s m args below meth c T locs cells slots) (hexec : p.tables.exec = Jvm.exec) {own : String} {index : Nat} {y : MethodName} {bytes : ByteArray} {maxL : Nat} {ret : Option FieldType} {hh : List (Nat × Nat × Nat × Nat)}
    (hown : s.vm.findClass own = some m.cls) (hlink : (Cond.methodLink own index y).before args s = true) (hstat : (Cond.static y).before args s = true) (hinit : (Cond.initialized y.cls).before args s = true)
    (hcode : (Cond.codeWith y bytes maxL ret hh).before args s = true) (hy : y.cls ≠ "java/lang/invoke/MethodHandle" ∧ y.cls ≠ "java/lang/invoke/VarHandle")
    {W9 : Nat} {Pre : Pt → Array Value → Prop} {Post : Pt → Array Value → Option Value → Pt → Prop} {PostX : Pt → Array Value → Addr → Pt → Prop} (hK : vx_Back l R p e below s args y 3 W9 Pre Post PostX)
    {g : JFrame} (hg : g.method = m) (hsize : g.locals.size = c.maxLocals) {argsL rest : List Value} (hlen : ∀ sig, parseMethodDescriptor y.desc = some sig → argsL.length = sig.parameters.length)
    (hstack : g.stack = argsL.reverse ++ rest) (hW : 2 * g.monitorRoom + (rest.map fun v => v.category).sum ≤ W9) (hdg : decode c.code g.pc = .ok (.invokestatic index, 3))
    (hpre : ∀ vm₁, s.WarmedH vm₁ → Pre ⟨T.setVm vm₁, locs, cells, slots⟩ argsL.toArray) :
    (∃ (v : Option Value) (vm₁ : Vm) (B : Pt), s.WarmedH vm₁ ∧ Stand p l e R s m args below meth c B.U B.locs B.cells B.slots ∧ Post ⟨T.setVm vm₁, locs, cells, slots⟩ argsL.toArray v B ∧
      ∀ target, Steps p.tables e below (B.U.setTop { g with pc := g.pc + 3, stack := v.toList ++ rest }) target → Steps p.tables e below (T.setTop g) target) ∨
    (∃ (q : Addr) (vm₁ : Vm) (B : Pt), s.WarmedH vm₁ ∧ Stand p l e R s m args below meth c B.U B.locs B.cells B.slots ∧ PostX ⟨T.setVm vm₁, locs, cells, slots⟩ argsL.toArray q B ∧
      Steps p.tables e below (T.setTop g) ((B.U.setTop { g with stack := rest }).pushFrame (.throwing q))) := by
  obtain ⟨mk, methM, cM, hnamed, hmethM, -, -, -, -, -, -, hsigM⟩ := Cond.codeWith_spec hcode
  have hstatic : methM.isStatic = true := Cond.static_spec hnamed hmethM hstat
  obtain ⟨kP, hkP, -⟩ := className_of_methodNamed hnamed
  have hinitP : kP.init = .initialized := Cond.initialized_spec (findClass_of_methodNamed hnamed) hkP hinit
  obtain ⟨vm₁, X₁, hstep₁⟩ := X.invokestatic hexec hown hlink hnamed hmethM hstatic hkP hinitP hy (g := g) hg (argsL := argsL) (rest := rest) (hlen _ hsigM) hstack hdg
  rcases hK m meth c ⟨T.setVm vm₁, locs, cells, slots⟩ { g with stack := rest } (.invokestatic index) mk argsL.toArray X₁ hg hsize hdg hW (X₁.named hnamed) (hpre vm₁ X₁.warmed) with ⟨v, B, X', hpost, hsteps⟩ | ⟨q, B, X', hpost, hsteps⟩
  · exact Or.inl ⟨v, vm₁, B, X₁.warmed, X', hpost, fun target h => hstep₁ _ fun acts => by rw [doInvoke_state]; exact hsteps.trans h⟩
  · exact Or.inr ⟨q, vm₁, B, X₁.warmed, X', hpost, hstep₁ _ fun acts => by rw [doInvoke_state]; exact hsteps⟩
theorem vx_callVW (X : Stand p l e R s m args below meth c T locs cells slots) (hexec : p.tables.exec = Jvm.exec) {own C : String} {index : Nat} {y : MethodName} {bytes : ByteArray} {maxL : Nat} {ret : Option FieldType} {hh : List (Nat × Nat × Nat × Nat)}
    (hown : s.vm.findClass own = some m.cls) (hlink : (Cond.methodLink own index y).before args s = true) (hinst : (Cond.instanceMethod y).before args s = true) (hsel : (Cond.selects C y y).before args s = true)
    (hcode : (Cond.codeWith y bytes maxL ret hh).before args s = true) (hy : y.cls ≠ "java/lang/invoke/MethodHandle" ∧ y.cls ≠ "java/lang/invoke/VarHandle")
    {W9 : Nat} {Pre : Pt → Array Value → Prop} {Post : Pt → Array Value → Option Value → Pt → Prop} (hK : Back l R p e below s args y 3 W9 Pre Post)
    {b : Addr} {cellB : Cell} (hcell : T.heap[b]? = some cellB) (hobj : cellB.vm.isStatics = false) (hcls : s.vm.findClass C = some cellB.cls)
    {g : JFrame} (hg : g.method = m) (hsize : g.locals.size = c.maxLocals) {argsL rest : List Value} (hlen : ∀ sig, parseMethodDescriptor y.desc = some sig → argsL.length = sig.parameters.length)
    (hstack : g.stack = argsL.reverse ++ .ref b :: rest) (hW : 2 * g.monitorRoom + (rest.map fun v => v.category).sum ≤ W9) (hdg : decode c.code g.pc = .ok (.invokevirtual index, 3))
    (hpre : ∀ vm₁, s.WarmedH vm₁ → Pre ⟨T.setVm vm₁, locs, cells, slots⟩ (Value.ref b :: argsL).toArray) :
    ∃ (v : Option Value) (vm₁ : Vm) (B : Pt), s.WarmedH vm₁ ∧ Stand p l e R s m args below meth c B.U B.locs B.cells B.slots ∧ Post ⟨T.setVm vm₁, locs, cells, slots⟩ (Value.ref b :: argsL).toArray v B ∧
      ∀ target, Steps p.tables e below (B.U.setTop { g with pc := g.pc + 3, stack := v.toList ++ rest }) target → Steps p.tables e below (T.setTop g) target := by
  obtain ⟨mk, methM, hnamed, hmethM, hstM, habM⟩ := Cond.instanceMethod_spec hinst
  obtain ⟨m8, methM', cM, hn8, hmethM', -, -, -, -, -, -, hsigM⟩ := Cond.codeWith_spec hcode
  cases Option.some.inj (hn8.symm.trans hnamed)
  cases hmethM.symm.trans hmethM'
  obtain ⟨c2, r2, m2, q1, q2, q3, q4, kP, hkP, hkPi⟩ := Cond.selects_spec hsel
  cases hcls.symm.trans q1
  cases (State.methodFound?_of_named hnamed hy).symm.trans q2
  cases hnamed.symm.trans q3
  have hselP : selectMethod e.platform s.vm cellB.cls mk = .method mk := by rw [Launch.admits_selectMethod X.admits]; exact q4
  obtain ⟨vm₁, X₁, hstep₁⟩ := X.invokevirtual hexec hown hlink hnamed hmethM hstM hkP hkPi hy (a := b) (cell := cellB) hcell
    (fun z h => by rw [h] at hobj; cases hobj) hselP hmethM habM hkP hkPi (g := g) hg (argsL := argsL) (rest := rest) (hlen _ hsigM) hstack hdg
  obtain ⟨v, B, X', hpost, hsteps⟩ := hK m meth c ⟨T.setVm vm₁, locs, cells, slots⟩ { g with stack := rest } (.invokevirtual index) mk (Value.ref b :: argsL).toArray X₁ hg hsize hdg hW (X₁.named hnamed) (hpre vm₁ X₁.warmed)
  exact ⟨v, vm₁, B, X₁.warmed, X', hpost, fun target h => hstep₁ _ fun acts => by rw [doInvoke_state]; exact hsteps.trans h⟩
abbrev vx_CVW (R : Room) (s : State) (args : Array Value) (own C : String) (index : Nat) (y : MethodName) (bytes : ByteArray) (maxL : Nat) (ret : Option FieldType) (hh : List (Nat × Nat × Nat × Nat)) (ws : List Cond) (rm : Room) (mc ms n : Nat) : Prop :=
  (rm.cells = mc ∧ rm.slots = ms ∧ rm.frames + 1 ≤ R.frames ∧ 8 + (maxL + 11) + rm.locals ≤ R.locals ∧ (∀ w ∈ ws, ∀ (a' : Array Value) (U : State), s.WarmedH U.vm → w.before a' U = true) ∧ Cond.codeWith y bytes maxL ret hh ∈ ws) ∧
  (Cond.codeWith y bytes maxL ret hh).before args s = true ∧ (Cond.initialized y.cls).before args s = true ∧ (y.cls ≠ "java/lang/invoke/MethodHandle" ∧ y.cls ≠ "java/lang/invoke/VarHandle") ∧
  (∀ sig, parseMethodDescriptor y.desc = some sig → n = sig.parameters.length) ∧ (Cond.methodLink own index y).before args s = true ∧ (Cond.instanceMethod y).before args s = true ∧ (Cond.selects C y y).before args s = true
theorem vx_cwVW {own C : String} {index maxL mc ms : Nat} {y : MethodName} {bytes : ByteArray} {ret : Option FieldType} {hh : List (Nat × Nat × Nat × Nat)} {Ts ws ws' : List Cond} {rm : Room} (n : Nat) (ht : ∀ w ∈ Ts, w.before args s = true) (hT : GoodIn Ts (wsV own index C y ws)) (hw : ws = Cond.codeWith y bytes maxL ret hh :: ws') (hrc : rm.cells = mc) (hrs : rm.slots = ms)
    (hd : y.cls = C ∧ y.cls ≠ "java/lang/invoke/MethodHandle" ∧ y.cls ≠ "java/lang/invoke/VarHandle" ∧ (parseMethodDescriptor y.desc).map (fun d => d.parameters.length) = some n) (hR : rm.frames + 1 ≤ R.frames ∧ 8 + (maxL + 11) + rm.locals ≤ R.locals) :
    vx_CVW R s args own C index y bytes maxL ret hh ws rm mc ms n := by
  obtain ⟨hC, hd⟩ := hd
  subst hC
  have ok : ∀ w ∈ wsV own index y.cls y ws, w.before args s = true := fun w h => ht w (hT w h).1
  have hG : GoodIn Ts ws := fun w h => hT w (by unfold wsV; exact List.mem_append_right _ h)
  have hc : Cond.codeWith y bytes maxL ret hh ∈ ws := by rw [hw]; exact List.mem_cons_self
  refine ⟨⟨hrc, hrs, hR.1, hR.2, pay_in ht hG, hc⟩, ht _ (hG _ hc).1, ok _ (by simp [wsV]), ⟨hd.1, hd.2.1⟩, fun sig h => ?_, ok _ (by simp [wsV]), ok _ (by simp [wsV]), ok _ (by simp [wsV])⟩
  have h2 := hd.2.2
  rw [h] at h2
  exact (Option.some.inj h2).symm
theorem vx_runVW {y : MethodName} {bytes cc : ByteArray} {maxL nL mc ms n index : Nat} {ret : Option FieldType} {hh : List (Nat × Nat × Nat × Nat)} {ws : List Cond} {rm : Room} {Pc : Array Value → State → Prop} {Qc : Array Value → State → Outcome → State → Prop} {free : Addr → Prop} {Ts : List Cond} {own C : String} {b : Addr} {As rest : List Value} {g : JFrame}
    (S : CallFix p m c cc nL s args Ts own) (hM : Met l y ws rm Pc Qc mc ms free) (cw : vx_CVW R s args own C index y bytes maxL ret hh ws rm mc ms n) (hp : PreV s H C b Pc As)
    (hg : g.method = m) (hn : As.length = n) (hsize : g.locals.size = nL) (hstack : g.stack = As.reverse ++ .ref b :: rest) (hW : 2 * g.monitorRoom + (rest.map fun v => v.category).sum ≤ 8) (hdg : decode cc g.pc = .ok (.invokevirtual index, 3)) (hf : cells + mc ≤ R.cells ∧ slots + ms ≤ R.slots) :
    va_Run p l e R s m args below meth c H locs cells slots mc ms g rest (Qc (Value.ref b :: As).toArray) free := by
  obtain ⟨⟨hrc, hrs, hfr, hlo, hws, hcw⟩, hcode, hini, hy, hlen, hl, hin, hse⟩ := cw
  have hK : Back l R p e below s args y 3 8 (PreOf R mc ms Pc) (PostOf Qc mc ms free) := va_backW (hh := hh) (bytes := bytes) (maxL := maxL) (ret := ret) hM hp.1 hrc hrs hfr hlo hws hcw (fun a' U hW => word_at hW (Or.inl (by first | rfl | simp [Cond.onTables, Cond.keeps, Cond.steady])) hini)
  obtain ⟨hx, hb, hml, ho, -⟩ := S
  obtain ⟨-, ⟨cellB, hcB, hoB, hclB⟩, hPc⟩ := hp
  intro T hT X
  obtain ⟨v, vm₁, ⟨U', l2, c2, s2⟩, hW₁, X', ⟨g', mk, t, L, e1, e2, hq, h1, hL, h2, h3⟩, st⟩ := vx_callVW X hx (C := C) (hh := hh) (bytes := bytes) (maxL := maxL) (ret := ret) ho hl hin hse hcode hy hK (by rw [hT]; exact hcB) hoB hclB hg (hsize.trans hml.symm) (argsL := As) (rest := rest) (fun sig h => hn.trans (hlen sig h)) hstack hW (by rw [hb]; exact hdg)
    (fun vm₁ hW₁ => ⟨hf.1, hf.2, hPc (T.setVm vm₁) hT hW₁⟩)
  dsimp only [Pt.U, Pt.locs, Pt.cells, Pt.slots] at X' e1 e2 h1 h2 h3 st
  subst h1; subst h2; subst h3
  exact ⟨v, (T.setVm vm₁).calling g' mk (Value.ref b :: As).toArray, t, U', L, hT, X', hL, e1, e2, hq, st⟩
section
variable {y : MethodName} {bytes cc : ByteArray} {maxL nL mc ms n index : Nat} {ret : Option FieldType} {ws : List Cond} {rm : Room} {Pc : Array Value → State → Prop} {Qc : Array Value → State → Outcome → State → Prop} {XC : String → State → State → Prop} {free : Addr → Prop} {Ts : List Cond} {own C : String} {b : Addr} {As rest : List Value} {g : JFrame}
theorem vx_runVX {hh : List (Nat × Nat × Nat × Nat)} (S : CallFix p m c cc nL s args Ts own) (hM : vx_Met l y ws rm Pc Qc XC mc ms free) (cw : vx_CVW R s args own C index y bytes maxL ret hh ws rm mc ms n) (hp : PreV s H C b Pc As)
    (hg : g.method = m) (hn : As.length = n) (hsize : g.locals.size = nL) (hstack : g.stack = As.reverse ++ .ref b :: rest) (hW : 2 * g.monitorRoom + (rest.map fun v => v.category).sum ≤ 8) (hdg : decode cc g.pc = .ok (.invokevirtual index, 3)) (hf : cells + mc ≤ R.cells ∧ slots + ms ≤ R.slots) :
    vx_Run p l e R s m args below meth c H locs cells slots mc ms g rest (Qc (Value.ref b :: As).toArray) XC free := by
  obtain ⟨⟨hrc, hrs, hfr, hlo, hws, hcw⟩, hcode, hini, hy, hlen, hl, hin, hse⟩ := cw
  have hK : vx_Back l R p e below s args y 3 8 (PreOf R mc ms Pc) (PostOf Qc mc ms free) (vx_Post XC mc ms free) := vx_backW (hh := hh) (bytes := bytes) (maxL := maxL) (ret := ret) hM hp.1 hrc hrs hfr hlo hws hcw (fun a' U hW => word_at hW (Or.inl (by first | rfl | simp [Cond.onTables, Cond.keeps, Cond.steady])) hini)
  obtain ⟨hx, hb, hml, ho, -⟩ := S
  obtain ⟨-, ⟨cellB, hcB, hoB, hclB⟩, hPc⟩ := hp
  intro T hT X
  rcases vx_callVX X hx (C := C) (hh := hh) (bytes := bytes) (maxL := maxL) (ret := ret) ho hl hin hse hcode hy hK (by rw [hT]; exact hcB) hoB hclB hg (hsize.trans hml.symm) (argsL := As) (rest := rest) (fun sig h => hn.trans (hlen sig h)) hstack hW (by rw [hb]; exact hdg)
    (fun vm₁ hW₁ => ⟨hf.1, hf.2, hPc (T.setVm vm₁) hT hW₁⟩) with ⟨v, vm₁, ⟨U', l2, c2, s2⟩, hW₁, X', ⟨g', mk, t, L, e1, e2, hq, h1, hL, h2, h3⟩, st⟩ | ⟨q, vm₁, ⟨U', l2, c2, s2⟩, hW₁, X', ⟨g', mk, t, L, E, ce, e1, e2, hq, hce, hcv, hcl, h1, hL, h2, h3⟩, st⟩
  · dsimp only [Pt.U, Pt.locs, Pt.cells, Pt.slots] at X' e1 e2 h1 h2 h3 st
    subst h1; subst h2; subst h3
    exact Or.inl ⟨v, (T.setVm vm₁).calling g' mk (Value.ref b :: As).toArray, t, U', L, hT, X', hL, e1, e2, hq, st⟩
  · dsimp only [Pt.U, Pt.locs, Pt.cells, Pt.slots] at X' e1 e2 h1 h2 h3 st hcl
    subst h1; subst h2; subst h3
    exact Or.inr ⟨q, (T.setVm vm₁).calling g' mk (Value.ref b :: As).toArray, t, U', L, E, ce, hT, X', hL, e1, e2, hq, hce, hcv, vx_cls hW₁ hcl, st⟩
theorem vx_runSX {hh : List (Nat × Nat × Nat × Nat)} (S : CallFix p m c cc nL s args Ts own) (hM : vx_Met l y ws rm Pc Qc XC mc ms free) (cw : vx_CSW R s args own index y bytes maxL ret hh ws rm mc ms n) (hp : PreS s H Pc As)
    (hg : g.method = m) (hn : As.length = n) (hsize : g.locals.size = nL) (hstack : g.stack = As.reverse ++ rest) (hW : 2 * g.monitorRoom + (rest.map fun v => v.category).sum ≤ 8) (hdg : decode cc g.pc = .ok (.invokestatic index, 3)) (hf : cells + mc ≤ R.cells ∧ slots + ms ≤ R.slots) :
    vx_Run p l e R s m args below meth c H locs cells slots mc ms g rest (Qc As.toArray) XC free := by
  obtain ⟨⟨hrc, hrs, hfr, hlo, hws, hcw⟩, hcode, hini, hy, hlen, hl, hstt⟩ := cw
  have hK : vx_Back l R p e below s args y 3 8 (PreOf R mc ms Pc) (PostOf Qc mc ms free) (vx_Post XC mc ms free) := vx_backW (hh := hh) (bytes := bytes) (maxL := maxL) (ret := ret) hM hp.1 hrc hrs hfr hlo hws hcw (fun a' U hW => word_at hW (Or.inl (by first | rfl | simp [Cond.onTables, Cond.keeps, Cond.steady])) hini)
  obtain ⟨hx, hb, hml, ho, -⟩ := S
  intro T hT X
  rcases vx_callSX X hx (hh := hh) (bytes := bytes) (maxL := maxL) (ret := ret) ho hl hstt hini hcode hy hK hg (hsize.trans hml.symm) (argsL := As) (rest := rest) (fun sig h => hn.trans (hlen sig h)) hstack hW (by rw [hb]; exact hdg)
    (fun vm₁ hW₁ => ⟨hf.1, hf.2, hp.2 (T.setVm vm₁) hT hW₁⟩) with ⟨v, vm₁, ⟨U', l2, c2, s2⟩, hW₁, X', ⟨g', mk, t, L, e1, e2, hq, h1, hL, h2, h3⟩, st⟩ | ⟨q, vm₁, ⟨U', l2, c2, s2⟩, hW₁, X', ⟨g', mk, t, L, E, ce, e1, e2, hq, hce, hcv, hcl, h1, hL, h2, h3⟩, st⟩
  · dsimp only [Pt.U, Pt.locs, Pt.cells, Pt.slots] at X' e1 e2 h1 h2 h3 st
    subst h1; subst h2; subst h3
    exact Or.inl ⟨v, (T.setVm vm₁).calling g' mk As.toArray, t, U', L, hT, X', hL, e1, e2, hq, st⟩
  · dsimp only [Pt.U, Pt.locs, Pt.cells, Pt.slots] at X' e1 e2 h1 h2 h3 st hcl
    subst h1; subst h2; subst h3
    exact Or.inr ⟨q, (T.setVm vm₁).calling g' mk As.toArray, t, U', L, E, ce, hT, X', hL, e1, e2, hq, hce, hcv, vx_cls hW₁ hcl, st⟩
end
end VXH
theorem vx_ofWH {l : Launch} {y : MethodName} {ws ws' : List Cond} {rm : Room} {Pc : Array Value → State → Prop} {Qc : Array Value → State → Outcome → State → Prop} {XC : String → State → State → Prop} {mc ms : Nat} {free : Addr → Prop} {cc : ByteArray} {maxL : Nat} {ret : Option FieldType} {hh : List (Nat × Nat × Nat × Nat)}
    (hy : plainName y.cls = true) (hw : ws = Cond.codeWith y cc maxL ret hh :: ws')
    (body : ∀ p e s m args below meth c s₁, BodyLoose p l y (headSpec ws rm) cc maxL ret e s m args below meth c s₁ → c.maxLocals = maxL → Pc args s →
      W p l e (headSpec ws rm).room s m args below meth c s.heap [] 0 0 (vx_MQ below Qc XC args s mc ms free) (entryFrame m args maxL)) : vx_Met l y ws rm Pc Qc XC mc ms free := by
  refine MetFree.of_bodyS (code := cc) (maxLocals := maxL) (ret := ret) hy ?_ ?_
  · intro args s m h hn
    obtain ⟨m9, meth, c, hn9, h1, h2, h3, h4, -, h5, h6, -⟩ := Cond.codeWith_spec (atoms_spec (ws := ws) h _ (by rw [hw]; exact List.mem_cons_self))
    cases hn.symm.trans hn9
    exact ⟨meth, c, h1, h2, h3, h4, h5, h6⟩
  · intro p e s m args below meth c s₁ B hml hP _
    have hh0 : s₁.heap = s.heap := by rw [B.state]; rfl
    obtain ⟨t, a1, o, b1, b2, b3⟩ := body p e s m args below meth c s₁ B hml hP s₁ hh0 (Stand.of_body B)
    exact ⟨t, o, a1, b1, b2, b3⟩
/-! ===== END ===== -/
end
section
/-! ===== BEGIN printed: names, fields, word lists, decode rows ===== -/
def RX0 : String := "PrivateCounts$Fraction"
def TX0 : u_T := fun k => match k with
  | 0 => ("PrivateCounts$Fraction", "numerator", "LPrivateCounts$Natural;", true)
  | _ => ("PrivateCounts$Fraction", "denominator", "LPrivateCounts$Natural;", true)
def tyX0 : Nat → FieldType := fun k => match k with
  | 0 => .object "PrivateCounts$Natural"
  | _ => .object "PrivateCounts$Natural"
abbrev wsX00 : List Cond := u_ws RX0 TX0 2
theorem nmX0 : ∀ a, a < 2 → ∀ b, b < 2 → a ≠ b → (TX0 a).2.1 ≠ (TX0 b).2.1 := by decide +kernel
theorem tyX0_ok : ∀ k, k < 2 → parseFieldDescriptor (TX0 k).2.2.1 = some (tyX0 k) := by decide +kernel
abbrev cX0_init : ByteArray := prog_2_method_1_code
def yX0_init : MethodName := ⟨RX0, "<init>", "()V"⟩
abbrev cX0_become : ByteArray := prog_2_method_2_code
def yX0_become : MethodName := ⟨RX0, "become", "(II)V"⟩
abbrev cX0_increase : ByteArray := prog_2_method_3_code
def yX0_increase : MethodName := ⟨RX0, "increase", "(II)V"⟩
abbrev cX0_decrease : ByteArray := prog_2_method_4_code
def yX0_decrease : MethodName := ⟨RX0, "decrease", "(II)V"⟩
abbrev cX0_isLessThan : ByteArray := prog_2_method_5_code
def yX0_isLessThan : MethodName := ⟨RX0, "isLessThan", "(II)Z"⟩
abbrev cX0_change : ByteArray := prog_2_method_6_code
def yX0_change : MethodName := ⟨RX0, "change", "(III)V"⟩
abbrev cX0_quotient : ByteArray := prog_2_method_7_code
def yX0_quotient : MethodName := ⟨RX0, "quotient", "(II)I"⟩
abbrev cX0_commonDivisor : ByteArray := prog_2_method_8_code
def yX0_commonDivisor : MethodName := ⟨RX0, "commonDivisor", "(II)I"⟩
def RX1 : String := "PrivateCounts$Natural"
def TX1 : u_T := fun k => match k with
  | 0 => ("PrivateCounts$Natural", "limbs", "[I", true)
  | _ => ("PrivateCounts$Natural", "size", "I", false)
def tyX1 : Nat → FieldType := fun k => match k with
  | 0 => .array .int
  | _ => .int
abbrev wsX10 : List Cond := u_ws RX1 TX1 2
theorem nmX1 : ∀ a, a < 2 → ∀ b, b < 2 → a ≠ b → (TX1 a).2.1 ≠ (TX1 b).2.1 := by decide +kernel
theorem tyX1_ok : ∀ k, k < 2 → parseFieldDescriptor (TX1 k).2.2.1 = some (tyX1 k) := by decide +kernel
abbrev cX1_init : ByteArray := prog_3_method_1_code
def yX1_init : MethodName := ⟨RX1, "<init>", "()V"⟩
abbrev cX1_become : ByteArray := prog_3_method_2_code
def yX1_become : MethodName := ⟨RX1, "become", "(I)V"⟩
abbrev cX1_limbAt : ByteArray := prog_3_method_3_code
def yX1_limbAt : MethodName := ⟨RX1, "limbAt", "(I)I"⟩
abbrev cX1_times : ByteArray := prog_3_method_4_code
def yX1_times : MethodName := ⟨RX1, "times", "(I)V"⟩
abbrev cX1_plusTimes : ByteArray := prog_3_method_5_code
def yX1_plusTimes : MethodName := ⟨RX1, "plusTimes", "(LPrivateCounts$Natural;I)V"⟩
abbrev cX1_divideBy : ByteArray := prog_3_method_6_code
def yX1_divideBy : MethodName := ⟨RX1, "divideBy", "(I)V"⟩
abbrev cX1_restBy : ByteArray := prog_3_method_7_code
def yX1_restBy : MethodName := ⟨RX1, "restBy", "(I)I"⟩
abbrev cX1_isLess : ByteArray := prog_3_method_8_code
def yX1_isLess : MethodName := ⟨RX1, "isLess", "(LPrivateCounts$Natural;ILPrivateCounts$Natural;I)Z"⟩
abbrev cX1_append : ByteArray := prog_3_method_9_code
def yX1_append : MethodName := ⟨RX1, "append", "(J)V"⟩
abbrev cX1_trim : ByteArray := prog_3_method_10_code
def yX1_trim : MethodName := ⟨RX1, "trim", "()V"⟩
def RX2 : String := "PrivateCounts$Series"
def TX2 : u_T := fun k => match k with
  | 0 => ("PrivateCounts$Series", "missing", "LPrivateCounts$Natural;", true)
  | _ => ("PrivateCounts$Series", "term", "LPrivateCounts$Natural;", true)
def tyX2 : Nat → FieldType := fun k => match k with
  | 0 => .object "PrivateCounts$Natural"
  | _ => .object "PrivateCounts$Natural"
abbrev wsX20 : List Cond := u_ws RX2 TX2 2
theorem nmX2 : ∀ a, a < 2 → ∀ b, b < 2 → a ≠ b → (TX2 a).2.1 ≠ (TX2 b).2.1 := by decide +kernel
theorem tyX2_ok : ∀ k, k < 2 → parseFieldDescriptor (TX2 k).2.2.1 = some (tyX2 k) := by decide +kernel
abbrev cX2_init : ByteArray := prog_4_method_1_code
def yX2_init : MethodName := ⟨RX2, "<init>", "()V"⟩
abbrev cX2_reaches : ByteArray := prog_4_method_2_code
def yX2_reaches : MethodName := ⟨RX2, "reaches", "(LPrivateCounts$Table;II)Z"⟩
def RX3 : String := "PrivateCounts$Table"
def TX3 : u_T := fun k => match k with
  | 0 => ("PrivateCounts$Table", "a", "I", false)
  | 1 => ("PrivateCounts$Table", "b", "I", false)
  | 2 => ("PrivateCounts$Table", "low", "I", false)
  | 3 => ("PrivateCounts$Table", "high", "I", false)
  | _ => ("PrivateCounts$Table", "total", "J", false)
def tyX3 : Nat → FieldType := fun k => match k with
  | 0 => .int
  | 1 => .int
  | 2 => .int
  | 3 => .int
  | _ => .long
abbrev wsX30 : List Cond := u_ws RX3 TX3 5
theorem nmX3 : ∀ a, a < 5 → ∀ b, b < 5 → a ≠ b → (TX3 a).2.1 ≠ (TX3 b).2.1 := by decide +kernel
theorem tyX3_ok : ∀ k, k < 5 → parseFieldDescriptor (TX3 k).2.2.1 = some (tyX3 k) := by decide +kernel
abbrev cX3_init : ByteArray := prog_5_method_1_code
def yX3_init : MethodName := ⟨RX3, "<init>", "()V"⟩
abbrev cX3_isAllowed : ByteArray := prog_5_method_2_code
def yX3_isAllowed : MethodName := ⟨RX3, "isAllowed", "(IIII)Z"⟩
abbrev cX3_become : ByteArray := prog_5_method_3_code
def yX3_become : MethodName := ⟨RX3, "become", "(IIII)V"⟩
abbrev cX3_holds : ByteArray := prog_5_method_4_code
def yX3_holds : MethodName := ⟨RX3, "holds", "(I)Z"⟩
abbrev cX3_hasCoin : ByteArray := prog_5_method_5_code
def yX3_hasCoin : MethodName := ⟨RX3, "hasCoin", "(J)Z"⟩
abbrev cX3_nearestTo : ByteArray := prog_5_method_6_code
def yX3_nearestTo : MethodName := ⟨RX3, "nearestTo", "(I)I"⟩
abbrev cX3_weightOf : ByteArray := prog_5_method_7_code
def yX3_weightOf : MethodName := ⟨RX3, "weightOf", "(II)J"⟩
abbrev cX3_sumTo : ByteArray := prog_5_method_8_code
def yX3_sumTo : MethodName := ⟨RX3, "sumTo", "(II)J"⟩
abbrev cX3_outcomeOf : ByteArray := prog_5_method_9_code
def yX3_outcomeOf : MethodName := ⟨RX3, "outcomeOf", "(IJ)I"⟩
abbrev cX3_isWithinRatio : ByteArray := prog_5_method_10_code
def yX3_isWithinRatio : MethodName := ⟨RX3, "isWithinRatio", "(II)Z"⟩
abbrev cX3_power : ByteArray := prog_5_method_11_code
def yX3_power : MethodName := ⟨RX3, "power", "(II)J"⟩
def RX4 : String := "PrivateCounts"
def TX4 : u_T := fun k => match k with
  | 0 => ("PrivateCounts", "rows", "[I", true)
  | 1 => ("PrivateCounts", "rowCount", "I", false)
  | 2 => ("PrivateCounts", "weights", "LPrivateCounts$Table;", true)
  | 3 => ("PrivateCounts", "series", "LPrivateCounts$Series;", true)
  | 4 => ("PrivateCounts", "granted", "LPrivateCounts$Fraction;", true)
  | 5 => ("PrivateCounts", "spent", "LPrivateCounts$Fraction;", true)
  | 6 => ("PrivateCounts", "left", "LPrivateCounts$Fraction;", true)
  | 7 => ("PrivateCounts", "answered", "I", false)
  | 8 => ("PrivateCounts", "refusedForCost", "I", false)
  | _ => ("PrivateCounts", "refusedForBudget", "I", false)
def tyX4 : Nat → FieldType := fun k => match k with
  | 0 => .array .int
  | 1 => .int
  | 2 => .object "PrivateCounts$Table"
  | 3 => .object "PrivateCounts$Series"
  | 4 => .object "PrivateCounts$Fraction"
  | 5 => .object "PrivateCounts$Fraction"
  | 6 => .object "PrivateCounts$Fraction"
  | 7 => .int
  | 8 => .int
  | _ => .int
abbrev wsX40 : List Cond := u_ws RX4 TX4 10
theorem nmX4 : ∀ a, a < 10 → ∀ b, b < 10 → a ≠ b → (TX4 a).2.1 ≠ (TX4 b).2.1 := by decide +kernel
theorem tyX4_ok : ∀ k, k < 10 → parseFieldDescriptor (TX4 k).2.2.1 = some (tyX4 k) := by decide +kernel
abbrev cX4_init : ByteArray := prog_1_method_1_code
def yX4_init : MethodName := ⟨RX4, "<init>", "()V"⟩
abbrev cX4_add : ByteArray := prog_1_method_2_code
def yX4_add : MethodName := ⟨RX4, "add", "(I)I"⟩
abbrev cX4_remove : ByteArray := prog_1_method_3_code
def yX4_remove : MethodName := ⟨RX4, "remove", "(I)I"⟩
abbrev cX4_count : ByteArray := prog_1_method_4_code
def yX4_count : MethodName := ⟨RX4, "count", "(II)I"⟩
abbrev cX4_table : ByteArray := prog_1_method_5_code
def yX4_table : MethodName := ⟨RX4, "table", "(IIII)J"⟩
abbrev cX4_all : ByteArray := prog_1_method_6_code
def yX4_all : MethodName := ⟨RX4, "all", "()J"⟩
abbrev cX4_weight : ByteArray := prog_1_method_7_code
def yX4_weight : MethodName := ⟨RX4, "weight", "(II)J"⟩
abbrev cX4_upTo : ByteArray := prog_1_method_8_code
def yX4_upTo : MethodName := ⟨RX4, "upTo", "(II)J"⟩
abbrev cX4_draw : ByteArray := prog_1_method_9_code
def yX4_draw : MethodName := ⟨RX4, "draw", "(IJ)I"⟩
abbrev cX4_isNear : ByteArray := prog_1_method_10_code
def yX4_isNear : MethodName := ⟨RX4, "isNear", "(II)Z"⟩
abbrev cX4_budget : ByteArray := prog_1_method_11_code
def yX4_budget : MethodName := ⟨RX4, "budget", "(II)V"⟩
abbrev cX4_raise : ByteArray := prog_1_method_12_code
def yX4_raise : MethodName := ⟨RX4, "raise", "(II)V"⟩
abbrev cX4_isEnough : ByteArray := prog_1_method_13_code
def yX4_isEnough : MethodName := ⟨RX4, "isEnough", "(II)Z"⟩
abbrev cX4_least : ByteArray := prog_1_method_14_code
def yX4_least : MethodName := ⟨RX4, "least", "(I)I"⟩
abbrev cX4_ask : ByteArray := prog_1_method_15_code
def yX4_ask : MethodName := ⟨RX4, "ask", "(IIIIJ)I"⟩
abbrev cX4_limb : ByteArray := prog_1_method_16_code
def yX4_limb : MethodName := ⟨RX4, "limb", "(III)I"⟩
abbrev cX4_told : ByteArray := prog_1_method_17_code
def yX4_told : MethodName := ⟨RX4, "told", "(I)I"⟩
abbrev cX4_isDenominator : ByteArray := prog_1_method_18_code
def yX4_isDenominator : MethodName := ⟨RX4, "isDenominator", "(I)Z"⟩
abbrev cX4_isGrant : ByteArray := prog_1_method_19_code
def yX4_isGrant : MethodName := ⟨RX4, "isGrant", "(II)Z"⟩
abbrev cX4_isCost : ByteArray := prog_1_method_20_code
def yX4_isCost : MethodName := ⟨RX4, "isCost", "(II)Z"⟩
def RX5 : String := "PrivateCountsModel"
def TX5 : u_T := fun k => match k with
  | 0 => ("PrivateCountsModel", "row", "[I", true)
  | 1 => ("PrivateCountsModel", "rows", "I", false)
  | 2 => ("PrivateCountsModel", "a", "I", false)
  | 3 => ("PrivateCountsModel", "b", "I", false)
  | 4 => ("PrivateCountsModel", "low", "I", false)
  | 5 => ("PrivateCountsModel", "high", "I", false)
  | 6 => ("PrivateCountsModel", "answered", "I", false)
  | 7 => ("PrivateCountsModel", "tooLittle", "I", false)
  | 8 => ("PrivateCountsModel", "tooMuch", "I", false)
  | 9 => ("PrivateCountsModel", "figure", "[J", true)
  | 10 => ("PrivateCountsModel", "length", "[I", true)
  | 11 => ("PrivateCountsModel", "top", "[J", true)
  | 12 => ("PrivateCountsModel", "below", "[J", true)
  | 13 => ("PrivateCountsModel", "thrown", "I", false)
  | 14 => ("PrivateCountsModel", "term", "[I", true)
  | _ => ("PrivateCountsModel", "whole", "[I", true)
def tyX5 : Nat → FieldType := fun k => match k with
  | 0 => .array .int
  | 1 => .int
  | 2 => .int
  | 3 => .int
  | 4 => .int
  | 5 => .int
  | 6 => .int
  | 7 => .int
  | 8 => .int
  | 9 => .array .long
  | 10 => .array .int
  | 11 => .array .long
  | 12 => .array .long
  | 13 => .int
  | 14 => .array .int
  | _ => .array .int
abbrev wsX50 : List Cond := u_ws RX5 TX5 16
theorem nmX5 : ∀ a, a < 16 → ∀ b, b < 16 → a ≠ b → (TX5 a).2.1 ≠ (TX5 b).2.1 := by decide +kernel
theorem tyX5_ok : ∀ k, k < 16 → parseFieldDescriptor (TX5 k).2.2.1 = some (tyX5 k) := by decide +kernel
abbrev cX5_init : ByteArray := prog_7_method_1_code
def yX5_init : MethodName := ⟨RX5, "<init>", "()V"⟩
abbrev cX5_thrown : ByteArray := prog_7_method_2_code
def yX5_thrown : MethodName := ⟨RX5, "thrown", "()I"⟩
abbrev cX5_trim : ByteArray := prog_7_method_3_code
def yX5_trim : MethodName := ⟨RX5, "trim", "(II)V"⟩
abbrev cX5_put : ByteArray := prog_7_method_4_code
def yX5_put : MethodName := ⟨RX5, "put", "(IJ)V"⟩
abbrev cX5_copy : ByteArray := prog_7_method_5_code
def yX5_copy : MethodName := ⟨RX5, "copy", "(II)V"⟩
abbrev cX5_take : ByteArray := prog_7_method_6_code
def yX5_take : MethodName := ⟨RX5, "take", "(II)V"⟩
abbrev cX5_figureOf : ByteArray := prog_7_method_7_code
def yX5_figureOf : MethodName := ⟨RX5, "figureOf", "(II)J"⟩
abbrev cX5_compare : ByteArray := prog_7_method_8_code
def yX5_compare : MethodName := ⟨RX5, "compare", "(II)I"⟩
abbrev cX5_plus : ByteArray := prog_7_method_9_code
def yX5_plus : MethodName := ⟨RX5, "plus", "(III)V"⟩
abbrev cX5_minus : ByteArray := prog_7_method_10_code
def yX5_minus : MethodName := ⟨RX5, "minus", "(III)V"⟩
abbrev cX5_times : ByteArray := prog_7_method_11_code
def yX5_times : MethodName := ⟨RX5, "times", "(III)V"⟩
abbrev cX5_divide : ByteArray := prog_7_method_12_code
def yX5_divide : MethodName := ⟨RX5, "divide", "(IIII)V"⟩
abbrev cX5_divisor : ByteArray := prog_7_method_13_code
def yX5_divisor : MethodName := ⟨RX5, "divisor", "(II)V"⟩
abbrev cX5_halve : ByteArray := prog_7_method_14_code
def yX5_halve : MethodName := ⟨RX5, "halve", "(I)V"⟩
abbrev cX5_lowest : ByteArray := prog_7_method_15_code
def yX5_lowest : MethodName := ⟨RX5, "lowest", "(III)V"⟩
abbrev cX5_set : ByteArray := prog_7_method_16_code
def yX5_set : MethodName := ⟨RX5, "set", "(III)V"⟩
abbrev cX5_cross : ByteArray := prog_7_method_17_code
def yX5_cross : MethodName := ⟨RX5, "cross", "(II)V"⟩
abbrev cX5_add0 : ByteArray := prog_7_method_18_code
def yX5_add0 : MethodName := ⟨RX5, "add0", "(III)V"⟩
abbrev cX5_subtract : ByteArray := prog_7_method_19_code
def yX5_subtract : MethodName := ⟨RX5, "subtract", "(III)V"⟩
abbrev cX5_isMore : ByteArray := prog_7_method_20_code
def yX5_isMore : MethodName := ⟨RX5, "isMore", "(II)Z"⟩
abbrev cX5_add : ByteArray := prog_7_method_21_code
def yX5_add : MethodName := ⟨RX5, "add", "(I)I"⟩
abbrev cX5_remove : ByteArray := prog_7_method_22_code
def yX5_remove : MethodName := ⟨RX5, "remove", "(I)I"⟩
abbrev cX5_countRows : ByteArray := prog_7_method_23_code
def yX5_countRows : MethodName := ⟨RX5, "countRows", "(II)I"⟩
abbrev cX5_count : ByteArray := prog_7_method_24_code
def yX5_count : MethodName := ⟨RX5, "count", "(II)I"⟩
abbrev cX5_power : ByteArray := prog_7_method_25_code
def yX5_power : MethodName := ⟨RX5, "power", "(JI)J"⟩
abbrev cX5_allOf : ByteArray := prog_7_method_26_code
def yX5_allOf : MethodName := ⟨RX5, "allOf", "()J"⟩
abbrev cX5_table : ByteArray := prog_7_method_27_code
def yX5_table : MethodName := ⟨RX5, "table", "(IIII)J"⟩
abbrev cX5_all : ByteArray := prog_7_method_28_code
def yX5_all : MethodName := ⟨RX5, "all", "()J"⟩
abbrev cX5_isOut : ByteArray := prog_7_method_29_code
def yX5_isOut : MethodName := ⟨RX5, "isOut", "(I)Z"⟩
abbrev cX5_weightOf : ByteArray := prog_7_method_30_code
def yX5_weightOf : MethodName := ⟨RX5, "weightOf", "(II)J"⟩
abbrev cX5_weight : ByteArray := prog_7_method_31_code
def yX5_weight : MethodName := ⟨RX5, "weight", "(II)J"⟩
abbrev cX5_upTo : ByteArray := prog_7_method_32_code
def yX5_upTo : MethodName := ⟨RX5, "upTo", "(II)J"⟩
abbrev cX5_drawn : ByteArray := prog_7_method_33_code
def yX5_drawn : MethodName := ⟨RX5, "drawn", "(IJ)I"⟩
abbrev cX5_noCoin : ByteArray := prog_7_method_34_code
def yX5_noCoin : MethodName := ⟨RX5, "noCoin", "(J)Z"⟩
abbrev cX5_draw : ByteArray := prog_7_method_35_code
def yX5_draw : MethodName := ⟨RX5, "draw", "(IJ)I"⟩
abbrev cX5_isNear : ByteArray := prog_7_method_36_code
def yX5_isNear : MethodName := ⟨RX5, "isNear", "(II)Z"⟩
abbrev cX5_reaches : ByteArray := prog_7_method_37_code
def yX5_reaches : MethodName := ⟨RX5, "reaches", "()Z"⟩
abbrev cX5_enough : ByteArray := prog_7_method_38_code
def yX5_enough : MethodName := ⟨RX5, "enough", "(II)Z"⟩
abbrev cX5_noCost : ByteArray := prog_7_method_39_code
def yX5_noCost : MethodName := ⟨RX5, "noCost", "(II)Z"⟩
abbrev cX5_isEnough : ByteArray := prog_7_method_40_code
def yX5_isEnough : MethodName := ⟨RX5, "isEnough", "(II)Z"⟩
abbrev cX5_least : ByteArray := prog_7_method_41_code
def yX5_least : MethodName := ⟨RX5, "least", "(I)I"⟩
abbrev cX5_noPart : ByteArray := prog_7_method_42_code
def yX5_noPart : MethodName := ⟨RX5, "noPart", "(II)Z"⟩
abbrev cX5_budget : ByteArray := prog_7_method_43_code
def yX5_budget : MethodName := ⟨RX5, "budget", "(II)V"⟩
abbrev cX5_raise : ByteArray := prog_7_method_44_code
def yX5_raise : MethodName := ⟨RX5, "raise", "(II)V"⟩
abbrev cX5_ask : ByteArray := prog_7_method_45_code
def yX5_ask : MethodName := ⟨RX5, "ask", "(IIIIJ)I"⟩
abbrev cX5_limb : ByteArray := prog_7_method_46_code
def yX5_limb : MethodName := ⟨RX5, "limb", "(III)I"⟩
abbrev cX5_told : ByteArray := prog_7_method_47_code
def yX5_told : MethodName := ⟨RX5, "told", "(I)I"⟩
def RJ0 : String := "java/lang/String"
def TJ0 : u_T := fun k => match k with
  | _ => ("", "", "", false)
def tyJ0 : Nat → FieldType := fun k => match k with
  | _ => .int
abbrev wsJ00 : List Cond := u_ws RJ0 TJ0 0
theorem nmJ0 : ∀ a, a < 0 → ∀ b, b < 0 → a ≠ b → (TJ0 a).2.1 ≠ (TJ0 b).2.1 := by decide +kernel
theorem tyJ0_ok : ∀ k, k < 0 → parseFieldDescriptor (TJ0 k).2.2.1 = some (tyJ0 k) := by decide +kernel
def RL : String := "PrivateCountsLaw"
abbrev cL_remove : ByteArray := method_3_code
def yL_remove : MethodName := ⟨RL, "remove", "(LPrivateCounts;I[J)I"⟩
abbrev cL_table : ByteArray := method_4_code
def yL_table : MethodName := ⟨RL, "table", "(LPrivateCounts;IIII[J)I"⟩
abbrev cL_draw : ByteArray := method_5_code
def yL_draw : MethodName := ⟨RL, "draw", "(LPrivateCounts;IJ[J)I"⟩
abbrev cL_isNear : ByteArray := method_6_code
def yL_isNear : MethodName := ⟨RL, "isNear", "(LPrivateCounts;II[J)I"⟩
abbrev cL_budget : ByteArray := method_7_code
def yL_budget : MethodName := ⟨RL, "budget", "(LPrivateCounts;II)I"⟩
abbrev cL_raise : ByteArray := method_8_code
def yL_raise : MethodName := ⟨RL, "raise", "(LPrivateCounts;II)I"⟩
abbrev cL_isEnough : ByteArray := method_9_code
def yL_isEnough : MethodName := ⟨RL, "isEnough", "(LPrivateCounts;II[J)I"⟩
abbrev cL_least : ByteArray := method_10_code
def yL_least : MethodName := ⟨RL, "least", "(LPrivateCounts;I[J)I"⟩
abbrev cL_ask : ByteArray := method_11_code
def yL_ask : MethodName := ⟨RL, "ask", "(LPrivateCounts;IIIIJ[J)I"⟩
abbrev cL_limb : ByteArray := method_12_code
def yL_limb : MethodName := ⟨RL, "limb", "(LPrivateCounts;III[J)I"⟩
abbrev cL_told : ByteArray := method_13_code
def yL_told : MethodName := ⟨RL, "told", "(LPrivateCounts;I[J)I"⟩
abbrev cL_law : ByteArray := code
def yL_law : MethodName := ⟨RL, "law", "([I)Z"⟩
def wsX1_init : List Cond := .code yX1_init cX1_init 1 none :: ([.methodLink RX1 1 objectInit, .instanceMethod objectInit, .code objectInit ⟨#[0xb1]⟩ 1 none, .arrayClass .int, .fieldLink RX1 9 "PrivateCounts$Natural" "limbs" "[I", .fieldLink RX1 13 "PrivateCounts$Natural" "size" "I"] ++ wsX10)
def wsX1_append : List Cond := .code yX1_append cX1_append 3 none :: ([.fieldLink RX1 13 "PrivateCounts$Natural" "size" "I", .fieldLink RX1 9 "PrivateCounts$Natural" "limbs" "[I"] ++ wsX10)
def wsX1_become : List Cond := .code yX1_become cX1_become 2 none :: ([.fieldLink RX1 13 "PrivateCounts$Natural" "size" "I", .methodLink RX1 17 yX1_append, .instanceMethod yX1_append, .selects RX1 yX1_append yX1_append, .initialized RX1, .code yX1_append cX1_append 3 none, .fieldLink RX1 9 "PrivateCounts$Natural" "limbs" "[I"] ++ wsX10)
def wsX0_init : List Cond := .code yX0_init cX0_init 1 none :: ([.methodLink RX0 1 objectInit, .instanceMethod objectInit, .code objectInit ⟨#[0xb1]⟩ 1 none, .classLink RX0 7 RX1, .instantiable RX1 2, .initialized RX1, .fieldLink RX0 10 "PrivateCounts$Fraction" "numerator" "LPrivateCounts$Natural;", .fieldLink RX0 16 "PrivateCounts$Fraction" "denominator" "LPrivateCounts$Natural;", .instanceMethod yX1_init, .code yX1_init cX1_init 1 none, .methodLink RX1 1 objectInit, .arrayClass .int, .fieldLink RX1 9 "PrivateCounts$Natural" "limbs" "[I", .fieldLink RX1 13 "PrivateCounts$Natural" "size" "I", .methodLink RX0 19 yX1_become, .instanceMethod yX1_become, .selects RX1 yX1_become yX1_become, .code yX1_become cX1_become 2 none, .methodLink RX1 17 yX1_append, .instanceMethod yX1_append, .selects RX1 yX1_append yX1_append, .code yX1_append cX1_append 3 none] ++ wsX10 ++ wsX00)
def wsX0_commonDivisor : List Cond := .code yX0_commonDivisor cX0_commonDivisor 6 (some .int) :: ([])
def wsX1_limbAt : List Cond := .code yX1_limbAt cX1_limbAt 2 (some .int) :: ([.fieldLink RX1 13 "PrivateCounts$Natural" "size" "I", .fieldLink RX1 9 "PrivateCounts$Natural" "limbs" "[I"] ++ wsX10)
def wsX1_trim : List Cond := .code yX1_trim cX1_trim 1 none :: ([.fieldLink RX1 13 "PrivateCounts$Natural" "size" "I", .methodLink RX1 26 yX1_limbAt, .instanceMethod yX1_limbAt, .selects RX1 yX1_limbAt yX1_limbAt, .initialized RX1, .code yX1_limbAt cX1_limbAt 2 (some .int), .fieldLink RX1 9 "PrivateCounts$Natural" "limbs" "[I"] ++ wsX10)
def wsX1_divideBy : List Cond := .code yX1_divideBy cX1_divideBy 5 none :: ([.fieldLink RX1 13 "PrivateCounts$Natural" "size" "I", .fieldLink RX1 9 "PrivateCounts$Natural" "limbs" "[I", .methodLink RX1 23 yX1_trim, .instanceMethod yX1_trim, .selects RX1 yX1_trim yX1_trim, .initialized RX1, .code yX1_trim cX1_trim 1 none, .methodLink RX1 26 yX1_limbAt, .instanceMethod yX1_limbAt, .selects RX1 yX1_limbAt yX1_limbAt, .code yX1_limbAt cX1_limbAt 2 (some .int)] ++ wsX10)
def wsX0_become_r1 : List Cond := [Cond.fieldLink RX0 10 "PrivateCounts$Fraction" "numerator" "LPrivateCounts$Natural;", Cond.fieldLink RX0 16 "PrivateCounts$Fraction" "denominator" "LPrivateCounts$Natural;", Cond.methodLink RX0 23 yX0_commonDivisor, Cond.static yX0_commonDivisor, Cond.initialized RX0, Cond.code yX0_commonDivisor cX0_commonDivisor 6 (some .int), Cond.methodLink RX0 19 yX1_become, Cond.instanceMethod yX1_become, Cond.selects RX1 yX1_become yX1_become, Cond.initialized RX1, Cond.code yX1_become cX1_become 2 none, Cond.fieldLink RX1 13 "PrivateCounts$Natural" "size" "I", Cond.methodLink RX1 17 yX1_append, Cond.instanceMethod yX1_append, Cond.selects RX1 yX1_append yX1_append, Cond.code yX1_append cX1_append 3 none, Cond.fieldLink RX1 9 "PrivateCounts$Natural" "limbs" "[I", Cond.methodLink RX0 27 yX1_divideBy, Cond.instanceMethod yX1_divideBy, Cond.selects RX1 yX1_divideBy yX1_divideBy, Cond.code yX1_divideBy cX1_divideBy 5 none, Cond.methodLink RX1 23 yX1_trim, Cond.instanceMethod yX1_trim, Cond.selects RX1 yX1_trim yX1_trim]
def wsX0_become_r2 : List Cond := [Cond.code yX1_trim cX1_trim 1 none, Cond.methodLink RX1 26 yX1_limbAt, Cond.instanceMethod yX1_limbAt, Cond.selects RX1 yX1_limbAt yX1_limbAt, Cond.code yX1_limbAt cX1_limbAt 2 (some .int)]
def wsX0_become : List Cond := .code yX0_become cX0_become 4 none :: ((wsX0_become_r1 ++ wsX0_become_r2) ++ wsX00 ++ wsX10)
def wsX0_quotient : List Cond := .code yX0_quotient cX0_quotient 2 (some .int) :: ([])
def wsX1_restBy : List Cond := .code yX1_restBy cX1_restBy 5 (some .int) :: ([.fieldLink RX1 13 "PrivateCounts$Natural" "size" "I", .methodLink RX1 26 yX1_limbAt, .instanceMethod yX1_limbAt, .selects RX1 yX1_limbAt yX1_limbAt, .initialized RX1, .code yX1_limbAt cX1_limbAt 2 (some .int), .fieldLink RX1 9 "PrivateCounts$Natural" "limbs" "[I"] ++ wsX10)
def wsX1_times : List Cond := .code yX1_times cX1_times 5 none :: ([.fieldLink RX1 13 "PrivateCounts$Natural" "size" "I", .fieldLink RX1 9 "PrivateCounts$Natural" "limbs" "[I", .constantLong RX1 21 (2147483647), .methodLink RX1 17 yX1_append, .instanceMethod yX1_append, .selects RX1 yX1_append yX1_append, .initialized RX1, .code yX1_append cX1_append 3 none, .methodLink RX1 23 yX1_trim, .instanceMethod yX1_trim, .selects RX1 yX1_trim yX1_trim, .code yX1_trim cX1_trim 1 none, .methodLink RX1 26 yX1_limbAt, .instanceMethod yX1_limbAt, .selects RX1 yX1_limbAt yX1_limbAt, .code yX1_limbAt cX1_limbAt 2 (some .int)] ++ wsX10)
def wsX1_plusTimes : List Cond := .code yX1_plusTimes cX1_plusTimes 7 none :: ([.fieldLink RX1 13 "PrivateCounts$Natural" "size" "I", .fieldLink RX1 9 "PrivateCounts$Natural" "limbs" "[I", .constantLong RX1 21 (2147483647), .methodLink RX1 26 yX1_limbAt, .instanceMethod yX1_limbAt, .selects RX1 yX1_limbAt yX1_limbAt, .initialized RX1, .code yX1_limbAt cX1_limbAt 2 (some .int), .methodLink RX1 17 yX1_append, .instanceMethod yX1_append, .selects RX1 yX1_append yX1_append, .code yX1_append cX1_append 3 none, .methodLink RX1 23 yX1_trim, .instanceMethod yX1_trim, .selects RX1 yX1_trim yX1_trim, .code yX1_trim cX1_trim 1 none] ++ wsX10)
def wsX0_change_r1 : List Cond := [Cond.fieldLink RX0 16 "PrivateCounts$Fraction" "denominator" "LPrivateCounts$Natural;", Cond.fieldLink RX0 10 "PrivateCounts$Fraction" "numerator" "LPrivateCounts$Natural;", Cond.methodLink RX0 23 yX0_commonDivisor, Cond.static yX0_commonDivisor, Cond.initialized RX0, Cond.code yX0_commonDivisor cX0_commonDivisor 6 (some .int), Cond.methodLink RX0 38 yX0_quotient, Cond.static yX0_quotient, Cond.code yX0_quotient cX0_quotient 2 (some .int), Cond.methodLink RX0 41 yX1_restBy, Cond.instanceMethod yX1_restBy, Cond.selects RX1 yX1_restBy yX1_restBy, Cond.initialized RX1, Cond.code yX1_restBy cX1_restBy 5 (some .int), Cond.fieldLink RX1 13 "PrivateCounts$Natural" "size" "I", Cond.methodLink RX1 26 yX1_limbAt, Cond.instanceMethod yX1_limbAt, Cond.selects RX1 yX1_limbAt yX1_limbAt, Cond.code yX1_limbAt cX1_limbAt 2 (some .int), Cond.fieldLink RX1 9 "PrivateCounts$Natural" "limbs" "[I", Cond.methodLink RX0 27 yX1_divideBy, Cond.instanceMethod yX1_divideBy, Cond.selects RX1 yX1_divideBy yX1_divideBy, Cond.code yX1_divideBy cX1_divideBy 5 none]
def wsX0_change_r2 : List Cond := [Cond.methodLink RX1 23 yX1_trim, Cond.instanceMethod yX1_trim, Cond.selects RX1 yX1_trim yX1_trim, Cond.code yX1_trim cX1_trim 1 none, Cond.methodLink RX0 45 yX1_times, Cond.instanceMethod yX1_times, Cond.selects RX1 yX1_times yX1_times, Cond.code yX1_times cX1_times 5 none, Cond.constantLong RX1 21 (2147483647), Cond.methodLink RX1 17 yX1_append, Cond.instanceMethod yX1_append, Cond.selects RX1 yX1_append yX1_append, Cond.code yX1_append cX1_append 3 none, Cond.methodLink RX0 48 yX1_plusTimes, Cond.instanceMethod yX1_plusTimes, Cond.selects RX1 yX1_plusTimes yX1_plusTimes, Cond.code yX1_plusTimes cX1_plusTimes 7 none]
def wsX0_change : List Cond := .code yX0_change cX0_change 9 none :: ((wsX0_change_r1 ++ wsX0_change_r2) ++ wsX00 ++ wsX10)
def wsX0_increase_r1 : List Cond := [Cond.methodLink RX0 30 yX0_change, Cond.instanceMethod yX0_change, Cond.selects RX0 yX0_change yX0_change, Cond.initialized RX0, Cond.code yX0_change cX0_change 9 none, Cond.fieldLink RX0 16 "PrivateCounts$Fraction" "denominator" "LPrivateCounts$Natural;", Cond.fieldLink RX0 10 "PrivateCounts$Fraction" "numerator" "LPrivateCounts$Natural;", Cond.methodLink RX0 23 yX0_commonDivisor, Cond.static yX0_commonDivisor, Cond.code yX0_commonDivisor cX0_commonDivisor 6 (some .int), Cond.methodLink RX0 38 yX0_quotient, Cond.static yX0_quotient, Cond.code yX0_quotient cX0_quotient 2 (some .int), Cond.methodLink RX0 41 yX1_restBy, Cond.instanceMethod yX1_restBy, Cond.selects RX1 yX1_restBy yX1_restBy, Cond.initialized RX1, Cond.code yX1_restBy cX1_restBy 5 (some .int), Cond.fieldLink RX1 13 "PrivateCounts$Natural" "size" "I", Cond.methodLink RX1 26 yX1_limbAt, Cond.instanceMethod yX1_limbAt, Cond.selects RX1 yX1_limbAt yX1_limbAt, Cond.code yX1_limbAt cX1_limbAt 2 (some .int), Cond.fieldLink RX1 9 "PrivateCounts$Natural" "limbs" "[I"]
def wsX0_increase_r2 : List Cond := [Cond.methodLink RX0 27 yX1_divideBy, Cond.instanceMethod yX1_divideBy, Cond.selects RX1 yX1_divideBy yX1_divideBy, Cond.code yX1_divideBy cX1_divideBy 5 none, Cond.methodLink RX1 23 yX1_trim, Cond.instanceMethod yX1_trim, Cond.selects RX1 yX1_trim yX1_trim, Cond.code yX1_trim cX1_trim 1 none, Cond.methodLink RX0 45 yX1_times, Cond.instanceMethod yX1_times, Cond.selects RX1 yX1_times yX1_times, Cond.code yX1_times cX1_times 5 none, Cond.constantLong RX1 21 (2147483647), Cond.methodLink RX1 17 yX1_append, Cond.instanceMethod yX1_append, Cond.selects RX1 yX1_append yX1_append, Cond.code yX1_append cX1_append 3 none, Cond.methodLink RX0 48 yX1_plusTimes, Cond.instanceMethod yX1_plusTimes, Cond.selects RX1 yX1_plusTimes yX1_plusTimes, Cond.code yX1_plusTimes cX1_plusTimes 7 none]
def wsX0_increase : List Cond := .code yX0_increase cX0_increase 3 none :: ((wsX0_increase_r1 ++ wsX0_increase_r2) ++ wsX00 ++ wsX10)
def wsX0_decrease_r1 : List Cond := [Cond.methodLink RX0 30 yX0_change, Cond.instanceMethod yX0_change, Cond.selects RX0 yX0_change yX0_change, Cond.initialized RX0, Cond.code yX0_change cX0_change 9 none, Cond.fieldLink RX0 16 "PrivateCounts$Fraction" "denominator" "LPrivateCounts$Natural;", Cond.fieldLink RX0 10 "PrivateCounts$Fraction" "numerator" "LPrivateCounts$Natural;", Cond.methodLink RX0 23 yX0_commonDivisor, Cond.static yX0_commonDivisor, Cond.code yX0_commonDivisor cX0_commonDivisor 6 (some .int), Cond.methodLink RX0 38 yX0_quotient, Cond.static yX0_quotient, Cond.code yX0_quotient cX0_quotient 2 (some .int), Cond.methodLink RX0 41 yX1_restBy, Cond.instanceMethod yX1_restBy, Cond.selects RX1 yX1_restBy yX1_restBy, Cond.initialized RX1, Cond.code yX1_restBy cX1_restBy 5 (some .int), Cond.fieldLink RX1 13 "PrivateCounts$Natural" "size" "I", Cond.methodLink RX1 26 yX1_limbAt, Cond.instanceMethod yX1_limbAt, Cond.selects RX1 yX1_limbAt yX1_limbAt, Cond.code yX1_limbAt cX1_limbAt 2 (some .int), Cond.fieldLink RX1 9 "PrivateCounts$Natural" "limbs" "[I"]
def wsX0_decrease_r2 : List Cond := [Cond.methodLink RX0 27 yX1_divideBy, Cond.instanceMethod yX1_divideBy, Cond.selects RX1 yX1_divideBy yX1_divideBy, Cond.code yX1_divideBy cX1_divideBy 5 none, Cond.methodLink RX1 23 yX1_trim, Cond.instanceMethod yX1_trim, Cond.selects RX1 yX1_trim yX1_trim, Cond.code yX1_trim cX1_trim 1 none, Cond.methodLink RX0 45 yX1_times, Cond.instanceMethod yX1_times, Cond.selects RX1 yX1_times yX1_times, Cond.code yX1_times cX1_times 5 none, Cond.constantLong RX1 21 (2147483647), Cond.methodLink RX1 17 yX1_append, Cond.instanceMethod yX1_append, Cond.selects RX1 yX1_append yX1_append, Cond.code yX1_append cX1_append 3 none, Cond.methodLink RX0 48 yX1_plusTimes, Cond.instanceMethod yX1_plusTimes, Cond.selects RX1 yX1_plusTimes yX1_plusTimes, Cond.code yX1_plusTimes cX1_plusTimes 7 none]
def wsX0_decrease : List Cond := .code yX0_decrease cX0_decrease 3 none :: ((wsX0_decrease_r1 ++ wsX0_decrease_r2) ++ wsX00 ++ wsX10)
def wsX1_isLess : List Cond := .code yX1_isLess cX1_isLess 8 (some .boolean) :: ([.fieldLink RX1 13 "PrivateCounts$Natural" "size" "I", .methodLink RX1 26 yX1_limbAt, .instanceMethod yX1_limbAt, .selects RX1 yX1_limbAt yX1_limbAt, .initialized RX1, .code yX1_limbAt cX1_limbAt 2 (some .int), .fieldLink RX1 9 "PrivateCounts$Natural" "limbs" "[I"] ++ wsX10)
def wsX0_isLessThan : List Cond := .code yX0_isLessThan cX0_isLessThan 3 (some .boolean) :: ([.fieldLink RX0 10 "PrivateCounts$Fraction" "numerator" "LPrivateCounts$Natural;", .fieldLink RX0 16 "PrivateCounts$Fraction" "denominator" "LPrivateCounts$Natural;", .methodLink RX0 34 yX1_isLess, .static yX1_isLess, .initialized RX1, .code yX1_isLess cX1_isLess 8 (some .boolean), .fieldLink RX1 13 "PrivateCounts$Natural" "size" "I", .methodLink RX1 26 yX1_limbAt, .instanceMethod yX1_limbAt, .selects RX1 yX1_limbAt yX1_limbAt, .code yX1_limbAt cX1_limbAt 2 (some .int), .fieldLink RX1 9 "PrivateCounts$Natural" "limbs" "[I"] ++ wsX00 ++ wsX10)
def wsX2_init : List Cond := .code yX2_init cX2_init 1 none :: ([.methodLink RX2 1 objectInit, .instanceMethod objectInit, .code objectInit ⟨#[0xb1]⟩ 1 none, .classLink RX2 7 RX1, .instantiable RX1 2, .initialized RX1, .fieldLink RX2 10 "PrivateCounts$Series" "missing" "LPrivateCounts$Natural;", .fieldLink RX2 16 "PrivateCounts$Series" "term" "LPrivateCounts$Natural;", .instanceMethod yX1_init, .code yX1_init cX1_init 1 none, .methodLink RX1 1 objectInit, .arrayClass .int, .fieldLink RX1 9 "PrivateCounts$Natural" "limbs" "[I", .fieldLink RX1 13 "PrivateCounts$Natural" "size" "I"] ++ wsX10 ++ wsX20)
def wsX2_reaches_r1 : List Cond := [Cond.fieldLink RX2 10 "PrivateCounts$Series" "missing" "LPrivateCounts$Natural;", Cond.fieldLink RX2 19 "PrivateCounts$Table" "b" "I", Cond.fieldLink RX2 25 "PrivateCounts$Table" "a" "I", Cond.fieldLink RX2 16 "PrivateCounts$Series" "term" "LPrivateCounts$Natural;", Cond.methodLink RX2 28 yX1_become, Cond.instanceMethod yX1_become, Cond.selects RX1 yX1_become yX1_become, Cond.initialized RX1, Cond.code yX1_become cX1_become 2 none, Cond.fieldLink RX1 13 "PrivateCounts$Natural" "size" "I", Cond.methodLink RX1 17 yX1_append, Cond.instanceMethod yX1_append, Cond.selects RX1 yX1_append yX1_append, Cond.code yX1_append cX1_append 3 none, Cond.fieldLink RX1 9 "PrivateCounts$Natural" "limbs" "[I", Cond.methodLink RX2 32 yX1_times, Cond.instanceMethod yX1_times, Cond.selects RX1 yX1_times yX1_times, Cond.code yX1_times cX1_times 5 none, Cond.constantLong RX1 21 (2147483647), Cond.methodLink RX1 23 yX1_trim, Cond.instanceMethod yX1_trim, Cond.selects RX1 yX1_trim yX1_trim, Cond.code yX1_trim cX1_trim 1 none]
def wsX2_reaches_r2 : List Cond := [Cond.methodLink RX1 26 yX1_limbAt, Cond.instanceMethod yX1_limbAt, Cond.selects RX1 yX1_limbAt yX1_limbAt, Cond.code yX1_limbAt cX1_limbAt 2 (some .int), Cond.methodLink RX2 35 yX1_isLess, Cond.static yX1_isLess, Cond.code yX1_isLess cX1_isLess 8 (some .boolean), Cond.methodLink RX2 39 yX1_plusTimes, Cond.instanceMethod yX1_plusTimes, Cond.selects RX1 yX1_plusTimes yX1_plusTimes, Cond.code yX1_plusTimes cX1_plusTimes 7 none]
def wsX2_reaches : List Cond := .code yX2_reaches cX2_reaches 6 (some .boolean) :: ((wsX2_reaches_r1 ++ wsX2_reaches_r2) ++ wsX20 ++ wsX30 ++ wsX10)
def wsX3_power : List Cond := .code yX3_power cX3_power 5 (some .long) :: ([])
def wsX3_become : List Cond := .code yX3_become cX3_become 5 none :: ([.fieldLink RX3 13 "PrivateCounts$Table" "a" "I", .fieldLink RX3 17 "PrivateCounts$Table" "b" "I", .fieldLink RX3 20 "PrivateCounts$Table" "low" "I", .fieldLink RX3 23 "PrivateCounts$Table" "high" "I", .fieldLink RX3 30 "PrivateCounts$Table" "total" "J", .methodLink RX3 26 yX3_power, .static yX3_power, .initialized RX3, .code yX3_power cX3_power 5 (some .long)] ++ wsX30)
def wsX3_init : List Cond := .code yX3_init cX3_init 1 none :: ([.methodLink RX3 1 objectInit, .instanceMethod objectInit, .code objectInit ⟨#[0xb1]⟩ 1 none, .methodLink RX3 7 yX3_become, .instanceMethod yX3_become, .selects RX3 yX3_become yX3_become, .initialized RX3, .code yX3_become cX3_become 5 none, .fieldLink RX3 13 "PrivateCounts$Table" "a" "I", .fieldLink RX3 17 "PrivateCounts$Table" "b" "I", .fieldLink RX3 20 "PrivateCounts$Table" "low" "I", .fieldLink RX3 23 "PrivateCounts$Table" "high" "I", .fieldLink RX3 30 "PrivateCounts$Table" "total" "J", .methodLink RX3 26 yX3_power, .static yX3_power, .code yX3_power cX3_power 5 (some .long)] ++ wsX30)
def wsX3_isAllowed : List Cond := .code yX3_isAllowed cX3_isAllowed 4 (some .boolean) :: ([])
def wsX3_holds : List Cond := .code yX3_holds cX3_holds 2 (some .boolean) :: ([.fieldLink RX3 20 "PrivateCounts$Table" "low" "I", .fieldLink RX3 23 "PrivateCounts$Table" "high" "I"] ++ wsX30)
def wsX3_hasCoin : List Cond := .code yX3_hasCoin cX3_hasCoin 3 (some .boolean) :: ([.fieldLink RX3 30 "PrivateCounts$Table" "total" "J"] ++ wsX30)
def wsX3_nearestTo : List Cond := .code yX3_nearestTo cX3_nearestTo 2 (some .int) :: ([.fieldLink RX3 20 "PrivateCounts$Table" "low" "I", .fieldLink RX3 23 "PrivateCounts$Table" "high" "I"] ++ wsX30)
def wsX3_weightOf : List Cond := .code yX3_weightOf cX3_weightOf 5 (some .long) :: ([.fieldLink RX3 20 "PrivateCounts$Table" "low" "I", .fieldLink RX3 23 "PrivateCounts$Table" "high" "I", .fieldLink RX3 30 "PrivateCounts$Table" "total" "J", .fieldLink RX3 17 "PrivateCounts$Table" "b" "I", .fieldLink RX3 13 "PrivateCounts$Table" "a" "I", .methodLink RX3 34 yX3_holds, .instanceMethod yX3_holds, .selects RX3 yX3_holds yX3_holds, .initialized RX3, .code yX3_holds cX3_holds 2 (some .boolean), .methodLink RX3 26 yX3_power, .static yX3_power, .code yX3_power cX3_power 5 (some .long)] ++ wsX30)
def wsX3_sumTo : List Cond := .code yX3_sumTo cX3_sumTo 6 (some .long) :: ([.fieldLink RX3 20 "PrivateCounts$Table" "low" "I", .fieldLink RX3 23 "PrivateCounts$Table" "high" "I", .methodLink RX3 38 yX3_weightOf, .instanceMethod yX3_weightOf, .selects RX3 yX3_weightOf yX3_weightOf, .initialized RX3, .code yX3_weightOf cX3_weightOf 5 (some .long), .fieldLink RX3 30 "PrivateCounts$Table" "total" "J", .fieldLink RX3 17 "PrivateCounts$Table" "b" "I", .fieldLink RX3 13 "PrivateCounts$Table" "a" "I", .methodLink RX3 34 yX3_holds, .instanceMethod yX3_holds, .selects RX3 yX3_holds yX3_holds, .code yX3_holds cX3_holds 2 (some .boolean), .methodLink RX3 26 yX3_power, .static yX3_power, .code yX3_power cX3_power 5 (some .long)] ++ wsX30)
def wsX3_outcomeOf : List Cond := .code yX3_outcomeOf cX3_outcomeOf 7 (some .int) :: ([.fieldLink RX3 20 "PrivateCounts$Table" "low" "I", .fieldLink RX3 23 "PrivateCounts$Table" "high" "I", .methodLink RX3 38 yX3_weightOf, .instanceMethod yX3_weightOf, .selects RX3 yX3_weightOf yX3_weightOf, .initialized RX3, .code yX3_weightOf cX3_weightOf 5 (some .long), .fieldLink RX3 30 "PrivateCounts$Table" "total" "J", .fieldLink RX3 17 "PrivateCounts$Table" "b" "I", .fieldLink RX3 13 "PrivateCounts$Table" "a" "I", .methodLink RX3 34 yX3_holds, .instanceMethod yX3_holds, .selects RX3 yX3_holds yX3_holds, .code yX3_holds cX3_holds 2 (some .boolean), .methodLink RX3 26 yX3_power, .static yX3_power, .code yX3_power cX3_power 5 (some .long)] ++ wsX30)
def wsX3_isWithinRatio : List Cond := .code yX3_isWithinRatio cX3_isWithinRatio 4 (some .boolean) :: ([.fieldLink RX3 20 "PrivateCounts$Table" "low" "I", .fieldLink RX3 23 "PrivateCounts$Table" "high" "I", .fieldLink RX3 13 "PrivateCounts$Table" "a" "I", .fieldLink RX3 17 "PrivateCounts$Table" "b" "I", .methodLink RX3 38 yX3_weightOf, .instanceMethod yX3_weightOf, .selects RX3 yX3_weightOf yX3_weightOf, .initialized RX3, .code yX3_weightOf cX3_weightOf 5 (some .long), .fieldLink RX3 30 "PrivateCounts$Table" "total" "J", .methodLink RX3 34 yX3_holds, .instanceMethod yX3_holds, .selects RX3 yX3_holds yX3_holds, .code yX3_holds cX3_holds 2 (some .boolean), .methodLink RX3 26 yX3_power, .static yX3_power, .code yX3_power cX3_power 5 (some .long)] ++ wsX30)
def wsX4_init_r1 : List Cond := [Cond.methodLink RX4 1 objectInit, Cond.instanceMethod objectInit, Cond.code objectInit ⟨#[0xb1]⟩ 1 none, Cond.arrayClass .int, Cond.fieldLink RX4 9 "PrivateCounts" "rows" "[I", Cond.fieldLink RX4 13 "PrivateCounts" "rowCount" "I", Cond.classLink RX4 17 RX3, Cond.instantiable RX3 5, Cond.initialized RX3, Cond.fieldLink RX4 20 "PrivateCounts" "weights" "LPrivateCounts$Table;", Cond.classLink RX4 24 RX2, Cond.instantiable RX2 2, Cond.initialized RX2, Cond.fieldLink RX4 27 "PrivateCounts" "series" "LPrivateCounts$Series;", Cond.classLink RX4 31 RX0, Cond.instantiable RX0 2, Cond.initialized RX0, Cond.fieldLink RX4 34 "PrivateCounts" "granted" "LPrivateCounts$Fraction;", Cond.fieldLink RX4 38 "PrivateCounts" "spent" "LPrivateCounts$Fraction;", Cond.fieldLink RX4 41 "PrivateCounts" "left" "LPrivateCounts$Fraction;", Cond.fieldLink RX4 44 "PrivateCounts" "answered" "I", Cond.fieldLink RX4 47 "PrivateCounts" "refusedForCost" "I", Cond.fieldLink RX4 50 "PrivateCounts" "refusedForBudget" "I", Cond.methodLink RX4 19 yX3_init]
def wsX4_init_r2 : List Cond := [Cond.instanceMethod yX3_init, Cond.code yX3_init cX3_init 1 none, Cond.methodLink RX3 1 objectInit, Cond.methodLink RX3 7 yX3_become, Cond.instanceMethod yX3_become, Cond.selects RX3 yX3_become yX3_become, Cond.code yX3_become cX3_become 5 none, Cond.fieldLink RX3 13 "PrivateCounts$Table" "a" "I", Cond.fieldLink RX3 17 "PrivateCounts$Table" "b" "I", Cond.fieldLink RX3 20 "PrivateCounts$Table" "low" "I", Cond.fieldLink RX3 23 "PrivateCounts$Table" "high" "I", Cond.fieldLink RX3 30 "PrivateCounts$Table" "total" "J", Cond.methodLink RX3 26 yX3_power, Cond.static yX3_power, Cond.code yX3_power cX3_power 5 (some .long), Cond.instanceMethod yX2_init, Cond.code yX2_init cX2_init 1 none, Cond.methodLink RX2 1 objectInit, Cond.classLink RX2 7 RX1, Cond.instantiable RX1 2, Cond.initialized RX1, Cond.fieldLink RX2 10 "PrivateCounts$Series" "missing" "LPrivateCounts$Natural;", Cond.fieldLink RX2 16 "PrivateCounts$Series" "term" "LPrivateCounts$Natural;", Cond.instanceMethod yX1_init]
def wsX4_init_r3 : List Cond := [Cond.code yX1_init cX1_init 1 none, Cond.methodLink RX1 1 objectInit, Cond.fieldLink RX1 9 "PrivateCounts$Natural" "limbs" "[I", Cond.fieldLink RX1 13 "PrivateCounts$Natural" "size" "I", Cond.methodLink RX4 33 yX0_init, Cond.instanceMethod yX0_init, Cond.code yX0_init cX0_init 1 none, Cond.methodLink RX0 1 objectInit, Cond.classLink RX0 7 RX1, Cond.fieldLink RX0 10 "PrivateCounts$Fraction" "numerator" "LPrivateCounts$Natural;", Cond.fieldLink RX0 16 "PrivateCounts$Fraction" "denominator" "LPrivateCounts$Natural;", Cond.methodLink RX0 19 yX1_become, Cond.instanceMethod yX1_become, Cond.selects RX1 yX1_become yX1_become, Cond.code yX1_become cX1_become 2 none, Cond.methodLink RX1 17 yX1_append, Cond.instanceMethod yX1_append, Cond.selects RX1 yX1_append yX1_append, Cond.code yX1_append cX1_append 3 none]
def wsX4_init : List Cond := .code yX4_init cX4_init 1 none :: ((wsX4_init_r1 ++ (wsX4_init_r2 ++ wsX4_init_r3)) ++ wsX40 ++ wsX30 ++ wsX20 ++ wsX00 ++ wsX10)
def wsX4_add : List Cond := .code yX4_add cX4_add 2 (some .int) :: ([.fieldLink RX4 13 "PrivateCounts" "rowCount" "I", .fieldLink RX4 9 "PrivateCounts" "rows" "[I"] ++ wsX40)
def wsX4_remove : List Cond := .code yX4_remove cX4_remove 4 (some .int) :: ([.classLink RX4 53 "java/lang/IndexOutOfBoundsException", .initialized "java/lang/IndexOutOfBoundsException", .fieldLink RX4 13 "PrivateCounts" "rowCount" "I", .fieldLink RX4 9 "PrivateCounts" "rows" "[I"] ++ wsX40 ++ (vx_atS RX4 57 "java/lang/IndexOutOfBoundsException" ["java/lang/RuntimeException", "java/lang/Exception"]).filter goodWord)
def wsX4_count : List Cond := .code yX4_count cX4_count 5 (some .int) :: ([.fieldLink RX4 13 "PrivateCounts" "rowCount" "I", .fieldLink RX4 9 "PrivateCounts" "rows" "[I"] ++ wsX40)
def wsX4_table : List Cond := .code yX4_table cX4_table 5 (some .long) :: ([.classLink RX4 64 "java/lang/IllegalArgumentException", .initialized "java/lang/IllegalArgumentException", .fieldLink RX4 20 "PrivateCounts" "weights" "LPrivateCounts$Table;", .fieldLink RX4 73 "PrivateCounts$Table" "total" "J", .methodLink RX4 60 yX3_isAllowed, .static yX3_isAllowed, .initialized RX3, .code yX3_isAllowed cX3_isAllowed 4 (some .boolean), .methodLink RX4 69 yX3_become, .instanceMethod yX3_become, .selects RX3 yX3_become yX3_become, .code yX3_become cX3_become 5 none, .fieldLink RX3 13 "PrivateCounts$Table" "a" "I", .fieldLink RX3 17 "PrivateCounts$Table" "b" "I", .fieldLink RX3 20 "PrivateCounts$Table" "low" "I", .fieldLink RX3 23 "PrivateCounts$Table" "high" "I", .fieldLink RX3 30 "PrivateCounts$Table" "total" "J", .methodLink RX3 26 yX3_power, .static yX3_power, .code yX3_power cX3_power 5 (some .long)] ++ wsX40 ++ wsX30 ++ (vx_atS RX4 68 "java/lang/IllegalArgumentException" ["java/lang/RuntimeException", "java/lang/Exception"]).filter goodWord)
def wsX4_all : List Cond := .code yX4_all cX4_all 1 (some .long) :: ([.fieldLink RX4 20 "PrivateCounts" "weights" "LPrivateCounts$Table;", .fieldLink RX4 73 "PrivateCounts$Table" "total" "J"] ++ wsX40 ++ wsX30)
def wsX4_weight : List Cond := .code yX4_weight cX4_weight 3 (some .long) :: ([.fieldLink RX4 20 "PrivateCounts" "weights" "LPrivateCounts$Table;", .methodLink RX4 77 yX3_weightOf, .instanceMethod yX3_weightOf, .selects RX3 yX3_weightOf yX3_weightOf, .initialized RX3, .code yX3_weightOf cX3_weightOf 5 (some .long), .fieldLink RX3 20 "PrivateCounts$Table" "low" "I", .fieldLink RX3 23 "PrivateCounts$Table" "high" "I", .fieldLink RX3 30 "PrivateCounts$Table" "total" "J", .fieldLink RX3 17 "PrivateCounts$Table" "b" "I", .fieldLink RX3 13 "PrivateCounts$Table" "a" "I", .methodLink RX3 34 yX3_holds, .instanceMethod yX3_holds, .selects RX3 yX3_holds yX3_holds, .code yX3_holds cX3_holds 2 (some .boolean), .methodLink RX3 26 yX3_power, .static yX3_power, .code yX3_power cX3_power 5 (some .long)] ++ wsX40 ++ wsX30)
def wsX4_upTo : List Cond := .code yX4_upTo cX4_upTo 3 (some .long) :: ([.fieldLink RX4 20 "PrivateCounts" "weights" "LPrivateCounts$Table;", .methodLink RX4 81 yX3_sumTo, .instanceMethod yX3_sumTo, .selects RX3 yX3_sumTo yX3_sumTo, .initialized RX3, .code yX3_sumTo cX3_sumTo 6 (some .long), .fieldLink RX3 20 "PrivateCounts$Table" "low" "I", .fieldLink RX3 23 "PrivateCounts$Table" "high" "I", .methodLink RX3 38 yX3_weightOf, .instanceMethod yX3_weightOf, .selects RX3 yX3_weightOf yX3_weightOf, .code yX3_weightOf cX3_weightOf 5 (some .long), .fieldLink RX3 30 "PrivateCounts$Table" "total" "J", .fieldLink RX3 17 "PrivateCounts$Table" "b" "I", .fieldLink RX3 13 "PrivateCounts$Table" "a" "I", .methodLink RX3 34 yX3_holds, .instanceMethod yX3_holds, .selects RX3 yX3_holds yX3_holds, .code yX3_holds cX3_holds 2 (some .boolean), .methodLink RX3 26 yX3_power, .static yX3_power, .code yX3_power cX3_power 5 (some .long)] ++ wsX40 ++ wsX30)
def wsX4_draw_r1 : List Cond := [Cond.classLink RX4 64 "java/lang/IllegalArgumentException", Cond.initialized "java/lang/IllegalArgumentException", Cond.fieldLink RX4 20 "PrivateCounts" "weights" "LPrivateCounts$Table;", Cond.methodLink RX4 84 yX3_holds, Cond.instanceMethod yX3_holds, Cond.selects RX3 yX3_holds yX3_holds, Cond.initialized RX3, Cond.code yX3_holds cX3_holds 2 (some .boolean), Cond.fieldLink RX3 20 "PrivateCounts$Table" "low" "I", Cond.fieldLink RX3 23 "PrivateCounts$Table" "high" "I", Cond.methodLink RX4 88 yX3_hasCoin, Cond.instanceMethod yX3_hasCoin, Cond.selects RX3 yX3_hasCoin yX3_hasCoin, Cond.code yX3_hasCoin cX3_hasCoin 3 (some .boolean), Cond.fieldLink RX3 30 "PrivateCounts$Table" "total" "J", Cond.methodLink RX4 94 yX3_outcomeOf, Cond.instanceMethod yX3_outcomeOf, Cond.selects RX3 yX3_outcomeOf yX3_outcomeOf, Cond.code yX3_outcomeOf cX3_outcomeOf 7 (some .int), Cond.methodLink RX3 38 yX3_weightOf, Cond.instanceMethod yX3_weightOf, Cond.selects RX3 yX3_weightOf yX3_weightOf, Cond.code yX3_weightOf cX3_weightOf 5 (some .long), Cond.fieldLink RX3 17 "PrivateCounts$Table" "b" "I"]
def wsX4_draw_r2 : List Cond := [Cond.fieldLink RX3 13 "PrivateCounts$Table" "a" "I", Cond.methodLink RX3 34 yX3_holds, Cond.methodLink RX3 26 yX3_power, Cond.static yX3_power, Cond.code yX3_power cX3_power 5 (some .long)]
def wsX4_draw : List Cond := .code yX4_draw cX4_draw 4 (some .int) :: ((wsX4_draw_r1 ++ wsX4_draw_r2) ++ wsX40 ++ wsX30 ++ (vx_atS RX4 68 "java/lang/IllegalArgumentException" ["java/lang/RuntimeException", "java/lang/Exception"]).filter goodWord)
def wsX4_isNear_r1 : List Cond := [Cond.classLink RX4 64 "java/lang/IllegalArgumentException", Cond.initialized "java/lang/IllegalArgumentException", Cond.fieldLink RX4 20 "PrivateCounts" "weights" "LPrivateCounts$Table;", Cond.methodLink RX4 84 yX3_holds, Cond.instanceMethod yX3_holds, Cond.selects RX3 yX3_holds yX3_holds, Cond.initialized RX3, Cond.code yX3_holds cX3_holds 2 (some .boolean), Cond.fieldLink RX3 20 "PrivateCounts$Table" "low" "I", Cond.fieldLink RX3 23 "PrivateCounts$Table" "high" "I", Cond.methodLink RX4 100 yX3_isWithinRatio, Cond.instanceMethod yX3_isWithinRatio, Cond.selects RX3 yX3_isWithinRatio yX3_isWithinRatio, Cond.code yX3_isWithinRatio cX3_isWithinRatio 4 (some .boolean), Cond.fieldLink RX3 13 "PrivateCounts$Table" "a" "I", Cond.fieldLink RX3 17 "PrivateCounts$Table" "b" "I", Cond.methodLink RX3 38 yX3_weightOf, Cond.instanceMethod yX3_weightOf, Cond.selects RX3 yX3_weightOf yX3_weightOf, Cond.code yX3_weightOf cX3_weightOf 5 (some .long), Cond.fieldLink RX3 30 "PrivateCounts$Table" "total" "J", Cond.methodLink RX3 34 yX3_holds, Cond.methodLink RX3 26 yX3_power, Cond.static yX3_power]
def wsX4_isNear_r2 : List Cond := [Cond.code yX3_power cX3_power 5 (some .long)]
def wsX4_isNear : List Cond := .code yX4_isNear cX4_isNear 3 (some .boolean) :: ((wsX4_isNear_r1 ++ wsX4_isNear_r2) ++ wsX40 ++ wsX30 ++ (vx_atS RX4 68 "java/lang/IllegalArgumentException" ["java/lang/RuntimeException", "java/lang/Exception"]).filter goodWord)
def wsX4_isDenominator : List Cond := .code yX4_isDenominator cX4_isDenominator 1 (some .boolean) :: ([])
def wsX4_isGrant : List Cond := .code yX4_isGrant cX4_isGrant 2 (some .boolean) :: ([.methodLink RX4 124 yX4_isDenominator, .static yX4_isDenominator, .initialized RX4, .code yX4_isDenominator cX4_isDenominator 1 (some .boolean)])
def wsX4_budget_r1 : List Cond := [Cond.classLink RX4 64 "java/lang/IllegalArgumentException", Cond.initialized "java/lang/IllegalArgumentException", Cond.fieldLink RX4 34 "PrivateCounts" "granted" "LPrivateCounts$Fraction;", Cond.fieldLink RX4 38 "PrivateCounts" "spent" "LPrivateCounts$Fraction;", Cond.fieldLink RX4 41 "PrivateCounts" "left" "LPrivateCounts$Fraction;", Cond.fieldLink RX4 44 "PrivateCounts" "answered" "I", Cond.fieldLink RX4 47 "PrivateCounts" "refusedForCost" "I", Cond.fieldLink RX4 50 "PrivateCounts" "refusedForBudget" "I", Cond.methodLink RX4 104 yX4_isGrant, Cond.static yX4_isGrant, Cond.initialized RX4, Cond.code yX4_isGrant cX4_isGrant 2 (some .boolean), Cond.methodLink RX4 124 yX4_isDenominator, Cond.static yX4_isDenominator, Cond.code yX4_isDenominator cX4_isDenominator 1 (some .boolean), Cond.methodLink RX4 109 yX0_become, Cond.instanceMethod yX0_become, Cond.selects RX0 yX0_become yX0_become, Cond.initialized RX0, Cond.code yX0_become cX0_become 4 none, Cond.fieldLink RX0 10 "PrivateCounts$Fraction" "numerator" "LPrivateCounts$Natural;", Cond.fieldLink RX0 16 "PrivateCounts$Fraction" "denominator" "LPrivateCounts$Natural;", Cond.methodLink RX0 23 yX0_commonDivisor, Cond.static yX0_commonDivisor]
def wsX4_budget_r2 : List Cond := [Cond.code yX0_commonDivisor cX0_commonDivisor 6 (some .int), Cond.methodLink RX0 19 yX1_become, Cond.instanceMethod yX1_become, Cond.selects RX1 yX1_become yX1_become, Cond.initialized RX1, Cond.code yX1_become cX1_become 2 none, Cond.fieldLink RX1 13 "PrivateCounts$Natural" "size" "I", Cond.methodLink RX1 17 yX1_append, Cond.instanceMethod yX1_append, Cond.selects RX1 yX1_append yX1_append, Cond.code yX1_append cX1_append 3 none, Cond.fieldLink RX1 9 "PrivateCounts$Natural" "limbs" "[I", Cond.methodLink RX0 27 yX1_divideBy, Cond.instanceMethod yX1_divideBy, Cond.selects RX1 yX1_divideBy yX1_divideBy, Cond.code yX1_divideBy cX1_divideBy 5 none, Cond.methodLink RX1 23 yX1_trim, Cond.instanceMethod yX1_trim, Cond.selects RX1 yX1_trim yX1_trim, Cond.code yX1_trim cX1_trim 1 none, Cond.methodLink RX1 26 yX1_limbAt, Cond.instanceMethod yX1_limbAt, Cond.selects RX1 yX1_limbAt yX1_limbAt, Cond.code yX1_limbAt cX1_limbAt 2 (some .int)]
def wsX4_budget : List Cond := .code yX4_budget cX4_budget 3 none :: ((wsX4_budget_r1 ++ wsX4_budget_r2) ++ wsX40 ++ wsX00 ++ wsX10 ++ (vx_atS RX4 68 "java/lang/IllegalArgumentException" ["java/lang/RuntimeException", "java/lang/Exception"]).filter goodWord)
def wsX4_raise_r1 : List Cond := [Cond.classLink RX4 64 "java/lang/IllegalArgumentException", Cond.initialized "java/lang/IllegalArgumentException", Cond.fieldLink RX4 34 "PrivateCounts" "granted" "LPrivateCounts$Fraction;", Cond.fieldLink RX4 41 "PrivateCounts" "left" "LPrivateCounts$Fraction;", Cond.methodLink RX4 104 yX4_isGrant, Cond.static yX4_isGrant, Cond.initialized RX4, Cond.code yX4_isGrant cX4_isGrant 2 (some .boolean), Cond.methodLink RX4 124 yX4_isDenominator, Cond.static yX4_isDenominator, Cond.code yX4_isDenominator cX4_isDenominator 1 (some .boolean), Cond.methodLink RX4 112 yX0_increase, Cond.instanceMethod yX0_increase, Cond.selects RX0 yX0_increase yX0_increase, Cond.initialized RX0, Cond.code yX0_increase cX0_increase 3 none, Cond.methodLink RX0 30 yX0_change, Cond.instanceMethod yX0_change, Cond.selects RX0 yX0_change yX0_change, Cond.code yX0_change cX0_change 9 none, Cond.fieldLink RX0 16 "PrivateCounts$Fraction" "denominator" "LPrivateCounts$Natural;", Cond.fieldLink RX0 10 "PrivateCounts$Fraction" "numerator" "LPrivateCounts$Natural;", Cond.methodLink RX0 23 yX0_commonDivisor, Cond.static yX0_commonDivisor]
def wsX4_raise_r2 : List Cond := [Cond.code yX0_commonDivisor cX0_commonDivisor 6 (some .int), Cond.methodLink RX0 38 yX0_quotient, Cond.static yX0_quotient, Cond.code yX0_quotient cX0_quotient 2 (some .int), Cond.methodLink RX0 41 yX1_restBy, Cond.instanceMethod yX1_restBy, Cond.selects RX1 yX1_restBy yX1_restBy, Cond.initialized RX1, Cond.code yX1_restBy cX1_restBy 5 (some .int), Cond.fieldLink RX1 13 "PrivateCounts$Natural" "size" "I", Cond.methodLink RX1 26 yX1_limbAt, Cond.instanceMethod yX1_limbAt, Cond.selects RX1 yX1_limbAt yX1_limbAt, Cond.code yX1_limbAt cX1_limbAt 2 (some .int), Cond.fieldLink RX1 9 "PrivateCounts$Natural" "limbs" "[I", Cond.methodLink RX0 27 yX1_divideBy, Cond.instanceMethod yX1_divideBy, Cond.selects RX1 yX1_divideBy yX1_divideBy, Cond.code yX1_divideBy cX1_divideBy 5 none, Cond.methodLink RX1 23 yX1_trim, Cond.instanceMethod yX1_trim, Cond.selects RX1 yX1_trim yX1_trim, Cond.code yX1_trim cX1_trim 1 none, Cond.methodLink RX0 45 yX1_times]
def wsX4_raise_r3 : List Cond := [Cond.instanceMethod yX1_times, Cond.selects RX1 yX1_times yX1_times, Cond.code yX1_times cX1_times 5 none, Cond.constantLong RX1 21 (2147483647), Cond.methodLink RX1 17 yX1_append, Cond.instanceMethod yX1_append, Cond.selects RX1 yX1_append yX1_append, Cond.code yX1_append cX1_append 3 none, Cond.methodLink RX0 48 yX1_plusTimes, Cond.instanceMethod yX1_plusTimes, Cond.selects RX1 yX1_plusTimes yX1_plusTimes, Cond.code yX1_plusTimes cX1_plusTimes 7 none]
def wsX4_raise : List Cond := .code yX4_raise cX4_raise 3 none :: ((wsX4_raise_r1 ++ (wsX4_raise_r2 ++ wsX4_raise_r3)) ++ wsX40 ++ wsX00 ++ wsX10 ++ (vx_atS RX4 68 "java/lang/IllegalArgumentException" ["java/lang/RuntimeException", "java/lang/Exception"]).filter goodWord)
def wsX4_isCost : List Cond := .code yX4_isCost cX4_isCost 2 (some .boolean) :: ([.methodLink RX4 124 yX4_isDenominator, .static yX4_isDenominator, .initialized RX4, .code yX4_isDenominator cX4_isDenominator 1 (some .boolean)])
def wsX4_isEnough_r1 : List Cond := [Cond.classLink RX4 64 "java/lang/IllegalArgumentException", Cond.initialized "java/lang/IllegalArgumentException", Cond.fieldLink RX4 27 "PrivateCounts" "series" "LPrivateCounts$Series;", Cond.fieldLink RX4 20 "PrivateCounts" "weights" "LPrivateCounts$Table;", Cond.methodLink RX4 115 yX4_isCost, Cond.static yX4_isCost, Cond.initialized RX4, Cond.code yX4_isCost cX4_isCost 2 (some .boolean), Cond.methodLink RX4 124 yX4_isDenominator, Cond.static yX4_isDenominator, Cond.code yX4_isDenominator cX4_isDenominator 1 (some .boolean), Cond.methodLink RX4 120 yX2_reaches, Cond.instanceMethod yX2_reaches, Cond.selects RX2 yX2_reaches yX2_reaches, Cond.initialized RX2, Cond.code yX2_reaches cX2_reaches 6 (some .boolean), Cond.fieldLink RX2 10 "PrivateCounts$Series" "missing" "LPrivateCounts$Natural;", Cond.fieldLink RX2 19 "PrivateCounts$Table" "b" "I", Cond.fieldLink RX2 25 "PrivateCounts$Table" "a" "I", Cond.fieldLink RX2 16 "PrivateCounts$Series" "term" "LPrivateCounts$Natural;", Cond.methodLink RX2 28 yX1_become, Cond.instanceMethod yX1_become, Cond.selects RX1 yX1_become yX1_become, Cond.initialized RX1]
def wsX4_isEnough_r2 : List Cond := [Cond.code yX1_become cX1_become 2 none, Cond.fieldLink RX1 13 "PrivateCounts$Natural" "size" "I", Cond.methodLink RX1 17 yX1_append, Cond.instanceMethod yX1_append, Cond.selects RX1 yX1_append yX1_append, Cond.code yX1_append cX1_append 3 none, Cond.fieldLink RX1 9 "PrivateCounts$Natural" "limbs" "[I", Cond.methodLink RX2 32 yX1_times, Cond.instanceMethod yX1_times, Cond.selects RX1 yX1_times yX1_times, Cond.code yX1_times cX1_times 5 none, Cond.constantLong RX1 21 (2147483647), Cond.methodLink RX1 23 yX1_trim, Cond.instanceMethod yX1_trim, Cond.selects RX1 yX1_trim yX1_trim, Cond.code yX1_trim cX1_trim 1 none, Cond.methodLink RX1 26 yX1_limbAt, Cond.instanceMethod yX1_limbAt, Cond.selects RX1 yX1_limbAt yX1_limbAt, Cond.code yX1_limbAt cX1_limbAt 2 (some .int), Cond.methodLink RX2 35 yX1_isLess, Cond.static yX1_isLess, Cond.code yX1_isLess cX1_isLess 8 (some .boolean), Cond.methodLink RX2 39 yX1_plusTimes]
def wsX4_isEnough_r3 : List Cond := [Cond.instanceMethod yX1_plusTimes, Cond.selects RX1 yX1_plusTimes yX1_plusTimes, Cond.code yX1_plusTimes cX1_plusTimes 7 none]
def wsX4_isEnough : List Cond := .code yX4_isEnough cX4_isEnough 3 (some .boolean) :: ((wsX4_isEnough_r1 ++ (wsX4_isEnough_r2 ++ wsX4_isEnough_r3)) ++ wsX40 ++ wsX20 ++ wsX30 ++ wsX10 ++ (vx_atS RX4 68 "java/lang/IllegalArgumentException" ["java/lang/RuntimeException", "java/lang/Exception"]).filter goodWord)
def wsX4_least_r1 : List Cond := [Cond.classLink RX4 64 "java/lang/IllegalArgumentException", Cond.initialized "java/lang/IllegalArgumentException", Cond.fieldLink RX4 27 "PrivateCounts" "series" "LPrivateCounts$Series;", Cond.fieldLink RX4 20 "PrivateCounts" "weights" "LPrivateCounts$Table;", Cond.methodLink RX4 124 yX4_isDenominator, Cond.static yX4_isDenominator, Cond.initialized RX4, Cond.code yX4_isDenominator cX4_isDenominator 1 (some .boolean), Cond.methodLink RX4 120 yX2_reaches, Cond.instanceMethod yX2_reaches, Cond.selects RX2 yX2_reaches yX2_reaches, Cond.initialized RX2, Cond.code yX2_reaches cX2_reaches 6 (some .boolean), Cond.fieldLink RX2 10 "PrivateCounts$Series" "missing" "LPrivateCounts$Natural;", Cond.fieldLink RX2 19 "PrivateCounts$Table" "b" "I", Cond.fieldLink RX2 25 "PrivateCounts$Table" "a" "I", Cond.fieldLink RX2 16 "PrivateCounts$Series" "term" "LPrivateCounts$Natural;", Cond.methodLink RX2 28 yX1_become, Cond.instanceMethod yX1_become, Cond.selects RX1 yX1_become yX1_become, Cond.initialized RX1, Cond.code yX1_become cX1_become 2 none, Cond.fieldLink RX1 13 "PrivateCounts$Natural" "size" "I", Cond.methodLink RX1 17 yX1_append]
def wsX4_least_r2 : List Cond := [Cond.instanceMethod yX1_append, Cond.selects RX1 yX1_append yX1_append, Cond.code yX1_append cX1_append 3 none, Cond.fieldLink RX1 9 "PrivateCounts$Natural" "limbs" "[I", Cond.methodLink RX2 32 yX1_times, Cond.instanceMethod yX1_times, Cond.selects RX1 yX1_times yX1_times, Cond.code yX1_times cX1_times 5 none, Cond.constantLong RX1 21 (2147483647), Cond.methodLink RX1 23 yX1_trim, Cond.instanceMethod yX1_trim, Cond.selects RX1 yX1_trim yX1_trim, Cond.code yX1_trim cX1_trim 1 none, Cond.methodLink RX1 26 yX1_limbAt, Cond.instanceMethod yX1_limbAt, Cond.selects RX1 yX1_limbAt yX1_limbAt, Cond.code yX1_limbAt cX1_limbAt 2 (some .int), Cond.methodLink RX2 35 yX1_isLess, Cond.static yX1_isLess, Cond.code yX1_isLess cX1_isLess 8 (some .boolean), Cond.methodLink RX2 39 yX1_plusTimes, Cond.instanceMethod yX1_plusTimes, Cond.selects RX1 yX1_plusTimes yX1_plusTimes, Cond.code yX1_plusTimes cX1_plusTimes 7 none]
def wsX4_least : List Cond := .code yX4_least cX4_least 6 (some .int) :: ((wsX4_least_r1 ++ wsX4_least_r2) ++ wsX40 ++ wsX20 ++ wsX30 ++ wsX10 ++ (vx_atS RX4 68 "java/lang/IllegalArgumentException" ["java/lang/RuntimeException", "java/lang/Exception"]).filter goodWord)
def wsX4_ask_r1 : List Cond := [Cond.classLink RX4 64 "java/lang/IllegalArgumentException", Cond.initialized "java/lang/IllegalArgumentException", Cond.fieldLink RX4 20 "PrivateCounts" "weights" "LPrivateCounts$Table;", Cond.fieldLink RX4 27 "PrivateCounts" "series" "LPrivateCounts$Series;", Cond.fieldLink RX4 47 "PrivateCounts" "refusedForCost" "I", Cond.constant RX4 131 (-2147483648), Cond.fieldLink RX4 41 "PrivateCounts" "left" "LPrivateCounts$Fraction;", Cond.fieldLink RX4 50 "PrivateCounts" "refusedForBudget" "I", Cond.fieldLink RX4 38 "PrivateCounts" "spent" "LPrivateCounts$Fraction;", Cond.fieldLink RX4 44 "PrivateCounts" "answered" "I", Cond.methodLink RX4 115 yX4_isCost, Cond.static yX4_isCost, Cond.initialized RX4, Cond.code yX4_isCost cX4_isCost 2 (some .boolean), Cond.methodLink RX4 124 yX4_isDenominator, Cond.static yX4_isDenominator, Cond.code yX4_isDenominator cX4_isDenominator 1 (some .boolean), Cond.methodLink RX4 88 yX3_hasCoin, Cond.instanceMethod yX3_hasCoin, Cond.selects RX3 yX3_hasCoin yX3_hasCoin, Cond.initialized RX3, Cond.code yX3_hasCoin cX3_hasCoin 3 (some .boolean), Cond.fieldLink RX3 30 "PrivateCounts$Table" "total" "J", Cond.methodLink RX4 120 yX2_reaches]
def wsX4_ask_r2 : List Cond := [Cond.instanceMethod yX2_reaches, Cond.selects RX2 yX2_reaches yX2_reaches, Cond.initialized RX2, Cond.code yX2_reaches cX2_reaches 6 (some .boolean), Cond.fieldLink RX2 10 "PrivateCounts$Series" "missing" "LPrivateCounts$Natural;", Cond.fieldLink RX2 19 "PrivateCounts$Table" "b" "I", Cond.fieldLink RX2 25 "PrivateCounts$Table" "a" "I", Cond.fieldLink RX2 16 "PrivateCounts$Series" "term" "LPrivateCounts$Natural;", Cond.methodLink RX2 28 yX1_become, Cond.instanceMethod yX1_become, Cond.selects RX1 yX1_become yX1_become, Cond.initialized RX1, Cond.code yX1_become cX1_become 2 none, Cond.fieldLink RX1 13 "PrivateCounts$Natural" "size" "I", Cond.methodLink RX1 17 yX1_append, Cond.instanceMethod yX1_append, Cond.selects RX1 yX1_append yX1_append, Cond.code yX1_append cX1_append 3 none, Cond.fieldLink RX1 9 "PrivateCounts$Natural" "limbs" "[I", Cond.methodLink RX2 32 yX1_times, Cond.instanceMethod yX1_times, Cond.selects RX1 yX1_times yX1_times, Cond.code yX1_times cX1_times 5 none, Cond.constantLong RX1 21 (2147483647)]
def wsX4_ask_r3 : List Cond := [Cond.methodLink RX1 23 yX1_trim, Cond.instanceMethod yX1_trim, Cond.selects RX1 yX1_trim yX1_trim, Cond.code yX1_trim cX1_trim 1 none, Cond.methodLink RX1 26 yX1_limbAt, Cond.instanceMethod yX1_limbAt, Cond.selects RX1 yX1_limbAt yX1_limbAt, Cond.code yX1_limbAt cX1_limbAt 2 (some .int), Cond.methodLink RX2 35 yX1_isLess, Cond.static yX1_isLess, Cond.code yX1_isLess cX1_isLess 8 (some .boolean), Cond.methodLink RX2 39 yX1_plusTimes, Cond.instanceMethod yX1_plusTimes, Cond.selects RX1 yX1_plusTimes yX1_plusTimes, Cond.code yX1_plusTimes cX1_plusTimes 7 none, Cond.methodLink RX4 132 yX0_isLessThan, Cond.instanceMethod yX0_isLessThan, Cond.selects RX0 yX0_isLessThan yX0_isLessThan, Cond.initialized RX0, Cond.code yX0_isLessThan cX0_isLessThan 3 (some .boolean), Cond.fieldLink RX0 10 "PrivateCounts$Fraction" "numerator" "LPrivateCounts$Natural;", Cond.fieldLink RX0 16 "PrivateCounts$Fraction" "denominator" "LPrivateCounts$Natural;", Cond.methodLink RX0 34 yX1_isLess, Cond.methodLink RX4 112 yX0_increase]
def wsX4_ask_r4 : List Cond := [Cond.instanceMethod yX0_increase, Cond.selects RX0 yX0_increase yX0_increase, Cond.code yX0_increase cX0_increase 3 none, Cond.methodLink RX0 30 yX0_change, Cond.instanceMethod yX0_change, Cond.selects RX0 yX0_change yX0_change, Cond.code yX0_change cX0_change 9 none, Cond.methodLink RX0 23 yX0_commonDivisor, Cond.static yX0_commonDivisor, Cond.code yX0_commonDivisor cX0_commonDivisor 6 (some .int), Cond.methodLink RX0 38 yX0_quotient, Cond.static yX0_quotient, Cond.code yX0_quotient cX0_quotient 2 (some .int), Cond.methodLink RX0 41 yX1_restBy, Cond.instanceMethod yX1_restBy, Cond.selects RX1 yX1_restBy yX1_restBy, Cond.code yX1_restBy cX1_restBy 5 (some .int), Cond.methodLink RX0 27 yX1_divideBy, Cond.instanceMethod yX1_divideBy, Cond.selects RX1 yX1_divideBy yX1_divideBy, Cond.code yX1_divideBy cX1_divideBy 5 none, Cond.methodLink RX0 45 yX1_times, Cond.methodLink RX0 48 yX1_plusTimes, Cond.methodLink RX4 135 yX0_decrease]
def wsX4_ask_r5 : List Cond := [Cond.instanceMethod yX0_decrease, Cond.selects RX0 yX0_decrease yX0_decrease, Cond.code yX0_decrease cX0_decrease 3 none, Cond.methodLink RX4 138 yX4_count, Cond.instanceMethod yX4_count, Cond.selects RX4 yX4_count yX4_count, Cond.code yX4_count cX4_count 5 (some .int), Cond.fieldLink RX4 13 "PrivateCounts" "rowCount" "I", Cond.fieldLink RX4 9 "PrivateCounts" "rows" "[I", Cond.methodLink RX4 142 yX3_nearestTo, Cond.instanceMethod yX3_nearestTo, Cond.selects RX3 yX3_nearestTo yX3_nearestTo, Cond.code yX3_nearestTo cX3_nearestTo 2 (some .int), Cond.fieldLink RX3 20 "PrivateCounts$Table" "low" "I", Cond.fieldLink RX3 23 "PrivateCounts$Table" "high" "I", Cond.methodLink RX4 94 yX3_outcomeOf, Cond.instanceMethod yX3_outcomeOf, Cond.selects RX3 yX3_outcomeOf yX3_outcomeOf, Cond.code yX3_outcomeOf cX3_outcomeOf 7 (some .int), Cond.methodLink RX3 38 yX3_weightOf, Cond.instanceMethod yX3_weightOf, Cond.selects RX3 yX3_weightOf yX3_weightOf, Cond.code yX3_weightOf cX3_weightOf 5 (some .long), Cond.fieldLink RX3 17 "PrivateCounts$Table" "b" "I"]
def wsX4_ask_r6 : List Cond := [Cond.fieldLink RX3 13 "PrivateCounts$Table" "a" "I", Cond.methodLink RX3 34 yX3_holds, Cond.instanceMethod yX3_holds, Cond.selects RX3 yX3_holds yX3_holds, Cond.code yX3_holds cX3_holds 2 (some .boolean), Cond.methodLink RX3 26 yX3_power, Cond.static yX3_power, Cond.code yX3_power cX3_power 5 (some .long)]
def wsX4_ask : List Cond := .code yX4_ask cX4_ask 7 (some .int) :: ((wsX4_ask_r1 ++ (wsX4_ask_r2 ++ (wsX4_ask_r3 ++ (wsX4_ask_r4 ++ (wsX4_ask_r5 ++ wsX4_ask_r6))))) ++ wsX40 ++ wsX30 ++ wsX20 ++ wsX10 ++ wsX00 ++ (vx_atS RX4 68 "java/lang/IllegalArgumentException" ["java/lang/RuntimeException", "java/lang/Exception"]).filter goodWord)
def wsX4_limb : List Cond := .code yX4_limb cX4_limb 6 (some .int) :: ([.classLink RX4 53 "java/lang/IndexOutOfBoundsException", .initialized "java/lang/IndexOutOfBoundsException", .fieldLink RX4 34 "PrivateCounts" "granted" "LPrivateCounts$Fraction;", .fieldLink RX4 38 "PrivateCounts" "spent" "LPrivateCounts$Fraction;", .fieldLink RX4 41 "PrivateCounts" "left" "LPrivateCounts$Fraction;", .fieldLink RX4 148 "PrivateCounts$Fraction" "numerator" "LPrivateCounts$Natural;", .fieldLink RX4 152 "PrivateCounts$Fraction" "denominator" "LPrivateCounts$Natural;", .fieldLink RX4 155 "PrivateCounts$Natural" "size" "I", .methodLink RX4 160 yX1_limbAt, .instanceMethod yX1_limbAt, .selects RX1 yX1_limbAt yX1_limbAt, .initialized RX1, .code yX1_limbAt cX1_limbAt 2 (some .int), .fieldLink RX1 13 "PrivateCounts$Natural" "size" "I", .fieldLink RX1 9 "PrivateCounts$Natural" "limbs" "[I"] ++ wsX40 ++ wsX00 ++ wsX10 ++ (vx_atS RX4 57 "java/lang/IndexOutOfBoundsException" ["java/lang/RuntimeException", "java/lang/Exception"]).filter goodWord)
def wsX4_told : List Cond := .code yX4_told cX4_told 2 (some .int) :: ([.classLink RX4 53 "java/lang/IndexOutOfBoundsException", .initialized "java/lang/IndexOutOfBoundsException", .fieldLink RX4 44 "PrivateCounts" "answered" "I", .fieldLink RX4 47 "PrivateCounts" "refusedForCost" "I", .fieldLink RX4 50 "PrivateCounts" "refusedForBudget" "I", .fieldLink RX4 13 "PrivateCounts" "rowCount" "I", .fieldLink RX4 20 "PrivateCounts" "weights" "LPrivateCounts$Table;", .fieldLink RX4 163 "PrivateCounts$Table" "low" "I", .fieldLink RX4 166 "PrivateCounts$Table" "high" "I", .fieldLink RX4 169 "PrivateCounts$Table" "a" "I", .fieldLink RX4 172 "PrivateCounts$Table" "b" "I"] ++ wsX40 ++ wsX30 ++ (vx_atS RX4 57 "java/lang/IndexOutOfBoundsException" ["java/lang/RuntimeException", "java/lang/Exception"]).filter goodWord)
def wsX5_trim : List Cond := .code yX5_trim cX5_trim 4 none :: ([.fieldLink RX5 23 "PrivateCountsModel" "figure" "[J", .fieldLink RX5 27 "PrivateCountsModel" "length" "[I"] ++ wsX50)
def wsX5_put : List Cond := .code yX5_put cX5_put 4 none :: ([.fieldLink RX5 23 "PrivateCountsModel" "figure" "[J", .constantLong RX5 49 (2147483647), .methodLink RX5 51 yX5_trim, .instanceMethod yX5_trim, .selects RX5 yX5_trim yX5_trim, .initialized RX5, .code yX5_trim cX5_trim 4 none, .fieldLink RX5 27 "PrivateCountsModel" "length" "[I"] ++ wsX50)
def wsX5_init_r1 : List Cond := [Cond.methodLink RX5 1 objectInit, Cond.instanceMethod objectInit, Cond.code objectInit ⟨#[0xb1]⟩ 1 none, Cond.arrayClass .int, Cond.fieldLink RX5 7 "PrivateCountsModel" "row" "[I", Cond.fieldLink RX5 13 "PrivateCountsModel" "a" "I", Cond.fieldLink RX5 17 "PrivateCountsModel" "b" "I", Cond.fieldLink RX5 20 "PrivateCountsModel" "high" "I", Cond.arrayClass .long, Cond.fieldLink RX5 23 "PrivateCountsModel" "figure" "[J", Cond.fieldLink RX5 27 "PrivateCountsModel" "length" "[I", Cond.fieldLink RX5 30 "PrivateCountsModel" "top" "[J", Cond.fieldLink RX5 33 "PrivateCountsModel" "below" "[J", Cond.fieldLink RX5 36 "PrivateCountsModel" "term" "[I", Cond.fieldLink RX5 39 "PrivateCountsModel" "whole" "[I", Cond.methodLink RX5 42 yX5_put, Cond.instanceMethod yX5_put, Cond.selects RX5 yX5_put yX5_put, Cond.initialized RX5, Cond.code yX5_put cX5_put 4 none, Cond.constantLong RX5 49 (2147483647), Cond.methodLink RX5 51 yX5_trim, Cond.instanceMethod yX5_trim, Cond.selects RX5 yX5_trim yX5_trim]
def wsX5_init_r2 : List Cond := [Cond.code yX5_trim cX5_trim 4 none]
def wsX5_init : List Cond := .code yX5_init cX5_init 2 none :: ((wsX5_init_r1 ++ wsX5_init_r2) ++ wsX50)
def wsX5_thrown : List Cond := .code yX5_thrown cX5_thrown 1 (some .int) :: ([.fieldLink RX5 46 "PrivateCountsModel" "thrown" "I"] ++ wsX50)
def wsX5_copy : List Cond := .code yX5_copy cX5_copy 4 none :: ([.fieldLink RX5 27 "PrivateCountsModel" "length" "[I", .fieldLink RX5 23 "PrivateCountsModel" "figure" "[J"] ++ wsX50)
def wsX5_take : List Cond := .code yX5_take cX5_take 4 none :: ([.fieldLink RX5 23 "PrivateCountsModel" "figure" "[J", .fieldLink RX5 30 "PrivateCountsModel" "top" "[J", .methodLink RX5 51 yX5_trim, .instanceMethod yX5_trim, .selects RX5 yX5_trim yX5_trim, .initialized RX5, .code yX5_trim cX5_trim 4 none, .fieldLink RX5 27 "PrivateCountsModel" "length" "[I"] ++ wsX50)
def wsX5_figureOf : List Cond := .code yX5_figureOf cX5_figureOf 3 (some .long) :: ([.fieldLink RX5 27 "PrivateCountsModel" "length" "[I", .fieldLink RX5 23 "PrivateCountsModel" "figure" "[J"] ++ wsX50)
def wsX5_compare : List Cond := .code yX5_compare cX5_compare 7 (some .int) :: ([.fieldLink RX5 27 "PrivateCountsModel" "length" "[I", .methodLink RX5 55 yX5_figureOf, .instanceMethod yX5_figureOf, .selects RX5 yX5_figureOf yX5_figureOf, .initialized RX5, .code yX5_figureOf cX5_figureOf 3 (some .long), .fieldLink RX5 23 "PrivateCountsModel" "figure" "[J"] ++ wsX50)
def wsX5_plus : List Cond := .code yX5_plus cX5_plus 10 none :: ([.fieldLink RX5 27 "PrivateCountsModel" "length" "[I", .fieldLink RX5 30 "PrivateCountsModel" "top" "[J", .constantLong RX5 49 (2147483647), .methodLink RX5 55 yX5_figureOf, .instanceMethod yX5_figureOf, .selects RX5 yX5_figureOf yX5_figureOf, .initialized RX5, .code yX5_figureOf cX5_figureOf 3 (some .long), .fieldLink RX5 23 "PrivateCountsModel" "figure" "[J", .methodLink RX5 59 yX5_take, .instanceMethod yX5_take, .selects RX5 yX5_take yX5_take, .code yX5_take cX5_take 4 none, .methodLink RX5 51 yX5_trim, .instanceMethod yX5_trim, .selects RX5 yX5_trim yX5_trim, .code yX5_trim cX5_trim 4 none] ++ wsX50)
def wsX5_minus : List Cond := .code yX5_minus cX5_minus 10 none :: ([.fieldLink RX5 27 "PrivateCountsModel" "length" "[I", .fieldLink RX5 30 "PrivateCountsModel" "top" "[J", .constantLong RX5 49 (2147483647), .methodLink RX5 55 yX5_figureOf, .instanceMethod yX5_figureOf, .selects RX5 yX5_figureOf yX5_figureOf, .initialized RX5, .code yX5_figureOf cX5_figureOf 3 (some .long), .fieldLink RX5 23 "PrivateCountsModel" "figure" "[J", .methodLink RX5 59 yX5_take, .instanceMethod yX5_take, .selects RX5 yX5_take yX5_take, .code yX5_take cX5_take 4 none, .methodLink RX5 51 yX5_trim, .instanceMethod yX5_trim, .selects RX5 yX5_trim yX5_trim, .code yX5_trim cX5_trim 4 none] ++ wsX50)
def wsX5_times : List Cond := .code yX5_times cX5_times 11 none :: ([.fieldLink RX5 27 "PrivateCountsModel" "length" "[I", .fieldLink RX5 30 "PrivateCountsModel" "top" "[J", .fieldLink RX5 23 "PrivateCountsModel" "figure" "[J", .constantLong RX5 49 (2147483647), .methodLink RX5 59 yX5_take, .instanceMethod yX5_take, .selects RX5 yX5_take yX5_take, .initialized RX5, .code yX5_take cX5_take 4 none, .methodLink RX5 51 yX5_trim, .instanceMethod yX5_trim, .selects RX5 yX5_trim yX5_trim, .code yX5_trim cX5_trim 4 none] ++ wsX50)
def wsX5_divide : List Cond := .code yX5_divide cX5_divide 17 none :: ([.fieldLink RX5 27 "PrivateCountsModel" "length" "[I", .fieldLink RX5 30 "PrivateCountsModel" "top" "[J", .fieldLink RX5 33 "PrivateCountsModel" "below" "[J", .fieldLink RX5 23 "PrivateCountsModel" "figure" "[J", .constantLong RX5 49 (2147483647), .methodLink RX5 55 yX5_figureOf, .instanceMethod yX5_figureOf, .selects RX5 yX5_figureOf yX5_figureOf, .initialized RX5, .code yX5_figureOf cX5_figureOf 3 (some .long), .methodLink RX5 51 yX5_trim, .instanceMethod yX5_trim, .selects RX5 yX5_trim yX5_trim, .code yX5_trim cX5_trim 4 none, .methodLink RX5 59 yX5_take, .instanceMethod yX5_take, .selects RX5 yX5_take yX5_take, .code yX5_take cX5_take 4 none] ++ wsX50)
def wsX5_halve : List Cond := .code yX5_halve cX5_halve 7 none :: ([.fieldLink RX5 27 "PrivateCountsModel" "length" "[I", .fieldLink RX5 23 "PrivateCountsModel" "figure" "[J", .methodLink RX5 51 yX5_trim, .instanceMethod yX5_trim, .selects RX5 yX5_trim yX5_trim, .initialized RX5, .code yX5_trim cX5_trim 4 none] ++ wsX50)
def wsX5_divisor_r1 : List Cond := [Cond.fieldLink RX5 27 "PrivateCountsModel" "length" "[I", Cond.fieldLink RX5 23 "PrivateCountsModel" "figure" "[J", Cond.constantLong RX5 65 (2), Cond.methodLink RX5 62 yX5_copy, Cond.instanceMethod yX5_copy, Cond.selects RX5 yX5_copy yX5_copy, Cond.initialized RX5, Cond.code yX5_copy cX5_copy 4 none, Cond.methodLink RX5 67 yX5_halve, Cond.instanceMethod yX5_halve, Cond.selects RX5 yX5_halve yX5_halve, Cond.code yX5_halve cX5_halve 7 none, Cond.methodLink RX5 51 yX5_trim, Cond.instanceMethod yX5_trim, Cond.selects RX5 yX5_trim yX5_trim, Cond.code yX5_trim cX5_trim 4 none, Cond.methodLink RX5 71 yX5_compare, Cond.instanceMethod yX5_compare, Cond.selects RX5 yX5_compare yX5_compare, Cond.code yX5_compare cX5_compare 7 (some .int), Cond.methodLink RX5 55 yX5_figureOf, Cond.instanceMethod yX5_figureOf, Cond.selects RX5 yX5_figureOf yX5_figureOf, Cond.code yX5_figureOf cX5_figureOf 3 (some .long)]
def wsX5_divisor_r2 : List Cond := [Cond.methodLink RX5 75 yX5_minus, Cond.instanceMethod yX5_minus, Cond.selects RX5 yX5_minus yX5_minus, Cond.code yX5_minus cX5_minus 10 none, Cond.fieldLink RX5 30 "PrivateCountsModel" "top" "[J", Cond.constantLong RX5 49 (2147483647), Cond.methodLink RX5 59 yX5_take, Cond.instanceMethod yX5_take, Cond.selects RX5 yX5_take yX5_take, Cond.code yX5_take cX5_take 4 none, Cond.methodLink RX5 79 yX5_plus, Cond.instanceMethod yX5_plus, Cond.selects RX5 yX5_plus yX5_plus, Cond.code yX5_plus cX5_plus 10 none]
def wsX5_divisor : List Cond := .code yX5_divisor cX5_divisor 5 none :: ((wsX5_divisor_r1 ++ wsX5_divisor_r2) ++ wsX50)
def wsX5_lowest_r1 : List Cond := [Cond.fieldLink RX5 27 "PrivateCountsModel" "length" "[I", Cond.methodLink RX5 42 yX5_put, Cond.instanceMethod yX5_put, Cond.selects RX5 yX5_put yX5_put, Cond.initialized RX5, Cond.code yX5_put cX5_put 4 none, Cond.fieldLink RX5 23 "PrivateCountsModel" "figure" "[J", Cond.constantLong RX5 49 (2147483647), Cond.methodLink RX5 51 yX5_trim, Cond.instanceMethod yX5_trim, Cond.selects RX5 yX5_trim yX5_trim, Cond.code yX5_trim cX5_trim 4 none, Cond.methodLink RX5 82 yX5_divisor, Cond.instanceMethod yX5_divisor, Cond.selects RX5 yX5_divisor yX5_divisor, Cond.code yX5_divisor cX5_divisor 5 none, Cond.constantLong RX5 65 (2), Cond.methodLink RX5 62 yX5_copy, Cond.instanceMethod yX5_copy, Cond.selects RX5 yX5_copy yX5_copy, Cond.code yX5_copy cX5_copy 4 none, Cond.methodLink RX5 67 yX5_halve, Cond.instanceMethod yX5_halve, Cond.selects RX5 yX5_halve yX5_halve]
def wsX5_lowest_r2 : List Cond := [Cond.code yX5_halve cX5_halve 7 none, Cond.methodLink RX5 71 yX5_compare, Cond.instanceMethod yX5_compare, Cond.selects RX5 yX5_compare yX5_compare, Cond.code yX5_compare cX5_compare 7 (some .int), Cond.methodLink RX5 55 yX5_figureOf, Cond.instanceMethod yX5_figureOf, Cond.selects RX5 yX5_figureOf yX5_figureOf, Cond.code yX5_figureOf cX5_figureOf 3 (some .long), Cond.methodLink RX5 75 yX5_minus, Cond.instanceMethod yX5_minus, Cond.selects RX5 yX5_minus yX5_minus, Cond.code yX5_minus cX5_minus 10 none, Cond.fieldLink RX5 30 "PrivateCountsModel" "top" "[J", Cond.methodLink RX5 59 yX5_take, Cond.instanceMethod yX5_take, Cond.selects RX5 yX5_take yX5_take, Cond.code yX5_take cX5_take 4 none, Cond.methodLink RX5 79 yX5_plus, Cond.instanceMethod yX5_plus, Cond.selects RX5 yX5_plus yX5_plus, Cond.code yX5_plus cX5_plus 10 none, Cond.methodLink RX5 85 yX5_divide, Cond.instanceMethod yX5_divide]
def wsX5_lowest_r3 : List Cond := [Cond.selects RX5 yX5_divide yX5_divide, Cond.code yX5_divide cX5_divide 17 none, Cond.fieldLink RX5 33 "PrivateCountsModel" "below" "[J"]
def wsX5_lowest : List Cond := .code yX5_lowest cX5_lowest 4 none :: ((wsX5_lowest_r1 ++ (wsX5_lowest_r2 ++ wsX5_lowest_r3)) ++ wsX50)
def wsX5_set_r1 : List Cond := [Cond.methodLink RX5 42 yX5_put, Cond.instanceMethod yX5_put, Cond.selects RX5 yX5_put yX5_put, Cond.initialized RX5, Cond.code yX5_put cX5_put 4 none, Cond.fieldLink RX5 23 "PrivateCountsModel" "figure" "[J", Cond.constantLong RX5 49 (2147483647), Cond.methodLink RX5 51 yX5_trim, Cond.instanceMethod yX5_trim, Cond.selects RX5 yX5_trim yX5_trim, Cond.code yX5_trim cX5_trim 4 none, Cond.fieldLink RX5 27 "PrivateCountsModel" "length" "[I", Cond.methodLink RX5 89 yX5_lowest, Cond.instanceMethod yX5_lowest, Cond.selects RX5 yX5_lowest yX5_lowest, Cond.code yX5_lowest cX5_lowest 4 none, Cond.methodLink RX5 82 yX5_divisor, Cond.instanceMethod yX5_divisor, Cond.selects RX5 yX5_divisor yX5_divisor, Cond.code yX5_divisor cX5_divisor 5 none, Cond.constantLong RX5 65 (2), Cond.methodLink RX5 62 yX5_copy, Cond.instanceMethod yX5_copy, Cond.selects RX5 yX5_copy yX5_copy]
def wsX5_set_r2 : List Cond := [Cond.code yX5_copy cX5_copy 4 none, Cond.methodLink RX5 67 yX5_halve, Cond.instanceMethod yX5_halve, Cond.selects RX5 yX5_halve yX5_halve, Cond.code yX5_halve cX5_halve 7 none, Cond.methodLink RX5 71 yX5_compare, Cond.instanceMethod yX5_compare, Cond.selects RX5 yX5_compare yX5_compare, Cond.code yX5_compare cX5_compare 7 (some .int), Cond.methodLink RX5 55 yX5_figureOf, Cond.instanceMethod yX5_figureOf, Cond.selects RX5 yX5_figureOf yX5_figureOf, Cond.code yX5_figureOf cX5_figureOf 3 (some .long), Cond.methodLink RX5 75 yX5_minus, Cond.instanceMethod yX5_minus, Cond.selects RX5 yX5_minus yX5_minus, Cond.code yX5_minus cX5_minus 10 none, Cond.fieldLink RX5 30 "PrivateCountsModel" "top" "[J", Cond.methodLink RX5 59 yX5_take, Cond.instanceMethod yX5_take, Cond.selects RX5 yX5_take yX5_take, Cond.code yX5_take cX5_take 4 none, Cond.methodLink RX5 79 yX5_plus, Cond.instanceMethod yX5_plus]
def wsX5_set_r3 : List Cond := [Cond.selects RX5 yX5_plus yX5_plus, Cond.code yX5_plus cX5_plus 10 none, Cond.methodLink RX5 85 yX5_divide, Cond.instanceMethod yX5_divide, Cond.selects RX5 yX5_divide yX5_divide, Cond.code yX5_divide cX5_divide 17 none, Cond.fieldLink RX5 33 "PrivateCountsModel" "below" "[J"]
def wsX5_set : List Cond := .code yX5_set cX5_set 4 none :: ((wsX5_set_r1 ++ (wsX5_set_r2 ++ wsX5_set_r3)) ++ wsX50)
def wsX5_cross : List Cond := .code yX5_cross cX5_cross 3 none :: ([.methodLink RX5 92 yX5_times, .instanceMethod yX5_times, .selects RX5 yX5_times yX5_times, .initialized RX5, .code yX5_times cX5_times 11 none, .fieldLink RX5 27 "PrivateCountsModel" "length" "[I", .fieldLink RX5 30 "PrivateCountsModel" "top" "[J", .fieldLink RX5 23 "PrivateCountsModel" "figure" "[J", .constantLong RX5 49 (2147483647), .methodLink RX5 59 yX5_take, .instanceMethod yX5_take, .selects RX5 yX5_take yX5_take, .code yX5_take cX5_take 4 none, .methodLink RX5 51 yX5_trim, .instanceMethod yX5_trim, .selects RX5 yX5_trim yX5_trim, .code yX5_trim cX5_trim 4 none] ++ wsX50)
def wsX5_add0_r1 : List Cond := [Cond.methodLink RX5 95 yX5_cross, Cond.instanceMethod yX5_cross, Cond.selects RX5 yX5_cross yX5_cross, Cond.initialized RX5, Cond.code yX5_cross cX5_cross 3 none, Cond.methodLink RX5 92 yX5_times, Cond.instanceMethod yX5_times, Cond.selects RX5 yX5_times yX5_times, Cond.code yX5_times cX5_times 11 none, Cond.fieldLink RX5 27 "PrivateCountsModel" "length" "[I", Cond.fieldLink RX5 30 "PrivateCountsModel" "top" "[J", Cond.fieldLink RX5 23 "PrivateCountsModel" "figure" "[J", Cond.constantLong RX5 49 (2147483647), Cond.methodLink RX5 59 yX5_take, Cond.instanceMethod yX5_take, Cond.selects RX5 yX5_take yX5_take, Cond.code yX5_take cX5_take 4 none, Cond.methodLink RX5 51 yX5_trim, Cond.instanceMethod yX5_trim, Cond.selects RX5 yX5_trim yX5_trim, Cond.code yX5_trim cX5_trim 4 none, Cond.methodLink RX5 79 yX5_plus, Cond.instanceMethod yX5_plus, Cond.selects RX5 yX5_plus yX5_plus]
def wsX5_add0_r2 : List Cond := [Cond.code yX5_plus cX5_plus 10 none, Cond.methodLink RX5 55 yX5_figureOf, Cond.instanceMethod yX5_figureOf, Cond.selects RX5 yX5_figureOf yX5_figureOf, Cond.code yX5_figureOf cX5_figureOf 3 (some .long), Cond.methodLink RX5 62 yX5_copy, Cond.instanceMethod yX5_copy, Cond.selects RX5 yX5_copy yX5_copy, Cond.code yX5_copy cX5_copy 4 none, Cond.methodLink RX5 89 yX5_lowest, Cond.instanceMethod yX5_lowest, Cond.selects RX5 yX5_lowest yX5_lowest, Cond.code yX5_lowest cX5_lowest 4 none, Cond.methodLink RX5 42 yX5_put, Cond.instanceMethod yX5_put, Cond.selects RX5 yX5_put yX5_put, Cond.code yX5_put cX5_put 4 none, Cond.methodLink RX5 82 yX5_divisor, Cond.instanceMethod yX5_divisor, Cond.selects RX5 yX5_divisor yX5_divisor, Cond.code yX5_divisor cX5_divisor 5 none, Cond.constantLong RX5 65 (2), Cond.methodLink RX5 67 yX5_halve, Cond.instanceMethod yX5_halve]
def wsX5_add0_r3 : List Cond := [Cond.selects RX5 yX5_halve yX5_halve, Cond.code yX5_halve cX5_halve 7 none, Cond.methodLink RX5 71 yX5_compare, Cond.instanceMethod yX5_compare, Cond.selects RX5 yX5_compare yX5_compare, Cond.code yX5_compare cX5_compare 7 (some .int), Cond.methodLink RX5 75 yX5_minus, Cond.instanceMethod yX5_minus, Cond.selects RX5 yX5_minus yX5_minus, Cond.code yX5_minus cX5_minus 10 none, Cond.methodLink RX5 85 yX5_divide, Cond.instanceMethod yX5_divide, Cond.selects RX5 yX5_divide yX5_divide, Cond.code yX5_divide cX5_divide 17 none, Cond.fieldLink RX5 33 "PrivateCountsModel" "below" "[J"]
def wsX5_add0 : List Cond := .code yX5_add0 cX5_add0 4 none :: ((wsX5_add0_r1 ++ (wsX5_add0_r2 ++ wsX5_add0_r3)) ++ wsX50)
def wsX5_subtract_r1 : List Cond := [Cond.methodLink RX5 95 yX5_cross, Cond.instanceMethod yX5_cross, Cond.selects RX5 yX5_cross yX5_cross, Cond.initialized RX5, Cond.code yX5_cross cX5_cross 3 none, Cond.methodLink RX5 92 yX5_times, Cond.instanceMethod yX5_times, Cond.selects RX5 yX5_times yX5_times, Cond.code yX5_times cX5_times 11 none, Cond.fieldLink RX5 27 "PrivateCountsModel" "length" "[I", Cond.fieldLink RX5 30 "PrivateCountsModel" "top" "[J", Cond.fieldLink RX5 23 "PrivateCountsModel" "figure" "[J", Cond.constantLong RX5 49 (2147483647), Cond.methodLink RX5 59 yX5_take, Cond.instanceMethod yX5_take, Cond.selects RX5 yX5_take yX5_take, Cond.code yX5_take cX5_take 4 none, Cond.methodLink RX5 51 yX5_trim, Cond.instanceMethod yX5_trim, Cond.selects RX5 yX5_trim yX5_trim, Cond.code yX5_trim cX5_trim 4 none, Cond.methodLink RX5 75 yX5_minus, Cond.instanceMethod yX5_minus, Cond.selects RX5 yX5_minus yX5_minus]
def wsX5_subtract_r2 : List Cond := [Cond.code yX5_minus cX5_minus 10 none, Cond.methodLink RX5 55 yX5_figureOf, Cond.instanceMethod yX5_figureOf, Cond.selects RX5 yX5_figureOf yX5_figureOf, Cond.code yX5_figureOf cX5_figureOf 3 (some .long), Cond.methodLink RX5 62 yX5_copy, Cond.instanceMethod yX5_copy, Cond.selects RX5 yX5_copy yX5_copy, Cond.code yX5_copy cX5_copy 4 none, Cond.methodLink RX5 89 yX5_lowest, Cond.instanceMethod yX5_lowest, Cond.selects RX5 yX5_lowest yX5_lowest, Cond.code yX5_lowest cX5_lowest 4 none, Cond.methodLink RX5 42 yX5_put, Cond.instanceMethod yX5_put, Cond.selects RX5 yX5_put yX5_put, Cond.code yX5_put cX5_put 4 none, Cond.methodLink RX5 82 yX5_divisor, Cond.instanceMethod yX5_divisor, Cond.selects RX5 yX5_divisor yX5_divisor, Cond.code yX5_divisor cX5_divisor 5 none, Cond.constantLong RX5 65 (2), Cond.methodLink RX5 67 yX5_halve, Cond.instanceMethod yX5_halve]
def wsX5_subtract_r3 : List Cond := [Cond.selects RX5 yX5_halve yX5_halve, Cond.code yX5_halve cX5_halve 7 none, Cond.methodLink RX5 71 yX5_compare, Cond.instanceMethod yX5_compare, Cond.selects RX5 yX5_compare yX5_compare, Cond.code yX5_compare cX5_compare 7 (some .int), Cond.methodLink RX5 79 yX5_plus, Cond.instanceMethod yX5_plus, Cond.selects RX5 yX5_plus yX5_plus, Cond.code yX5_plus cX5_plus 10 none, Cond.methodLink RX5 85 yX5_divide, Cond.instanceMethod yX5_divide, Cond.selects RX5 yX5_divide yX5_divide, Cond.code yX5_divide cX5_divide 17 none, Cond.fieldLink RX5 33 "PrivateCountsModel" "below" "[J"]
def wsX5_subtract : List Cond := .code yX5_subtract cX5_subtract 4 none :: ((wsX5_subtract_r1 ++ (wsX5_subtract_r2 ++ wsX5_subtract_r3)) ++ wsX50)
def wsX5_isMore_r1 : List Cond := [Cond.methodLink RX5 95 yX5_cross, Cond.instanceMethod yX5_cross, Cond.selects RX5 yX5_cross yX5_cross, Cond.initialized RX5, Cond.code yX5_cross cX5_cross 3 none, Cond.methodLink RX5 92 yX5_times, Cond.instanceMethod yX5_times, Cond.selects RX5 yX5_times yX5_times, Cond.code yX5_times cX5_times 11 none, Cond.fieldLink RX5 27 "PrivateCountsModel" "length" "[I", Cond.fieldLink RX5 30 "PrivateCountsModel" "top" "[J", Cond.fieldLink RX5 23 "PrivateCountsModel" "figure" "[J", Cond.constantLong RX5 49 (2147483647), Cond.methodLink RX5 59 yX5_take, Cond.instanceMethod yX5_take, Cond.selects RX5 yX5_take yX5_take, Cond.code yX5_take cX5_take 4 none, Cond.methodLink RX5 51 yX5_trim, Cond.instanceMethod yX5_trim, Cond.selects RX5 yX5_trim yX5_trim, Cond.code yX5_trim cX5_trim 4 none, Cond.methodLink RX5 71 yX5_compare, Cond.instanceMethod yX5_compare, Cond.selects RX5 yX5_compare yX5_compare]
def wsX5_isMore_r2 : List Cond := [Cond.code yX5_compare cX5_compare 7 (some .int), Cond.methodLink RX5 55 yX5_figureOf, Cond.instanceMethod yX5_figureOf, Cond.selects RX5 yX5_figureOf yX5_figureOf, Cond.code yX5_figureOf cX5_figureOf 3 (some .long)]
def wsX5_isMore : List Cond := .code yX5_isMore cX5_isMore 3 (some .boolean) :: ((wsX5_isMore_r1 ++ wsX5_isMore_r2) ++ wsX50)
def wsX5_add : List Cond := .code yX5_add cX5_add 2 (some .int) :: ([.fieldLink RX5 46 "PrivateCountsModel" "thrown" "I", .fieldLink RX5 98 "PrivateCountsModel" "rows" "I", .fieldLink RX5 7 "PrivateCountsModel" "row" "[I"] ++ wsX50)
def wsX5_remove : List Cond := .code yX5_remove cX5_remove 4 (some .int) :: ([.fieldLink RX5 98 "PrivateCountsModel" "rows" "I", .fieldLink RX5 46 "PrivateCountsModel" "thrown" "I", .fieldLink RX5 7 "PrivateCountsModel" "row" "[I"] ++ wsX50)
def wsX5_countRows : List Cond := .code yX5_countRows cX5_countRows 5 (some .int) :: ([.fieldLink RX5 98 "PrivateCountsModel" "rows" "I", .fieldLink RX5 7 "PrivateCountsModel" "row" "[I"] ++ wsX50)
def wsX5_count : List Cond := .code yX5_count cX5_count 3 (some .int) :: ([.fieldLink RX5 46 "PrivateCountsModel" "thrown" "I", .methodLink RX5 101 yX5_countRows, .instanceMethod yX5_countRows, .selects RX5 yX5_countRows yX5_countRows, .initialized RX5, .code yX5_countRows cX5_countRows 5 (some .int), .fieldLink RX5 98 "PrivateCountsModel" "rows" "I", .fieldLink RX5 7 "PrivateCountsModel" "row" "[I"] ++ wsX50)
def wsX5_power : List Cond := .code yX5_power cX5_power 6 (some .long) :: ([])
def wsX5_allOf : List Cond := .code yX5_allOf cX5_allOf 1 (some .long) :: ([.fieldLink RX5 13 "PrivateCountsModel" "a" "I", .fieldLink RX5 17 "PrivateCountsModel" "b" "I", .fieldLink RX5 20 "PrivateCountsModel" "high" "I", .fieldLink RX5 104 "PrivateCountsModel" "low" "I", .methodLink RX5 107 yX5_power, .static yX5_power, .initialized RX5, .code yX5_power cX5_power 6 (some .long)] ++ wsX50)
def wsX5_table : List Cond := .code yX5_table cX5_table 6 (some .long) :: ([.fieldLink RX5 46 "PrivateCountsModel" "thrown" "I", .fieldLink RX5 13 "PrivateCountsModel" "a" "I", .fieldLink RX5 17 "PrivateCountsModel" "b" "I", .fieldLink RX5 104 "PrivateCountsModel" "low" "I", .fieldLink RX5 20 "PrivateCountsModel" "high" "I", .methodLink RX5 111 yX5_allOf, .instanceMethod yX5_allOf, .selects RX5 yX5_allOf yX5_allOf, .initialized RX5, .code yX5_allOf cX5_allOf 1 (some .long), .methodLink RX5 107 yX5_power, .static yX5_power, .code yX5_power cX5_power 6 (some .long)] ++ wsX50)
def wsX5_all : List Cond := .code yX5_all cX5_all 1 (some .long) :: ([.fieldLink RX5 46 "PrivateCountsModel" "thrown" "I", .methodLink RX5 111 yX5_allOf, .instanceMethod yX5_allOf, .selects RX5 yX5_allOf yX5_allOf, .initialized RX5, .code yX5_allOf cX5_allOf 1 (some .long), .fieldLink RX5 13 "PrivateCountsModel" "a" "I", .fieldLink RX5 17 "PrivateCountsModel" "b" "I", .fieldLink RX5 20 "PrivateCountsModel" "high" "I", .fieldLink RX5 104 "PrivateCountsModel" "low" "I", .methodLink RX5 107 yX5_power, .static yX5_power, .code yX5_power cX5_power 6 (some .long)] ++ wsX50)
def wsX5_isOut : List Cond := .code yX5_isOut cX5_isOut 2 (some .boolean) :: ([.fieldLink RX5 104 "PrivateCountsModel" "low" "I", .fieldLink RX5 20 "PrivateCountsModel" "high" "I"] ++ wsX50)
def wsX5_weightOf : List Cond := .code yX5_weightOf cX5_weightOf 6 (some .long) :: ([.fieldLink RX5 104 "PrivateCountsModel" "low" "I", .fieldLink RX5 20 "PrivateCountsModel" "high" "I", .fieldLink RX5 17 "PrivateCountsModel" "b" "I", .fieldLink RX5 13 "PrivateCountsModel" "a" "I", .methodLink RX5 115 yX5_isOut, .instanceMethod yX5_isOut, .selects RX5 yX5_isOut yX5_isOut, .initialized RX5, .code yX5_isOut cX5_isOut 2 (some .boolean), .methodLink RX5 111 yX5_allOf, .instanceMethod yX5_allOf, .selects RX5 yX5_allOf yX5_allOf, .code yX5_allOf cX5_allOf 1 (some .long), .methodLink RX5 107 yX5_power, .static yX5_power, .code yX5_power cX5_power 6 (some .long)] ++ wsX50)
def wsX5_weight : List Cond := .code yX5_weight cX5_weight 3 (some .long) :: ([.fieldLink RX5 46 "PrivateCountsModel" "thrown" "I", .methodLink RX5 119 yX5_weightOf, .instanceMethod yX5_weightOf, .selects RX5 yX5_weightOf yX5_weightOf, .initialized RX5, .code yX5_weightOf cX5_weightOf 6 (some .long), .fieldLink RX5 104 "PrivateCountsModel" "low" "I", .fieldLink RX5 20 "PrivateCountsModel" "high" "I", .fieldLink RX5 17 "PrivateCountsModel" "b" "I", .fieldLink RX5 13 "PrivateCountsModel" "a" "I", .methodLink RX5 115 yX5_isOut, .instanceMethod yX5_isOut, .selects RX5 yX5_isOut yX5_isOut, .code yX5_isOut cX5_isOut 2 (some .boolean), .methodLink RX5 111 yX5_allOf, .instanceMethod yX5_allOf, .selects RX5 yX5_allOf yX5_allOf, .code yX5_allOf cX5_allOf 1 (some .long), .methodLink RX5 107 yX5_power, .static yX5_power, .code yX5_power cX5_power 6 (some .long)] ++ wsX50)
def wsX5_upTo : List Cond := .code yX5_upTo cX5_upTo 6 (some .long) :: ([.fieldLink RX5 46 "PrivateCountsModel" "thrown" "I", .fieldLink RX5 104 "PrivateCountsModel" "low" "I", .fieldLink RX5 20 "PrivateCountsModel" "high" "I", .methodLink RX5 119 yX5_weightOf, .instanceMethod yX5_weightOf, .selects RX5 yX5_weightOf yX5_weightOf, .initialized RX5, .code yX5_weightOf cX5_weightOf 6 (some .long), .fieldLink RX5 17 "PrivateCountsModel" "b" "I", .fieldLink RX5 13 "PrivateCountsModel" "a" "I", .methodLink RX5 115 yX5_isOut, .instanceMethod yX5_isOut, .selects RX5 yX5_isOut yX5_isOut, .code yX5_isOut cX5_isOut 2 (some .boolean), .methodLink RX5 111 yX5_allOf, .instanceMethod yX5_allOf, .selects RX5 yX5_allOf yX5_allOf, .code yX5_allOf cX5_allOf 1 (some .long), .methodLink RX5 107 yX5_power, .static yX5_power, .code yX5_power cX5_power 6 (some .long)] ++ wsX50)
def wsX5_drawn : List Cond := .code yX5_drawn cX5_drawn 7 (some .int) :: ([.fieldLink RX5 104 "PrivateCountsModel" "low" "I", .methodLink RX5 119 yX5_weightOf, .instanceMethod yX5_weightOf, .selects RX5 yX5_weightOf yX5_weightOf, .initialized RX5, .code yX5_weightOf cX5_weightOf 6 (some .long), .fieldLink RX5 20 "PrivateCountsModel" "high" "I", .fieldLink RX5 17 "PrivateCountsModel" "b" "I", .fieldLink RX5 13 "PrivateCountsModel" "a" "I", .methodLink RX5 115 yX5_isOut, .instanceMethod yX5_isOut, .selects RX5 yX5_isOut yX5_isOut, .code yX5_isOut cX5_isOut 2 (some .boolean), .methodLink RX5 111 yX5_allOf, .instanceMethod yX5_allOf, .selects RX5 yX5_allOf yX5_allOf, .code yX5_allOf cX5_allOf 1 (some .long), .methodLink RX5 107 yX5_power, .static yX5_power, .code yX5_power cX5_power 6 (some .long)] ++ wsX50)
def wsX5_noCoin : List Cond := .code yX5_noCoin cX5_noCoin 3 (some .boolean) :: ([.methodLink RX5 111 yX5_allOf, .instanceMethod yX5_allOf, .selects RX5 yX5_allOf yX5_allOf, .initialized RX5, .code yX5_allOf cX5_allOf 1 (some .long), .fieldLink RX5 13 "PrivateCountsModel" "a" "I", .fieldLink RX5 17 "PrivateCountsModel" "b" "I", .fieldLink RX5 20 "PrivateCountsModel" "high" "I", .fieldLink RX5 104 "PrivateCountsModel" "low" "I", .methodLink RX5 107 yX5_power, .static yX5_power, .code yX5_power cX5_power 6 (some .long)] ++ wsX50)
def wsX5_draw_r1 : List Cond := [Cond.fieldLink RX5 46 "PrivateCountsModel" "thrown" "I", Cond.methodLink RX5 115 yX5_isOut, Cond.instanceMethod yX5_isOut, Cond.selects RX5 yX5_isOut yX5_isOut, Cond.initialized RX5, Cond.code yX5_isOut cX5_isOut 2 (some .boolean), Cond.fieldLink RX5 104 "PrivateCountsModel" "low" "I", Cond.fieldLink RX5 20 "PrivateCountsModel" "high" "I", Cond.methodLink RX5 122 yX5_noCoin, Cond.instanceMethod yX5_noCoin, Cond.selects RX5 yX5_noCoin yX5_noCoin, Cond.code yX5_noCoin cX5_noCoin 3 (some .boolean), Cond.methodLink RX5 111 yX5_allOf, Cond.instanceMethod yX5_allOf, Cond.selects RX5 yX5_allOf yX5_allOf, Cond.code yX5_allOf cX5_allOf 1 (some .long), Cond.fieldLink RX5 13 "PrivateCountsModel" "a" "I", Cond.fieldLink RX5 17 "PrivateCountsModel" "b" "I", Cond.methodLink RX5 107 yX5_power, Cond.static yX5_power, Cond.code yX5_power cX5_power 6 (some .long), Cond.methodLink RX5 126 yX5_drawn, Cond.instanceMethod yX5_drawn, Cond.selects RX5 yX5_drawn yX5_drawn]
def wsX5_draw_r2 : List Cond := [Cond.code yX5_drawn cX5_drawn 7 (some .int), Cond.methodLink RX5 119 yX5_weightOf, Cond.instanceMethod yX5_weightOf, Cond.selects RX5 yX5_weightOf yX5_weightOf, Cond.code yX5_weightOf cX5_weightOf 6 (some .long)]
def wsX5_draw : List Cond := .code yX5_draw cX5_draw 4 (some .int) :: ((wsX5_draw_r1 ++ wsX5_draw_r2) ++ wsX50)
def wsX5_isNear : List Cond := .code yX5_isNear cX5_isNear 5 (some .boolean) :: ([.fieldLink RX5 46 "PrivateCountsModel" "thrown" "I", .fieldLink RX5 104 "PrivateCountsModel" "low" "I", .fieldLink RX5 20 "PrivateCountsModel" "high" "I", .fieldLink RX5 13 "PrivateCountsModel" "a" "I", .fieldLink RX5 17 "PrivateCountsModel" "b" "I", .methodLink RX5 115 yX5_isOut, .instanceMethod yX5_isOut, .selects RX5 yX5_isOut yX5_isOut, .initialized RX5, .code yX5_isOut cX5_isOut 2 (some .boolean), .methodLink RX5 119 yX5_weightOf, .instanceMethod yX5_weightOf, .selects RX5 yX5_weightOf yX5_weightOf, .code yX5_weightOf cX5_weightOf 6 (some .long), .methodLink RX5 111 yX5_allOf, .instanceMethod yX5_allOf, .selects RX5 yX5_allOf yX5_allOf, .code yX5_allOf cX5_allOf 1 (some .long), .methodLink RX5 107 yX5_power, .static yX5_power, .code yX5_power cX5_power 6 (some .long)] ++ wsX50)
def wsX5_reaches : List Cond := .code yX5_reaches cX5_reaches 8 (some .boolean) :: ([.fieldLink RX5 13 "PrivateCountsModel" "a" "I", .fieldLink RX5 39 "PrivateCountsModel" "whole" "[I", .constantLong RX5 130 (65535), .fieldLink RX5 17 "PrivateCountsModel" "b" "I"] ++ wsX50)
def wsX5_enough : List Cond := .code yX5_enough cX5_enough 13 (some .boolean) :: ([.fieldLink RX5 36 "PrivateCountsModel" "term" "[I", .fieldLink RX5 39 "PrivateCountsModel" "whole" "[I", .constant RX5 132 (65535), .constantLong RX5 130 (65535), .constantLong RX5 133 (65536), .methodLink RX5 135 yX5_reaches, .instanceMethod yX5_reaches, .selects RX5 yX5_reaches yX5_reaches, .initialized RX5, .code yX5_reaches cX5_reaches 8 (some .boolean), .fieldLink RX5 13 "PrivateCountsModel" "a" "I", .fieldLink RX5 17 "PrivateCountsModel" "b" "I"] ++ wsX50)
def wsX5_noCost : List Cond := .code yX5_noCost cX5_noCost 2 (some .boolean) :: ([])
def wsX5_isEnough : List Cond := .code yX5_isEnough cX5_isEnough 3 (some .boolean) :: ([.fieldLink RX5 46 "PrivateCountsModel" "thrown" "I", .methodLink RX5 139 yX5_noCost, .static yX5_noCost, .initialized RX5, .code yX5_noCost cX5_noCost 2 (some .boolean), .methodLink RX5 143 yX5_enough, .instanceMethod yX5_enough, .selects RX5 yX5_enough yX5_enough, .code yX5_enough cX5_enough 13 (some .boolean), .fieldLink RX5 36 "PrivateCountsModel" "term" "[I", .fieldLink RX5 39 "PrivateCountsModel" "whole" "[I", .constant RX5 132 (65535), .constantLong RX5 130 (65535), .constantLong RX5 133 (65536), .methodLink RX5 135 yX5_reaches, .instanceMethod yX5_reaches, .selects RX5 yX5_reaches yX5_reaches, .code yX5_reaches cX5_reaches 8 (some .boolean), .fieldLink RX5 13 "PrivateCountsModel" "a" "I", .fieldLink RX5 17 "PrivateCountsModel" "b" "I"] ++ wsX50)
def wsX5_least : List Cond := .code yX5_least cX5_least 6 (some .int) :: ([.fieldLink RX5 46 "PrivateCountsModel" "thrown" "I", .methodLink RX5 143 yX5_enough, .instanceMethod yX5_enough, .selects RX5 yX5_enough yX5_enough, .initialized RX5, .code yX5_enough cX5_enough 13 (some .boolean), .fieldLink RX5 36 "PrivateCountsModel" "term" "[I", .fieldLink RX5 39 "PrivateCountsModel" "whole" "[I", .constant RX5 132 (65535), .constantLong RX5 130 (65535), .constantLong RX5 133 (65536), .methodLink RX5 135 yX5_reaches, .instanceMethod yX5_reaches, .selects RX5 yX5_reaches yX5_reaches, .code yX5_reaches cX5_reaches 8 (some .boolean), .fieldLink RX5 13 "PrivateCountsModel" "a" "I", .fieldLink RX5 17 "PrivateCountsModel" "b" "I"] ++ wsX50)
def wsX5_noPart : List Cond := .code yX5_noPart cX5_noPart 2 (some .boolean) :: ([])
def wsX5_budget_r1 : List Cond := [Cond.fieldLink RX5 46 "PrivateCountsModel" "thrown" "I", Cond.fieldLink RX5 152 "PrivateCountsModel" "answered" "I", Cond.fieldLink RX5 155 "PrivateCountsModel" "tooLittle" "I", Cond.fieldLink RX5 158 "PrivateCountsModel" "tooMuch" "I", Cond.methodLink RX5 146 yX5_noPart, Cond.static yX5_noPart, Cond.initialized RX5, Cond.code yX5_noPart cX5_noPart 2 (some .boolean), Cond.methodLink RX5 149 yX5_set, Cond.instanceMethod yX5_set, Cond.selects RX5 yX5_set yX5_set, Cond.code yX5_set cX5_set 4 none, Cond.methodLink RX5 42 yX5_put, Cond.instanceMethod yX5_put, Cond.selects RX5 yX5_put yX5_put, Cond.code yX5_put cX5_put 4 none, Cond.fieldLink RX5 23 "PrivateCountsModel" "figure" "[J", Cond.constantLong RX5 49 (2147483647), Cond.methodLink RX5 51 yX5_trim, Cond.instanceMethod yX5_trim, Cond.selects RX5 yX5_trim yX5_trim, Cond.code yX5_trim cX5_trim 4 none, Cond.fieldLink RX5 27 "PrivateCountsModel" "length" "[I", Cond.methodLink RX5 89 yX5_lowest]
def wsX5_budget_r2 : List Cond := [Cond.instanceMethod yX5_lowest, Cond.selects RX5 yX5_lowest yX5_lowest, Cond.code yX5_lowest cX5_lowest 4 none, Cond.methodLink RX5 82 yX5_divisor, Cond.instanceMethod yX5_divisor, Cond.selects RX5 yX5_divisor yX5_divisor, Cond.code yX5_divisor cX5_divisor 5 none, Cond.constantLong RX5 65 (2), Cond.methodLink RX5 62 yX5_copy, Cond.instanceMethod yX5_copy, Cond.selects RX5 yX5_copy yX5_copy, Cond.code yX5_copy cX5_copy 4 none, Cond.methodLink RX5 67 yX5_halve, Cond.instanceMethod yX5_halve, Cond.selects RX5 yX5_halve yX5_halve, Cond.code yX5_halve cX5_halve 7 none, Cond.methodLink RX5 71 yX5_compare, Cond.instanceMethod yX5_compare, Cond.selects RX5 yX5_compare yX5_compare, Cond.code yX5_compare cX5_compare 7 (some .int), Cond.methodLink RX5 55 yX5_figureOf, Cond.instanceMethod yX5_figureOf, Cond.selects RX5 yX5_figureOf yX5_figureOf, Cond.code yX5_figureOf cX5_figureOf 3 (some .long)]
def wsX5_budget_r3 : List Cond := [Cond.methodLink RX5 75 yX5_minus, Cond.instanceMethod yX5_minus, Cond.selects RX5 yX5_minus yX5_minus, Cond.code yX5_minus cX5_minus 10 none, Cond.fieldLink RX5 30 "PrivateCountsModel" "top" "[J", Cond.methodLink RX5 59 yX5_take, Cond.instanceMethod yX5_take, Cond.selects RX5 yX5_take yX5_take, Cond.code yX5_take cX5_take 4 none, Cond.methodLink RX5 79 yX5_plus, Cond.instanceMethod yX5_plus, Cond.selects RX5 yX5_plus yX5_plus, Cond.code yX5_plus cX5_plus 10 none, Cond.methodLink RX5 85 yX5_divide, Cond.instanceMethod yX5_divide, Cond.selects RX5 yX5_divide yX5_divide, Cond.code yX5_divide cX5_divide 17 none, Cond.fieldLink RX5 33 "PrivateCountsModel" "below" "[J"]
def wsX5_budget : List Cond := .code yX5_budget cX5_budget 3 none :: ((wsX5_budget_r1 ++ (wsX5_budget_r2 ++ wsX5_budget_r3)) ++ wsX50)
def wsX5_raise_r1 : List Cond := [Cond.fieldLink RX5 46 "PrivateCountsModel" "thrown" "I", Cond.methodLink RX5 146 yX5_noPart, Cond.static yX5_noPart, Cond.initialized RX5, Cond.code yX5_noPart cX5_noPart 2 (some .boolean), Cond.methodLink RX5 149 yX5_set, Cond.instanceMethod yX5_set, Cond.selects RX5 yX5_set yX5_set, Cond.code yX5_set cX5_set 4 none, Cond.methodLink RX5 42 yX5_put, Cond.instanceMethod yX5_put, Cond.selects RX5 yX5_put yX5_put, Cond.code yX5_put cX5_put 4 none, Cond.fieldLink RX5 23 "PrivateCountsModel" "figure" "[J", Cond.constantLong RX5 49 (2147483647), Cond.methodLink RX5 51 yX5_trim, Cond.instanceMethod yX5_trim, Cond.selects RX5 yX5_trim yX5_trim, Cond.code yX5_trim cX5_trim 4 none, Cond.fieldLink RX5 27 "PrivateCountsModel" "length" "[I", Cond.methodLink RX5 89 yX5_lowest, Cond.instanceMethod yX5_lowest, Cond.selects RX5 yX5_lowest yX5_lowest, Cond.code yX5_lowest cX5_lowest 4 none]
def wsX5_raise_r2 : List Cond := [Cond.methodLink RX5 82 yX5_divisor, Cond.instanceMethod yX5_divisor, Cond.selects RX5 yX5_divisor yX5_divisor, Cond.code yX5_divisor cX5_divisor 5 none, Cond.constantLong RX5 65 (2), Cond.methodLink RX5 62 yX5_copy, Cond.instanceMethod yX5_copy, Cond.selects RX5 yX5_copy yX5_copy, Cond.code yX5_copy cX5_copy 4 none, Cond.methodLink RX5 67 yX5_halve, Cond.instanceMethod yX5_halve, Cond.selects RX5 yX5_halve yX5_halve, Cond.code yX5_halve cX5_halve 7 none, Cond.methodLink RX5 71 yX5_compare, Cond.instanceMethod yX5_compare, Cond.selects RX5 yX5_compare yX5_compare, Cond.code yX5_compare cX5_compare 7 (some .int), Cond.methodLink RX5 55 yX5_figureOf, Cond.instanceMethod yX5_figureOf, Cond.selects RX5 yX5_figureOf yX5_figureOf, Cond.code yX5_figureOf cX5_figureOf 3 (some .long), Cond.methodLink RX5 75 yX5_minus, Cond.instanceMethod yX5_minus, Cond.selects RX5 yX5_minus yX5_minus]
def wsX5_raise_r3 : List Cond := [Cond.code yX5_minus cX5_minus 10 none, Cond.fieldLink RX5 30 "PrivateCountsModel" "top" "[J", Cond.methodLink RX5 59 yX5_take, Cond.instanceMethod yX5_take, Cond.selects RX5 yX5_take yX5_take, Cond.code yX5_take cX5_take 4 none, Cond.methodLink RX5 79 yX5_plus, Cond.instanceMethod yX5_plus, Cond.selects RX5 yX5_plus yX5_plus, Cond.code yX5_plus cX5_plus 10 none, Cond.methodLink RX5 85 yX5_divide, Cond.instanceMethod yX5_divide, Cond.selects RX5 yX5_divide yX5_divide, Cond.code yX5_divide cX5_divide 17 none, Cond.fieldLink RX5 33 "PrivateCountsModel" "below" "[J", Cond.methodLink RX5 161 yX5_add0, Cond.instanceMethod yX5_add0, Cond.selects RX5 yX5_add0 yX5_add0, Cond.code yX5_add0 cX5_add0 4 none, Cond.methodLink RX5 95 yX5_cross, Cond.instanceMethod yX5_cross, Cond.selects RX5 yX5_cross yX5_cross, Cond.code yX5_cross cX5_cross 3 none, Cond.methodLink RX5 92 yX5_times]
def wsX5_raise_r4 : List Cond := [Cond.instanceMethod yX5_times, Cond.selects RX5 yX5_times yX5_times, Cond.code yX5_times cX5_times 11 none]
def wsX5_raise : List Cond := .code yX5_raise cX5_raise 3 none :: ((wsX5_raise_r1 ++ (wsX5_raise_r2 ++ (wsX5_raise_r3 ++ wsX5_raise_r4))) ++ wsX50)
def wsX5_ask_r1 : List Cond := [Cond.fieldLink RX5 46 "PrivateCountsModel" "thrown" "I", Cond.fieldLink RX5 155 "PrivateCountsModel" "tooLittle" "I", Cond.constant RX5 164 (-2147483648), Cond.fieldLink RX5 158 "PrivateCountsModel" "tooMuch" "I", Cond.fieldLink RX5 152 "PrivateCountsModel" "answered" "I", Cond.fieldLink RX5 104 "PrivateCountsModel" "low" "I", Cond.fieldLink RX5 20 "PrivateCountsModel" "high" "I", Cond.methodLink RX5 139 yX5_noCost, Cond.static yX5_noCost, Cond.initialized RX5, Cond.code yX5_noCost cX5_noCost 2 (some .boolean), Cond.methodLink RX5 122 yX5_noCoin, Cond.instanceMethod yX5_noCoin, Cond.selects RX5 yX5_noCoin yX5_noCoin, Cond.code yX5_noCoin cX5_noCoin 3 (some .boolean), Cond.methodLink RX5 111 yX5_allOf, Cond.instanceMethod yX5_allOf, Cond.selects RX5 yX5_allOf yX5_allOf, Cond.code yX5_allOf cX5_allOf 1 (some .long), Cond.fieldLink RX5 13 "PrivateCountsModel" "a" "I", Cond.fieldLink RX5 17 "PrivateCountsModel" "b" "I", Cond.methodLink RX5 107 yX5_power, Cond.static yX5_power, Cond.code yX5_power cX5_power 6 (some .long)]
def wsX5_ask_r2 : List Cond := [Cond.methodLink RX5 143 yX5_enough, Cond.instanceMethod yX5_enough, Cond.selects RX5 yX5_enough yX5_enough, Cond.code yX5_enough cX5_enough 13 (some .boolean), Cond.fieldLink RX5 36 "PrivateCountsModel" "term" "[I", Cond.fieldLink RX5 39 "PrivateCountsModel" "whole" "[I", Cond.constant RX5 132 (65535), Cond.constantLong RX5 130 (65535), Cond.constantLong RX5 133 (65536), Cond.methodLink RX5 135 yX5_reaches, Cond.instanceMethod yX5_reaches, Cond.selects RX5 yX5_reaches yX5_reaches, Cond.code yX5_reaches cX5_reaches 8 (some .boolean), Cond.methodLink RX5 149 yX5_set, Cond.instanceMethod yX5_set, Cond.selects RX5 yX5_set yX5_set, Cond.code yX5_set cX5_set 4 none, Cond.methodLink RX5 42 yX5_put, Cond.instanceMethod yX5_put, Cond.selects RX5 yX5_put yX5_put, Cond.code yX5_put cX5_put 4 none, Cond.fieldLink RX5 23 "PrivateCountsModel" "figure" "[J", Cond.constantLong RX5 49 (2147483647), Cond.methodLink RX5 51 yX5_trim]
def wsX5_ask_r3 : List Cond := [Cond.instanceMethod yX5_trim, Cond.selects RX5 yX5_trim yX5_trim, Cond.code yX5_trim cX5_trim 4 none, Cond.fieldLink RX5 27 "PrivateCountsModel" "length" "[I", Cond.methodLink RX5 89 yX5_lowest, Cond.instanceMethod yX5_lowest, Cond.selects RX5 yX5_lowest yX5_lowest, Cond.code yX5_lowest cX5_lowest 4 none, Cond.methodLink RX5 82 yX5_divisor, Cond.instanceMethod yX5_divisor, Cond.selects RX5 yX5_divisor yX5_divisor, Cond.code yX5_divisor cX5_divisor 5 none, Cond.constantLong RX5 65 (2), Cond.methodLink RX5 62 yX5_copy, Cond.instanceMethod yX5_copy, Cond.selects RX5 yX5_copy yX5_copy, Cond.code yX5_copy cX5_copy 4 none, Cond.methodLink RX5 67 yX5_halve, Cond.instanceMethod yX5_halve, Cond.selects RX5 yX5_halve yX5_halve, Cond.code yX5_halve cX5_halve 7 none, Cond.methodLink RX5 71 yX5_compare, Cond.instanceMethod yX5_compare, Cond.selects RX5 yX5_compare yX5_compare]
def wsX5_ask_r4 : List Cond := [Cond.code yX5_compare cX5_compare 7 (some .int), Cond.methodLink RX5 55 yX5_figureOf, Cond.instanceMethod yX5_figureOf, Cond.selects RX5 yX5_figureOf yX5_figureOf, Cond.code yX5_figureOf cX5_figureOf 3 (some .long), Cond.methodLink RX5 75 yX5_minus, Cond.instanceMethod yX5_minus, Cond.selects RX5 yX5_minus yX5_minus, Cond.code yX5_minus cX5_minus 10 none, Cond.fieldLink RX5 30 "PrivateCountsModel" "top" "[J", Cond.methodLink RX5 59 yX5_take, Cond.instanceMethod yX5_take, Cond.selects RX5 yX5_take yX5_take, Cond.code yX5_take cX5_take 4 none, Cond.methodLink RX5 79 yX5_plus, Cond.instanceMethod yX5_plus, Cond.selects RX5 yX5_plus yX5_plus, Cond.code yX5_plus cX5_plus 10 none, Cond.methodLink RX5 85 yX5_divide, Cond.instanceMethod yX5_divide, Cond.selects RX5 yX5_divide yX5_divide, Cond.code yX5_divide cX5_divide 17 none, Cond.fieldLink RX5 33 "PrivateCountsModel" "below" "[J", Cond.methodLink RX5 161 yX5_add0]
def wsX5_ask_r5 : List Cond := [Cond.instanceMethod yX5_add0, Cond.selects RX5 yX5_add0 yX5_add0, Cond.code yX5_add0 cX5_add0 4 none, Cond.methodLink RX5 95 yX5_cross, Cond.instanceMethod yX5_cross, Cond.selects RX5 yX5_cross yX5_cross, Cond.code yX5_cross cX5_cross 3 none, Cond.methodLink RX5 92 yX5_times, Cond.instanceMethod yX5_times, Cond.selects RX5 yX5_times yX5_times, Cond.code yX5_times cX5_times 11 none, Cond.methodLink RX5 165 yX5_isMore, Cond.instanceMethod yX5_isMore, Cond.selects RX5 yX5_isMore yX5_isMore, Cond.code yX5_isMore cX5_isMore 3 (some .boolean), Cond.methodLink RX5 101 yX5_countRows, Cond.instanceMethod yX5_countRows, Cond.selects RX5 yX5_countRows yX5_countRows, Cond.code yX5_countRows cX5_countRows 5 (some .int), Cond.fieldLink RX5 98 "PrivateCountsModel" "rows" "I", Cond.fieldLink RX5 7 "PrivateCountsModel" "row" "[I", Cond.methodLink RX5 126 yX5_drawn, Cond.instanceMethod yX5_drawn, Cond.selects RX5 yX5_drawn yX5_drawn]
def wsX5_ask_r6 : List Cond := [Cond.code yX5_drawn cX5_drawn 7 (some .int), Cond.methodLink RX5 119 yX5_weightOf, Cond.instanceMethod yX5_weightOf, Cond.selects RX5 yX5_weightOf yX5_weightOf, Cond.code yX5_weightOf cX5_weightOf 6 (some .long), Cond.methodLink RX5 115 yX5_isOut, Cond.instanceMethod yX5_isOut, Cond.selects RX5 yX5_isOut yX5_isOut, Cond.code yX5_isOut cX5_isOut 2 (some .boolean)]
def wsX5_ask : List Cond := .code yX5_ask cX5_ask 8 (some .int) :: ((wsX5_ask_r1 ++ (wsX5_ask_r2 ++ (wsX5_ask_r3 ++ (wsX5_ask_r4 ++ (wsX5_ask_r5 ++ wsX5_ask_r6))))) ++ wsX50)
def wsX5_limb_r1 : List Cond := [Cond.fieldLink RX5 46 "PrivateCountsModel" "thrown" "I", Cond.fieldLink RX5 27 "PrivateCountsModel" "length" "[I", Cond.fieldLink RX5 23 "PrivateCountsModel" "figure" "[J", Cond.methodLink RX5 168 yX5_subtract, Cond.instanceMethod yX5_subtract, Cond.selects RX5 yX5_subtract yX5_subtract, Cond.initialized RX5, Cond.code yX5_subtract cX5_subtract 4 none, Cond.methodLink RX5 95 yX5_cross, Cond.instanceMethod yX5_cross, Cond.selects RX5 yX5_cross yX5_cross, Cond.code yX5_cross cX5_cross 3 none, Cond.methodLink RX5 92 yX5_times, Cond.instanceMethod yX5_times, Cond.selects RX5 yX5_times yX5_times, Cond.code yX5_times cX5_times 11 none, Cond.fieldLink RX5 30 "PrivateCountsModel" "top" "[J", Cond.constantLong RX5 49 (2147483647), Cond.methodLink RX5 59 yX5_take, Cond.instanceMethod yX5_take, Cond.selects RX5 yX5_take yX5_take, Cond.code yX5_take cX5_take 4 none, Cond.methodLink RX5 51 yX5_trim, Cond.instanceMethod yX5_trim]
def wsX5_limb_r2 : List Cond := [Cond.selects RX5 yX5_trim yX5_trim, Cond.code yX5_trim cX5_trim 4 none, Cond.methodLink RX5 75 yX5_minus, Cond.instanceMethod yX5_minus, Cond.selects RX5 yX5_minus yX5_minus, Cond.code yX5_minus cX5_minus 10 none, Cond.methodLink RX5 55 yX5_figureOf, Cond.instanceMethod yX5_figureOf, Cond.selects RX5 yX5_figureOf yX5_figureOf, Cond.code yX5_figureOf cX5_figureOf 3 (some .long), Cond.methodLink RX5 62 yX5_copy, Cond.instanceMethod yX5_copy, Cond.selects RX5 yX5_copy yX5_copy, Cond.code yX5_copy cX5_copy 4 none, Cond.methodLink RX5 89 yX5_lowest, Cond.instanceMethod yX5_lowest, Cond.selects RX5 yX5_lowest yX5_lowest, Cond.code yX5_lowest cX5_lowest 4 none, Cond.methodLink RX5 42 yX5_put, Cond.instanceMethod yX5_put, Cond.selects RX5 yX5_put yX5_put, Cond.code yX5_put cX5_put 4 none, Cond.methodLink RX5 82 yX5_divisor, Cond.instanceMethod yX5_divisor]
def wsX5_limb_r3 : List Cond := [Cond.selects RX5 yX5_divisor yX5_divisor, Cond.code yX5_divisor cX5_divisor 5 none, Cond.constantLong RX5 65 (2), Cond.methodLink RX5 67 yX5_halve, Cond.instanceMethod yX5_halve, Cond.selects RX5 yX5_halve yX5_halve, Cond.code yX5_halve cX5_halve 7 none, Cond.methodLink RX5 71 yX5_compare, Cond.instanceMethod yX5_compare, Cond.selects RX5 yX5_compare yX5_compare, Cond.code yX5_compare cX5_compare 7 (some .int), Cond.methodLink RX5 79 yX5_plus, Cond.instanceMethod yX5_plus, Cond.selects RX5 yX5_plus yX5_plus, Cond.code yX5_plus cX5_plus 10 none, Cond.methodLink RX5 85 yX5_divide, Cond.instanceMethod yX5_divide, Cond.selects RX5 yX5_divide yX5_divide, Cond.code yX5_divide cX5_divide 17 none, Cond.fieldLink RX5 33 "PrivateCountsModel" "below" "[J"]
def wsX5_limb : List Cond := .code yX5_limb cX5_limb 5 (some .int) :: ((wsX5_limb_r1 ++ (wsX5_limb_r2 ++ wsX5_limb_r3)) ++ wsX50)
def wsX5_told : List Cond := .code yX5_told cX5_told 2 (some .int) :: ([.fieldLink RX5 46 "PrivateCountsModel" "thrown" "I", .fieldLink RX5 152 "PrivateCountsModel" "answered" "I", .fieldLink RX5 155 "PrivateCountsModel" "tooLittle" "I", .fieldLink RX5 158 "PrivateCountsModel" "tooMuch" "I", .fieldLink RX5 98 "PrivateCountsModel" "rows" "I", .fieldLink RX5 104 "PrivateCountsModel" "low" "I", .fieldLink RX5 20 "PrivateCountsModel" "high" "I", .fieldLink RX5 13 "PrivateCountsModel" "a" "I", .fieldLink RX5 17 "PrivateCountsModel" "b" "I"] ++ wsX50)
def wsL_remove : List Cond := .codeWith yL_remove cL_remove 4 (some .int) [(0, 9, 12, 13)] :: ([.classLink RL 13 "java/lang/IndexOutOfBoundsException", .methodLink RL 7 yX4_remove, .instanceMethod yX4_remove, .selects RX4 yX4_remove yX4_remove, .initialized RX4, .code yX4_remove cX4_remove 4 (some .int), .classLink RX4 53 "java/lang/IndexOutOfBoundsException", .initialized "java/lang/IndexOutOfBoundsException", .fieldLink RX4 13 "PrivateCounts" "rowCount" "I", .fieldLink RX4 9 "PrivateCounts" "rows" "[I"] ++ wsX40 ++ (vx_atS RX4 57 "java/lang/IndexOutOfBoundsException" ["java/lang/RuntimeException", "java/lang/Exception"]).filter goodWord)
def wsL_table_r1 : List Cond := [Cond.classLink RL 19 "java/lang/IllegalArgumentException", Cond.methodLink RL 15 yX4_table, Cond.instanceMethod yX4_table, Cond.selects RX4 yX4_table yX4_table, Cond.initialized RX4, Cond.code yX4_table cX4_table 5 (some .long), Cond.classLink RX4 64 "java/lang/IllegalArgumentException", Cond.initialized "java/lang/IllegalArgumentException", Cond.fieldLink RX4 20 "PrivateCounts" "weights" "LPrivateCounts$Table;", Cond.fieldLink RX4 73 "PrivateCounts$Table" "total" "J", Cond.methodLink RX4 60 yX3_isAllowed, Cond.static yX3_isAllowed, Cond.initialized RX3, Cond.code yX3_isAllowed cX3_isAllowed 4 (some .boolean), Cond.methodLink RX4 69 yX3_become, Cond.instanceMethod yX3_become, Cond.selects RX3 yX3_become yX3_become, Cond.code yX3_become cX3_become 5 none, Cond.fieldLink RX3 13 "PrivateCounts$Table" "a" "I", Cond.fieldLink RX3 17 "PrivateCounts$Table" "b" "I", Cond.fieldLink RX3 20 "PrivateCounts$Table" "low" "I", Cond.fieldLink RX3 23 "PrivateCounts$Table" "high" "I", Cond.fieldLink RX3 30 "PrivateCounts$Table" "total" "J", Cond.methodLink RX3 26 yX3_power]
def wsL_table_r2 : List Cond := [Cond.static yX3_power, Cond.code yX3_power cX3_power 5 (some .long)]
def wsL_table : List Cond := .codeWith yL_table cL_table 7 (some .int) [(0, 13, 16, 19)] :: ((wsL_table_r1 ++ wsL_table_r2) ++ wsX40 ++ wsX30 ++ (vx_atS RX4 68 "java/lang/IllegalArgumentException" ["java/lang/RuntimeException", "java/lang/Exception"]).filter goodWord)
def wsL_draw_r1 : List Cond := [Cond.classLink RL 19 "java/lang/IllegalArgumentException", Cond.methodLink RL 21 yX4_draw, Cond.instanceMethod yX4_draw, Cond.selects RX4 yX4_draw yX4_draw, Cond.initialized RX4, Cond.code yX4_draw cX4_draw 4 (some .int), Cond.classLink RX4 64 "java/lang/IllegalArgumentException", Cond.initialized "java/lang/IllegalArgumentException", Cond.fieldLink RX4 20 "PrivateCounts" "weights" "LPrivateCounts$Table;", Cond.methodLink RX4 84 yX3_holds, Cond.instanceMethod yX3_holds, Cond.selects RX3 yX3_holds yX3_holds, Cond.initialized RX3, Cond.code yX3_holds cX3_holds 2 (some .boolean), Cond.fieldLink RX3 20 "PrivateCounts$Table" "low" "I", Cond.fieldLink RX3 23 "PrivateCounts$Table" "high" "I", Cond.methodLink RX4 88 yX3_hasCoin, Cond.instanceMethod yX3_hasCoin, Cond.selects RX3 yX3_hasCoin yX3_hasCoin, Cond.code yX3_hasCoin cX3_hasCoin 3 (some .boolean), Cond.fieldLink RX3 30 "PrivateCounts$Table" "total" "J", Cond.methodLink RX4 94 yX3_outcomeOf, Cond.instanceMethod yX3_outcomeOf, Cond.selects RX3 yX3_outcomeOf yX3_outcomeOf]
def wsL_draw_r2 : List Cond := [Cond.code yX3_outcomeOf cX3_outcomeOf 7 (some .int), Cond.methodLink RX3 38 yX3_weightOf, Cond.instanceMethod yX3_weightOf, Cond.selects RX3 yX3_weightOf yX3_weightOf, Cond.code yX3_weightOf cX3_weightOf 5 (some .long), Cond.fieldLink RX3 17 "PrivateCounts$Table" "b" "I", Cond.fieldLink RX3 13 "PrivateCounts$Table" "a" "I", Cond.methodLink RX3 34 yX3_holds, Cond.methodLink RX3 26 yX3_power, Cond.static yX3_power, Cond.code yX3_power cX3_power 5 (some .long)]
def wsL_draw : List Cond := .codeWith yL_draw cL_draw 6 (some .int) [(0, 11, 14, 19)] :: ((wsL_draw_r1 ++ wsL_draw_r2) ++ wsX40 ++ wsX30 ++ (vx_atS RX4 68 "java/lang/IllegalArgumentException" ["java/lang/RuntimeException", "java/lang/Exception"]).filter goodWord)
def wsL_isNear_r1 : List Cond := [Cond.classLink RL 19 "java/lang/IllegalArgumentException", Cond.methodLink RL 25 yX4_isNear, Cond.instanceMethod yX4_isNear, Cond.selects RX4 yX4_isNear yX4_isNear, Cond.initialized RX4, Cond.code yX4_isNear cX4_isNear 3 (some .boolean), Cond.classLink RX4 64 "java/lang/IllegalArgumentException", Cond.initialized "java/lang/IllegalArgumentException", Cond.fieldLink RX4 20 "PrivateCounts" "weights" "LPrivateCounts$Table;", Cond.methodLink RX4 84 yX3_holds, Cond.instanceMethod yX3_holds, Cond.selects RX3 yX3_holds yX3_holds, Cond.initialized RX3, Cond.code yX3_holds cX3_holds 2 (some .boolean), Cond.fieldLink RX3 20 "PrivateCounts$Table" "low" "I", Cond.fieldLink RX3 23 "PrivateCounts$Table" "high" "I", Cond.methodLink RX4 100 yX3_isWithinRatio, Cond.instanceMethod yX3_isWithinRatio, Cond.selects RX3 yX3_isWithinRatio yX3_isWithinRatio, Cond.code yX3_isWithinRatio cX3_isWithinRatio 4 (some .boolean), Cond.fieldLink RX3 13 "PrivateCounts$Table" "a" "I", Cond.fieldLink RX3 17 "PrivateCounts$Table" "b" "I", Cond.methodLink RX3 38 yX3_weightOf, Cond.instanceMethod yX3_weightOf]
def wsL_isNear_r2 : List Cond := [Cond.selects RX3 yX3_weightOf yX3_weightOf, Cond.code yX3_weightOf cX3_weightOf 5 (some .long), Cond.fieldLink RX3 30 "PrivateCounts$Table" "total" "J", Cond.methodLink RX3 34 yX3_holds, Cond.methodLink RX3 26 yX3_power, Cond.static yX3_power, Cond.code yX3_power cX3_power 5 (some .long)]
def wsL_isNear : List Cond := .codeWith yL_isNear cL_isNear 5 (some .int) [(0, 17, 20, 19)] :: ((wsL_isNear_r1 ++ wsL_isNear_r2) ++ wsX40 ++ wsX30 ++ (vx_atS RX4 68 "java/lang/IllegalArgumentException" ["java/lang/RuntimeException", "java/lang/Exception"]).filter goodWord)
def wsL_budget_r1 : List Cond := [Cond.classLink RL 19 "java/lang/IllegalArgumentException", Cond.methodLink RL 29 yX4_budget, Cond.instanceMethod yX4_budget, Cond.selects RX4 yX4_budget yX4_budget, Cond.initialized RX4, Cond.code yX4_budget cX4_budget 3 none, Cond.classLink RX4 64 "java/lang/IllegalArgumentException", Cond.initialized "java/lang/IllegalArgumentException", Cond.fieldLink RX4 34 "PrivateCounts" "granted" "LPrivateCounts$Fraction;", Cond.fieldLink RX4 38 "PrivateCounts" "spent" "LPrivateCounts$Fraction;", Cond.fieldLink RX4 41 "PrivateCounts" "left" "LPrivateCounts$Fraction;", Cond.fieldLink RX4 44 "PrivateCounts" "answered" "I", Cond.fieldLink RX4 47 "PrivateCounts" "refusedForCost" "I", Cond.fieldLink RX4 50 "PrivateCounts" "refusedForBudget" "I", Cond.methodLink RX4 104 yX4_isGrant, Cond.static yX4_isGrant, Cond.code yX4_isGrant cX4_isGrant 2 (some .boolean), Cond.methodLink RX4 124 yX4_isDenominator, Cond.static yX4_isDenominator, Cond.code yX4_isDenominator cX4_isDenominator 1 (some .boolean), Cond.methodLink RX4 109 yX0_become, Cond.instanceMethod yX0_become, Cond.selects RX0 yX0_become yX0_become, Cond.initialized RX0]
def wsL_budget_r2 : List Cond := [Cond.code yX0_become cX0_become 4 none, Cond.fieldLink RX0 10 "PrivateCounts$Fraction" "numerator" "LPrivateCounts$Natural;", Cond.fieldLink RX0 16 "PrivateCounts$Fraction" "denominator" "LPrivateCounts$Natural;", Cond.methodLink RX0 23 yX0_commonDivisor, Cond.static yX0_commonDivisor, Cond.code yX0_commonDivisor cX0_commonDivisor 6 (some .int), Cond.methodLink RX0 19 yX1_become, Cond.instanceMethod yX1_become, Cond.selects RX1 yX1_become yX1_become, Cond.initialized RX1, Cond.code yX1_become cX1_become 2 none, Cond.fieldLink RX1 13 "PrivateCounts$Natural" "size" "I", Cond.methodLink RX1 17 yX1_append, Cond.instanceMethod yX1_append, Cond.selects RX1 yX1_append yX1_append, Cond.code yX1_append cX1_append 3 none, Cond.fieldLink RX1 9 "PrivateCounts$Natural" "limbs" "[I", Cond.methodLink RX0 27 yX1_divideBy, Cond.instanceMethod yX1_divideBy, Cond.selects RX1 yX1_divideBy yX1_divideBy, Cond.code yX1_divideBy cX1_divideBy 5 none, Cond.methodLink RX1 23 yX1_trim, Cond.instanceMethod yX1_trim, Cond.selects RX1 yX1_trim yX1_trim]
def wsL_budget_r3 : List Cond := [Cond.code yX1_trim cX1_trim 1 none, Cond.methodLink RX1 26 yX1_limbAt, Cond.instanceMethod yX1_limbAt, Cond.selects RX1 yX1_limbAt yX1_limbAt, Cond.code yX1_limbAt cX1_limbAt 2 (some .int)]
def wsL_budget : List Cond := .codeWith yL_budget cL_budget 4 (some .int) [(0, 6, 9, 19)] :: ((wsL_budget_r1 ++ (wsL_budget_r2 ++ wsL_budget_r3)) ++ wsX40 ++ wsX00 ++ wsX10 ++ (vx_atS RX4 68 "java/lang/IllegalArgumentException" ["java/lang/RuntimeException", "java/lang/Exception"]).filter goodWord)
def wsL_raise_r1 : List Cond := [Cond.classLink RL 19 "java/lang/IllegalArgumentException", Cond.methodLink RL 33 yX4_raise, Cond.instanceMethod yX4_raise, Cond.selects RX4 yX4_raise yX4_raise, Cond.initialized RX4, Cond.code yX4_raise cX4_raise 3 none, Cond.classLink RX4 64 "java/lang/IllegalArgumentException", Cond.initialized "java/lang/IllegalArgumentException", Cond.fieldLink RX4 34 "PrivateCounts" "granted" "LPrivateCounts$Fraction;", Cond.fieldLink RX4 41 "PrivateCounts" "left" "LPrivateCounts$Fraction;", Cond.methodLink RX4 104 yX4_isGrant, Cond.static yX4_isGrant, Cond.code yX4_isGrant cX4_isGrant 2 (some .boolean), Cond.methodLink RX4 124 yX4_isDenominator, Cond.static yX4_isDenominator, Cond.code yX4_isDenominator cX4_isDenominator 1 (some .boolean), Cond.methodLink RX4 112 yX0_increase, Cond.instanceMethod yX0_increase, Cond.selects RX0 yX0_increase yX0_increase, Cond.initialized RX0, Cond.code yX0_increase cX0_increase 3 none, Cond.methodLink RX0 30 yX0_change, Cond.instanceMethod yX0_change, Cond.selects RX0 yX0_change yX0_change]
def wsL_raise_r2 : List Cond := [Cond.code yX0_change cX0_change 9 none, Cond.fieldLink RX0 16 "PrivateCounts$Fraction" "denominator" "LPrivateCounts$Natural;", Cond.fieldLink RX0 10 "PrivateCounts$Fraction" "numerator" "LPrivateCounts$Natural;", Cond.methodLink RX0 23 yX0_commonDivisor, Cond.static yX0_commonDivisor, Cond.code yX0_commonDivisor cX0_commonDivisor 6 (some .int), Cond.methodLink RX0 38 yX0_quotient, Cond.static yX0_quotient, Cond.code yX0_quotient cX0_quotient 2 (some .int), Cond.methodLink RX0 41 yX1_restBy, Cond.instanceMethod yX1_restBy, Cond.selects RX1 yX1_restBy yX1_restBy, Cond.initialized RX1, Cond.code yX1_restBy cX1_restBy 5 (some .int), Cond.fieldLink RX1 13 "PrivateCounts$Natural" "size" "I", Cond.methodLink RX1 26 yX1_limbAt, Cond.instanceMethod yX1_limbAt, Cond.selects RX1 yX1_limbAt yX1_limbAt, Cond.code yX1_limbAt cX1_limbAt 2 (some .int), Cond.fieldLink RX1 9 "PrivateCounts$Natural" "limbs" "[I", Cond.methodLink RX0 27 yX1_divideBy, Cond.instanceMethod yX1_divideBy, Cond.selects RX1 yX1_divideBy yX1_divideBy, Cond.code yX1_divideBy cX1_divideBy 5 none]
def wsL_raise_r3 : List Cond := [Cond.methodLink RX1 23 yX1_trim, Cond.instanceMethod yX1_trim, Cond.selects RX1 yX1_trim yX1_trim, Cond.code yX1_trim cX1_trim 1 none, Cond.methodLink RX0 45 yX1_times, Cond.instanceMethod yX1_times, Cond.selects RX1 yX1_times yX1_times, Cond.code yX1_times cX1_times 5 none, Cond.constantLong RX1 21 (2147483647), Cond.methodLink RX1 17 yX1_append, Cond.instanceMethod yX1_append, Cond.selects RX1 yX1_append yX1_append, Cond.code yX1_append cX1_append 3 none, Cond.methodLink RX0 48 yX1_plusTimes, Cond.instanceMethod yX1_plusTimes, Cond.selects RX1 yX1_plusTimes yX1_plusTimes, Cond.code yX1_plusTimes cX1_plusTimes 7 none]
def wsL_raise : List Cond := .codeWith yL_raise cL_raise 4 (some .int) [(0, 6, 9, 19)] :: ((wsL_raise_r1 ++ (wsL_raise_r2 ++ wsL_raise_r3)) ++ wsX40 ++ wsX00 ++ wsX10 ++ (vx_atS RX4 68 "java/lang/IllegalArgumentException" ["java/lang/RuntimeException", "java/lang/Exception"]).filter goodWord)
def wsL_isEnough_r1 : List Cond := [Cond.classLink RL 19 "java/lang/IllegalArgumentException", Cond.methodLink RL 36 yX4_isEnough, Cond.instanceMethod yX4_isEnough, Cond.selects RX4 yX4_isEnough yX4_isEnough, Cond.initialized RX4, Cond.code yX4_isEnough cX4_isEnough 3 (some .boolean), Cond.classLink RX4 64 "java/lang/IllegalArgumentException", Cond.initialized "java/lang/IllegalArgumentException", Cond.fieldLink RX4 27 "PrivateCounts" "series" "LPrivateCounts$Series;", Cond.fieldLink RX4 20 "PrivateCounts" "weights" "LPrivateCounts$Table;", Cond.methodLink RX4 115 yX4_isCost, Cond.static yX4_isCost, Cond.code yX4_isCost cX4_isCost 2 (some .boolean), Cond.methodLink RX4 124 yX4_isDenominator, Cond.static yX4_isDenominator, Cond.code yX4_isDenominator cX4_isDenominator 1 (some .boolean), Cond.methodLink RX4 120 yX2_reaches, Cond.instanceMethod yX2_reaches, Cond.selects RX2 yX2_reaches yX2_reaches, Cond.initialized RX2, Cond.code yX2_reaches cX2_reaches 6 (some .boolean), Cond.fieldLink RX2 10 "PrivateCounts$Series" "missing" "LPrivateCounts$Natural;", Cond.fieldLink RX2 19 "PrivateCounts$Table" "b" "I", Cond.fieldLink RX2 25 "PrivateCounts$Table" "a" "I"]
def wsL_isEnough_r2 : List Cond := [Cond.fieldLink RX2 16 "PrivateCounts$Series" "term" "LPrivateCounts$Natural;", Cond.methodLink RX2 28 yX1_become, Cond.instanceMethod yX1_become, Cond.selects RX1 yX1_become yX1_become, Cond.initialized RX1, Cond.code yX1_become cX1_become 2 none, Cond.fieldLink RX1 13 "PrivateCounts$Natural" "size" "I", Cond.methodLink RX1 17 yX1_append, Cond.instanceMethod yX1_append, Cond.selects RX1 yX1_append yX1_append, Cond.code yX1_append cX1_append 3 none, Cond.fieldLink RX1 9 "PrivateCounts$Natural" "limbs" "[I", Cond.methodLink RX2 32 yX1_times, Cond.instanceMethod yX1_times, Cond.selects RX1 yX1_times yX1_times, Cond.code yX1_times cX1_times 5 none, Cond.constantLong RX1 21 (2147483647), Cond.methodLink RX1 23 yX1_trim, Cond.instanceMethod yX1_trim, Cond.selects RX1 yX1_trim yX1_trim, Cond.code yX1_trim cX1_trim 1 none, Cond.methodLink RX1 26 yX1_limbAt, Cond.instanceMethod yX1_limbAt, Cond.selects RX1 yX1_limbAt yX1_limbAt]
def wsL_isEnough_r3 : List Cond := [Cond.code yX1_limbAt cX1_limbAt 2 (some .int), Cond.methodLink RX2 35 yX1_isLess, Cond.static yX1_isLess, Cond.code yX1_isLess cX1_isLess 8 (some .boolean), Cond.methodLink RX2 39 yX1_plusTimes, Cond.instanceMethod yX1_plusTimes, Cond.selects RX1 yX1_plusTimes yX1_plusTimes, Cond.code yX1_plusTimes cX1_plusTimes 7 none]
def wsL_isEnough : List Cond := .codeWith yL_isEnough cL_isEnough 5 (some .int) [(0, 17, 20, 19)] :: ((wsL_isEnough_r1 ++ (wsL_isEnough_r2 ++ wsL_isEnough_r3)) ++ wsX40 ++ wsX20 ++ wsX30 ++ wsX10 ++ (vx_atS RX4 68 "java/lang/IllegalArgumentException" ["java/lang/RuntimeException", "java/lang/Exception"]).filter goodWord)
def wsL_least_r1 : List Cond := [Cond.classLink RL 19 "java/lang/IllegalArgumentException", Cond.methodLink RL 39 yX4_least, Cond.instanceMethod yX4_least, Cond.selects RX4 yX4_least yX4_least, Cond.initialized RX4, Cond.code yX4_least cX4_least 6 (some .int), Cond.classLink RX4 64 "java/lang/IllegalArgumentException", Cond.initialized "java/lang/IllegalArgumentException", Cond.fieldLink RX4 27 "PrivateCounts" "series" "LPrivateCounts$Series;", Cond.fieldLink RX4 20 "PrivateCounts" "weights" "LPrivateCounts$Table;", Cond.methodLink RX4 124 yX4_isDenominator, Cond.static yX4_isDenominator, Cond.code yX4_isDenominator cX4_isDenominator 1 (some .boolean), Cond.methodLink RX4 120 yX2_reaches, Cond.instanceMethod yX2_reaches, Cond.selects RX2 yX2_reaches yX2_reaches, Cond.initialized RX2, Cond.code yX2_reaches cX2_reaches 6 (some .boolean), Cond.fieldLink RX2 10 "PrivateCounts$Series" "missing" "LPrivateCounts$Natural;", Cond.fieldLink RX2 19 "PrivateCounts$Table" "b" "I", Cond.fieldLink RX2 25 "PrivateCounts$Table" "a" "I", Cond.fieldLink RX2 16 "PrivateCounts$Series" "term" "LPrivateCounts$Natural;", Cond.methodLink RX2 28 yX1_become, Cond.instanceMethod yX1_become]
def wsL_least_r2 : List Cond := [Cond.selects RX1 yX1_become yX1_become, Cond.initialized RX1, Cond.code yX1_become cX1_become 2 none, Cond.fieldLink RX1 13 "PrivateCounts$Natural" "size" "I", Cond.methodLink RX1 17 yX1_append, Cond.instanceMethod yX1_append, Cond.selects RX1 yX1_append yX1_append, Cond.code yX1_append cX1_append 3 none, Cond.fieldLink RX1 9 "PrivateCounts$Natural" "limbs" "[I", Cond.methodLink RX2 32 yX1_times, Cond.instanceMethod yX1_times, Cond.selects RX1 yX1_times yX1_times, Cond.code yX1_times cX1_times 5 none, Cond.constantLong RX1 21 (2147483647), Cond.methodLink RX1 23 yX1_trim, Cond.instanceMethod yX1_trim, Cond.selects RX1 yX1_trim yX1_trim, Cond.code yX1_trim cX1_trim 1 none, Cond.methodLink RX1 26 yX1_limbAt, Cond.instanceMethod yX1_limbAt, Cond.selects RX1 yX1_limbAt yX1_limbAt, Cond.code yX1_limbAt cX1_limbAt 2 (some .int), Cond.methodLink RX2 35 yX1_isLess, Cond.static yX1_isLess]
def wsL_least_r3 : List Cond := [Cond.code yX1_isLess cX1_isLess 8 (some .boolean), Cond.methodLink RX2 39 yX1_plusTimes, Cond.instanceMethod yX1_plusTimes, Cond.selects RX1 yX1_plusTimes yX1_plusTimes, Cond.code yX1_plusTimes cX1_plusTimes 7 none]
def wsL_least : List Cond := .codeWith yL_least cL_least 4 (some .int) [(0, 9, 12, 19)] :: ((wsL_least_r1 ++ (wsL_least_r2 ++ wsL_least_r3)) ++ wsX40 ++ wsX20 ++ wsX30 ++ wsX10 ++ (vx_atS RX4 68 "java/lang/IllegalArgumentException" ["java/lang/RuntimeException", "java/lang/Exception"]).filter goodWord)
def wsL_ask_r1 : List Cond := [Cond.classLink RL 19 "java/lang/IllegalArgumentException", Cond.methodLink RL 42 yX4_ask, Cond.instanceMethod yX4_ask, Cond.selects RX4 yX4_ask yX4_ask, Cond.initialized RX4, Cond.code yX4_ask cX4_ask 7 (some .int), Cond.classLink RX4 64 "java/lang/IllegalArgumentException", Cond.initialized "java/lang/IllegalArgumentException", Cond.fieldLink RX4 20 "PrivateCounts" "weights" "LPrivateCounts$Table;", Cond.fieldLink RX4 27 "PrivateCounts" "series" "LPrivateCounts$Series;", Cond.fieldLink RX4 47 "PrivateCounts" "refusedForCost" "I", Cond.constant RX4 131 (-2147483648), Cond.fieldLink RX4 41 "PrivateCounts" "left" "LPrivateCounts$Fraction;", Cond.fieldLink RX4 50 "PrivateCounts" "refusedForBudget" "I", Cond.fieldLink RX4 38 "PrivateCounts" "spent" "LPrivateCounts$Fraction;", Cond.fieldLink RX4 44 "PrivateCounts" "answered" "I", Cond.methodLink RX4 115 yX4_isCost, Cond.static yX4_isCost, Cond.code yX4_isCost cX4_isCost 2 (some .boolean), Cond.methodLink RX4 124 yX4_isDenominator, Cond.static yX4_isDenominator, Cond.code yX4_isDenominator cX4_isDenominator 1 (some .boolean), Cond.methodLink RX4 88 yX3_hasCoin, Cond.instanceMethod yX3_hasCoin]
def wsL_ask_r2 : List Cond := [Cond.selects RX3 yX3_hasCoin yX3_hasCoin, Cond.initialized RX3, Cond.code yX3_hasCoin cX3_hasCoin 3 (some .boolean), Cond.fieldLink RX3 30 "PrivateCounts$Table" "total" "J", Cond.methodLink RX4 120 yX2_reaches, Cond.instanceMethod yX2_reaches, Cond.selects RX2 yX2_reaches yX2_reaches, Cond.initialized RX2, Cond.code yX2_reaches cX2_reaches 6 (some .boolean), Cond.fieldLink RX2 10 "PrivateCounts$Series" "missing" "LPrivateCounts$Natural;", Cond.fieldLink RX2 19 "PrivateCounts$Table" "b" "I", Cond.fieldLink RX2 25 "PrivateCounts$Table" "a" "I", Cond.fieldLink RX2 16 "PrivateCounts$Series" "term" "LPrivateCounts$Natural;", Cond.methodLink RX2 28 yX1_become, Cond.instanceMethod yX1_become, Cond.selects RX1 yX1_become yX1_become, Cond.initialized RX1, Cond.code yX1_become cX1_become 2 none, Cond.fieldLink RX1 13 "PrivateCounts$Natural" "size" "I", Cond.methodLink RX1 17 yX1_append, Cond.instanceMethod yX1_append, Cond.selects RX1 yX1_append yX1_append, Cond.code yX1_append cX1_append 3 none, Cond.fieldLink RX1 9 "PrivateCounts$Natural" "limbs" "[I"]
def wsL_ask_r3 : List Cond := [Cond.methodLink RX2 32 yX1_times, Cond.instanceMethod yX1_times, Cond.selects RX1 yX1_times yX1_times, Cond.code yX1_times cX1_times 5 none, Cond.constantLong RX1 21 (2147483647), Cond.methodLink RX1 23 yX1_trim, Cond.instanceMethod yX1_trim, Cond.selects RX1 yX1_trim yX1_trim, Cond.code yX1_trim cX1_trim 1 none, Cond.methodLink RX1 26 yX1_limbAt, Cond.instanceMethod yX1_limbAt, Cond.selects RX1 yX1_limbAt yX1_limbAt, Cond.code yX1_limbAt cX1_limbAt 2 (some .int), Cond.methodLink RX2 35 yX1_isLess, Cond.static yX1_isLess, Cond.code yX1_isLess cX1_isLess 8 (some .boolean), Cond.methodLink RX2 39 yX1_plusTimes, Cond.instanceMethod yX1_plusTimes, Cond.selects RX1 yX1_plusTimes yX1_plusTimes, Cond.code yX1_plusTimes cX1_plusTimes 7 none, Cond.methodLink RX4 132 yX0_isLessThan, Cond.instanceMethod yX0_isLessThan, Cond.selects RX0 yX0_isLessThan yX0_isLessThan, Cond.initialized RX0]
def wsL_ask_r4 : List Cond := [Cond.code yX0_isLessThan cX0_isLessThan 3 (some .boolean), Cond.fieldLink RX0 10 "PrivateCounts$Fraction" "numerator" "LPrivateCounts$Natural;", Cond.fieldLink RX0 16 "PrivateCounts$Fraction" "denominator" "LPrivateCounts$Natural;", Cond.methodLink RX0 34 yX1_isLess, Cond.methodLink RX4 112 yX0_increase, Cond.instanceMethod yX0_increase, Cond.selects RX0 yX0_increase yX0_increase, Cond.code yX0_increase cX0_increase 3 none, Cond.methodLink RX0 30 yX0_change, Cond.instanceMethod yX0_change, Cond.selects RX0 yX0_change yX0_change, Cond.code yX0_change cX0_change 9 none, Cond.methodLink RX0 23 yX0_commonDivisor, Cond.static yX0_commonDivisor, Cond.code yX0_commonDivisor cX0_commonDivisor 6 (some .int), Cond.methodLink RX0 38 yX0_quotient, Cond.static yX0_quotient, Cond.code yX0_quotient cX0_quotient 2 (some .int), Cond.methodLink RX0 41 yX1_restBy, Cond.instanceMethod yX1_restBy, Cond.selects RX1 yX1_restBy yX1_restBy, Cond.code yX1_restBy cX1_restBy 5 (some .int), Cond.methodLink RX0 27 yX1_divideBy, Cond.instanceMethod yX1_divideBy]
def wsL_ask_r5 : List Cond := [Cond.selects RX1 yX1_divideBy yX1_divideBy, Cond.code yX1_divideBy cX1_divideBy 5 none, Cond.methodLink RX0 45 yX1_times, Cond.methodLink RX0 48 yX1_plusTimes, Cond.methodLink RX4 135 yX0_decrease, Cond.instanceMethod yX0_decrease, Cond.selects RX0 yX0_decrease yX0_decrease, Cond.code yX0_decrease cX0_decrease 3 none, Cond.methodLink RX4 138 yX4_count, Cond.instanceMethod yX4_count, Cond.selects RX4 yX4_count yX4_count, Cond.code yX4_count cX4_count 5 (some .int), Cond.fieldLink RX4 13 "PrivateCounts" "rowCount" "I", Cond.fieldLink RX4 9 "PrivateCounts" "rows" "[I", Cond.methodLink RX4 142 yX3_nearestTo, Cond.instanceMethod yX3_nearestTo, Cond.selects RX3 yX3_nearestTo yX3_nearestTo, Cond.code yX3_nearestTo cX3_nearestTo 2 (some .int), Cond.fieldLink RX3 20 "PrivateCounts$Table" "low" "I", Cond.fieldLink RX3 23 "PrivateCounts$Table" "high" "I", Cond.methodLink RX4 94 yX3_outcomeOf, Cond.instanceMethod yX3_outcomeOf, Cond.selects RX3 yX3_outcomeOf yX3_outcomeOf, Cond.code yX3_outcomeOf cX3_outcomeOf 7 (some .int)]
def wsL_ask_r6 : List Cond := [Cond.methodLink RX3 38 yX3_weightOf, Cond.instanceMethod yX3_weightOf, Cond.selects RX3 yX3_weightOf yX3_weightOf, Cond.code yX3_weightOf cX3_weightOf 5 (some .long), Cond.fieldLink RX3 17 "PrivateCounts$Table" "b" "I", Cond.fieldLink RX3 13 "PrivateCounts$Table" "a" "I", Cond.methodLink RX3 34 yX3_holds, Cond.instanceMethod yX3_holds, Cond.selects RX3 yX3_holds yX3_holds, Cond.code yX3_holds cX3_holds 2 (some .boolean), Cond.methodLink RX3 26 yX3_power, Cond.static yX3_power, Cond.code yX3_power cX3_power 5 (some .long)]
def wsL_ask : List Cond := .codeWith yL_ask cL_ask 9 (some .int) [(0, 16, 19, 19)] :: ((wsL_ask_r1 ++ (wsL_ask_r2 ++ (wsL_ask_r3 ++ (wsL_ask_r4 ++ (wsL_ask_r5 ++ wsL_ask_r6))))) ++ wsX40 ++ wsX30 ++ wsX20 ++ wsX10 ++ wsX00 ++ (vx_atS RX4 68 "java/lang/IllegalArgumentException" ["java/lang/RuntimeException", "java/lang/Exception"]).filter goodWord)
def wsL_limb : List Cond := .codeWith yL_limb cL_limb 6 (some .int) [(0, 12, 15, 13)] :: ([.classLink RL 13 "java/lang/IndexOutOfBoundsException", .methodLink RL 46 yX4_limb, .instanceMethod yX4_limb, .selects RX4 yX4_limb yX4_limb, .initialized RX4, .code yX4_limb cX4_limb 6 (some .int), .classLink RX4 53 "java/lang/IndexOutOfBoundsException", .initialized "java/lang/IndexOutOfBoundsException", .fieldLink RX4 34 "PrivateCounts" "granted" "LPrivateCounts$Fraction;", .fieldLink RX4 38 "PrivateCounts" "spent" "LPrivateCounts$Fraction;", .fieldLink RX4 41 "PrivateCounts" "left" "LPrivateCounts$Fraction;", .fieldLink RX4 148 "PrivateCounts$Fraction" "numerator" "LPrivateCounts$Natural;", .fieldLink RX4 152 "PrivateCounts$Fraction" "denominator" "LPrivateCounts$Natural;", .fieldLink RX4 155 "PrivateCounts$Natural" "size" "I", .methodLink RX4 160 yX1_limbAt, .instanceMethod yX1_limbAt, .selects RX1 yX1_limbAt yX1_limbAt, .initialized RX1, .code yX1_limbAt cX1_limbAt 2 (some .int), .fieldLink RX1 13 "PrivateCounts$Natural" "size" "I", .fieldLink RX1 9 "PrivateCounts$Natural" "limbs" "[I"] ++ wsX40 ++ wsX00 ++ wsX10 ++ (vx_atS RX4 57 "java/lang/IndexOutOfBoundsException" ["java/lang/RuntimeException", "java/lang/Exception"]).filter goodWord)
def wsL_told : List Cond := .codeWith yL_told cL_told 4 (some .int) [(0, 9, 12, 13)] :: ([.classLink RL 13 "java/lang/IndexOutOfBoundsException", .methodLink RL 50 yX4_told, .instanceMethod yX4_told, .selects RX4 yX4_told yX4_told, .initialized RX4, .code yX4_told cX4_told 2 (some .int), .classLink RX4 53 "java/lang/IndexOutOfBoundsException", .initialized "java/lang/IndexOutOfBoundsException", .fieldLink RX4 44 "PrivateCounts" "answered" "I", .fieldLink RX4 47 "PrivateCounts" "refusedForCost" "I", .fieldLink RX4 50 "PrivateCounts" "refusedForBudget" "I", .fieldLink RX4 13 "PrivateCounts" "rowCount" "I", .fieldLink RX4 20 "PrivateCounts" "weights" "LPrivateCounts$Table;", .fieldLink RX4 163 "PrivateCounts$Table" "low" "I", .fieldLink RX4 166 "PrivateCounts$Table" "high" "I", .fieldLink RX4 169 "PrivateCounts$Table" "a" "I", .fieldLink RX4 172 "PrivateCounts$Table" "b" "I"] ++ wsX40 ++ wsX30 ++ (vx_atS RX4 57 "java/lang/IndexOutOfBoundsException" ["java/lang/RuntimeException", "java/lang/Exception"]).filter goodWord)
def wsL_law0_r1 : List Cond := [Cond.classLink RL 8 RX4, Cond.instantiable RX4 10, Cond.initialized RX4, Cond.classLink RL 54 RX5, Cond.instantiable RX5 16, Cond.initialized RX5, Cond.arrayClass .long, Cond.constantLong RL 94 (4294967295), Cond.methodLink RL 53 yX4_init, Cond.instanceMethod yX4_init, Cond.code yX4_init cX4_init 1 none, Cond.methodLink RX4 1 objectInit, Cond.instanceMethod objectInit, Cond.code objectInit ⟨#[0xb1]⟩ 1 none, Cond.arrayClass .int, Cond.fieldLink RX4 9 "PrivateCounts" "rows" "[I", Cond.fieldLink RX4 13 "PrivateCounts" "rowCount" "I", Cond.classLink RX4 17 RX3, Cond.instantiable RX3 5, Cond.initialized RX3, Cond.fieldLink RX4 20 "PrivateCounts" "weights" "LPrivateCounts$Table;", Cond.classLink RX4 24 RX2, Cond.instantiable RX2 2, Cond.initialized RX2]
def wsL_law0_r2 : List Cond := [Cond.fieldLink RX4 27 "PrivateCounts" "series" "LPrivateCounts$Series;", Cond.classLink RX4 31 RX0, Cond.instantiable RX0 2, Cond.initialized RX0, Cond.fieldLink RX4 34 "PrivateCounts" "granted" "LPrivateCounts$Fraction;", Cond.fieldLink RX4 38 "PrivateCounts" "spent" "LPrivateCounts$Fraction;", Cond.fieldLink RX4 41 "PrivateCounts" "left" "LPrivateCounts$Fraction;", Cond.fieldLink RX4 44 "PrivateCounts" "answered" "I", Cond.fieldLink RX4 47 "PrivateCounts" "refusedForCost" "I", Cond.fieldLink RX4 50 "PrivateCounts" "refusedForBudget" "I", Cond.methodLink RX4 19 yX3_init, Cond.instanceMethod yX3_init, Cond.code yX3_init cX3_init 1 none, Cond.methodLink RX3 1 objectInit, Cond.methodLink RX3 7 yX3_become, Cond.instanceMethod yX3_become, Cond.selects RX3 yX3_become yX3_become, Cond.code yX3_become cX3_become 5 none, Cond.fieldLink RX3 13 "PrivateCounts$Table" "a" "I", Cond.fieldLink RX3 17 "PrivateCounts$Table" "b" "I", Cond.fieldLink RX3 20 "PrivateCounts$Table" "low" "I", Cond.fieldLink RX3 23 "PrivateCounts$Table" "high" "I", Cond.fieldLink RX3 30 "PrivateCounts$Table" "total" "J", Cond.methodLink RX3 26 yX3_power]
def wsL_law0_r3 : List Cond := [Cond.static yX3_power, Cond.code yX3_power cX3_power 5 (some .long), Cond.instanceMethod yX2_init, Cond.code yX2_init cX2_init 1 none, Cond.methodLink RX2 1 objectInit, Cond.classLink RX2 7 RX1, Cond.instantiable RX1 2, Cond.initialized RX1, Cond.fieldLink RX2 10 "PrivateCounts$Series" "missing" "LPrivateCounts$Natural;", Cond.fieldLink RX2 16 "PrivateCounts$Series" "term" "LPrivateCounts$Natural;", Cond.instanceMethod yX1_init, Cond.code yX1_init cX1_init 1 none, Cond.methodLink RX1 1 objectInit, Cond.fieldLink RX1 9 "PrivateCounts$Natural" "limbs" "[I", Cond.fieldLink RX1 13 "PrivateCounts$Natural" "size" "I", Cond.methodLink RX4 33 yX0_init, Cond.instanceMethod yX0_init, Cond.code yX0_init cX0_init 1 none, Cond.methodLink RX0 1 objectInit, Cond.classLink RX0 7 RX1, Cond.fieldLink RX0 10 "PrivateCounts$Fraction" "numerator" "LPrivateCounts$Natural;", Cond.fieldLink RX0 16 "PrivateCounts$Fraction" "denominator" "LPrivateCounts$Natural;", Cond.methodLink RX0 19 yX1_become, Cond.instanceMethod yX1_become]
def wsL_law0_r4 : List Cond := [Cond.selects RX1 yX1_become yX1_become, Cond.code yX1_become cX1_become 2 none, Cond.methodLink RX1 17 yX1_append, Cond.instanceMethod yX1_append, Cond.selects RX1 yX1_append yX1_append, Cond.code yX1_append cX1_append 3 none, Cond.methodLink RL 56 yX5_init, Cond.instanceMethod yX5_init, Cond.code yX5_init cX5_init 2 none, Cond.methodLink RX5 1 objectInit, Cond.fieldLink RX5 7 "PrivateCountsModel" "row" "[I", Cond.fieldLink RX5 13 "PrivateCountsModel" "a" "I", Cond.fieldLink RX5 17 "PrivateCountsModel" "b" "I", Cond.fieldLink RX5 20 "PrivateCountsModel" "high" "I", Cond.fieldLink RX5 23 "PrivateCountsModel" "figure" "[J", Cond.fieldLink RX5 27 "PrivateCountsModel" "length" "[I", Cond.fieldLink RX5 30 "PrivateCountsModel" "top" "[J", Cond.fieldLink RX5 33 "PrivateCountsModel" "below" "[J", Cond.fieldLink RX5 36 "PrivateCountsModel" "term" "[I", Cond.fieldLink RX5 39 "PrivateCountsModel" "whole" "[I", Cond.methodLink RX5 42 yX5_put, Cond.instanceMethod yX5_put, Cond.selects RX5 yX5_put yX5_put, Cond.code yX5_put cX5_put 4 none]
def wsL_law0_r5 : List Cond := [Cond.constantLong RX5 49 (2147483647), Cond.methodLink RX5 51 yX5_trim, Cond.instanceMethod yX5_trim, Cond.selects RX5 yX5_trim yX5_trim, Cond.code yX5_trim cX5_trim 4 none, Cond.methodLink RL 57 yX4_add, Cond.instanceMethod yX4_add, Cond.selects RX4 yX4_add yX4_add, Cond.code yX4_add cX4_add 2 (some .int), Cond.methodLink RL 60 yX5_add, Cond.instanceMethod yX5_add, Cond.selects RX5 yX5_add yX5_add, Cond.code yX5_add cX5_add 2 (some .int), Cond.fieldLink RX5 46 "PrivateCountsModel" "thrown" "I", Cond.fieldLink RX5 98 "PrivateCountsModel" "rows" "I", Cond.methodLink RL 61 yL_remove, Cond.static yL_remove, Cond.initialized RL, Cond.codeWith yL_remove cL_remove 4 (some .int) [(0, 9, 12, 13)], Cond.classLink RL 13 "java/lang/IndexOutOfBoundsException", Cond.methodLink RL 7 yX4_remove, Cond.instanceMethod yX4_remove, Cond.selects RX4 yX4_remove yX4_remove, Cond.code yX4_remove cX4_remove 4 (some .int)]
def wsL_law0_r6 : List Cond := [Cond.classLink RX4 53 "java/lang/IndexOutOfBoundsException", Cond.initialized "java/lang/IndexOutOfBoundsException", Cond.methodLink RL 66 yX5_remove, Cond.instanceMethod yX5_remove, Cond.selects RX5 yX5_remove yX5_remove, Cond.code yX5_remove cX5_remove 4 (some .int), Cond.methodLink RL 67 yX5_thrown, Cond.instanceMethod yX5_thrown, Cond.selects RX5 yX5_thrown yX5_thrown, Cond.code yX5_thrown cX5_thrown 1 (some .int), Cond.methodLink RL 71 yX4_count, Cond.instanceMethod yX4_count, Cond.selects RX4 yX4_count yX4_count, Cond.code yX4_count cX4_count 5 (some .int), Cond.methodLink RL 75 yX5_count, Cond.instanceMethod yX5_count, Cond.selects RX5 yX5_count yX5_count, Cond.code yX5_count cX5_count 3 (some .int), Cond.methodLink RX5 101 yX5_countRows, Cond.instanceMethod yX5_countRows, Cond.selects RX5 yX5_countRows yX5_countRows, Cond.code yX5_countRows cX5_countRows 5 (some .int), Cond.methodLink RL 76 yL_table, Cond.static yL_table]
def wsL_law0_r7 : List Cond := [Cond.codeWith yL_table cL_table 7 (some .int) [(0, 13, 16, 19)], Cond.classLink RL 19 "java/lang/IllegalArgumentException", Cond.methodLink RL 15 yX4_table, Cond.instanceMethod yX4_table, Cond.selects RX4 yX4_table yX4_table, Cond.code yX4_table cX4_table 5 (some .long), Cond.classLink RX4 64 "java/lang/IllegalArgumentException", Cond.initialized "java/lang/IllegalArgumentException", Cond.fieldLink RX4 73 "PrivateCounts$Table" "total" "J", Cond.methodLink RX4 60 yX3_isAllowed, Cond.static yX3_isAllowed, Cond.code yX3_isAllowed cX3_isAllowed 4 (some .boolean), Cond.methodLink RX4 69 yX3_become, Cond.methodLink RL 79 yX5_table, Cond.instanceMethod yX5_table, Cond.selects RX5 yX5_table yX5_table, Cond.code yX5_table cX5_table 6 (some .long), Cond.fieldLink RX5 104 "PrivateCountsModel" "low" "I", Cond.methodLink RX5 111 yX5_allOf, Cond.instanceMethod yX5_allOf, Cond.selects RX5 yX5_allOf yX5_allOf, Cond.code yX5_allOf cX5_allOf 1 (some .long), Cond.methodLink RX5 107 yX5_power, Cond.static yX5_power]
def wsL_law0_r8 : List Cond := [Cond.code yX5_power cX5_power 6 (some .long), Cond.methodLink RL 80 yX4_all, Cond.instanceMethod yX4_all, Cond.selects RX4 yX4_all yX4_all, Cond.code yX4_all cX4_all 1 (some .long), Cond.methodLink RL 84 yX5_all, Cond.instanceMethod yX5_all, Cond.selects RX5 yX5_all yX5_all, Cond.code yX5_all cX5_all 1 (some .long), Cond.methodLink RL 85 yX4_weight, Cond.instanceMethod yX4_weight, Cond.selects RX4 yX4_weight yX4_weight, Cond.code yX4_weight cX4_weight 3 (some .long), Cond.methodLink RX4 77 yX3_weightOf, Cond.instanceMethod yX3_weightOf, Cond.selects RX3 yX3_weightOf yX3_weightOf, Cond.code yX3_weightOf cX3_weightOf 5 (some .long), Cond.methodLink RX3 34 yX3_holds, Cond.instanceMethod yX3_holds, Cond.selects RX3 yX3_holds yX3_holds, Cond.code yX3_holds cX3_holds 2 (some .boolean), Cond.methodLink RL 89 yX5_weight, Cond.instanceMethod yX5_weight, Cond.selects RX5 yX5_weight yX5_weight]
def wsL_law0_r9 : List Cond := [Cond.code yX5_weight cX5_weight 3 (some .long), Cond.methodLink RX5 119 yX5_weightOf, Cond.instanceMethod yX5_weightOf, Cond.selects RX5 yX5_weightOf yX5_weightOf, Cond.code yX5_weightOf cX5_weightOf 6 (some .long), Cond.methodLink RX5 115 yX5_isOut, Cond.instanceMethod yX5_isOut, Cond.selects RX5 yX5_isOut yX5_isOut, Cond.code yX5_isOut cX5_isOut 2 (some .boolean), Cond.methodLink RL 90 yX4_upTo, Cond.instanceMethod yX4_upTo, Cond.selects RX4 yX4_upTo yX4_upTo, Cond.code yX4_upTo cX4_upTo 3 (some .long), Cond.methodLink RX4 81 yX3_sumTo, Cond.instanceMethod yX3_sumTo, Cond.selects RX3 yX3_sumTo yX3_sumTo, Cond.code yX3_sumTo cX3_sumTo 6 (some .long), Cond.methodLink RX3 38 yX3_weightOf, Cond.methodLink RL 93 yX5_upTo, Cond.instanceMethod yX5_upTo, Cond.selects RX5 yX5_upTo yX5_upTo, Cond.code yX5_upTo cX5_upTo 6 (some .long), Cond.methodLink RL 96 yL_draw, Cond.static yL_draw]
def wsL_law0_r10 : List Cond := [Cond.codeWith yL_draw cL_draw 6 (some .int) [(0, 11, 14, 19)], Cond.methodLink RL 21 yX4_draw, Cond.instanceMethod yX4_draw, Cond.selects RX4 yX4_draw yX4_draw, Cond.code yX4_draw cX4_draw 4 (some .int), Cond.methodLink RX4 84 yX3_holds, Cond.methodLink RX4 88 yX3_hasCoin, Cond.instanceMethod yX3_hasCoin, Cond.selects RX3 yX3_hasCoin yX3_hasCoin, Cond.code yX3_hasCoin cX3_hasCoin 3 (some .boolean), Cond.methodLink RX4 94 yX3_outcomeOf, Cond.instanceMethod yX3_outcomeOf, Cond.selects RX3 yX3_outcomeOf yX3_outcomeOf, Cond.code yX3_outcomeOf cX3_outcomeOf 7 (some .int), Cond.methodLink RL 99 yX5_draw, Cond.instanceMethod yX5_draw, Cond.selects RX5 yX5_draw yX5_draw, Cond.code yX5_draw cX5_draw 4 (some .int), Cond.methodLink RX5 122 yX5_noCoin, Cond.instanceMethod yX5_noCoin, Cond.selects RX5 yX5_noCoin yX5_noCoin, Cond.code yX5_noCoin cX5_noCoin 3 (some .boolean), Cond.methodLink RX5 126 yX5_drawn, Cond.instanceMethod yX5_drawn]
def wsL_law0_r11 : List Cond := [Cond.selects RX5 yX5_drawn yX5_drawn, Cond.code yX5_drawn cX5_drawn 7 (some .int), Cond.methodLink RL 100 yL_isNear, Cond.static yL_isNear, Cond.codeWith yL_isNear cL_isNear 5 (some .int) [(0, 17, 20, 19)], Cond.methodLink RL 25 yX4_isNear, Cond.instanceMethod yX4_isNear, Cond.selects RX4 yX4_isNear yX4_isNear, Cond.code yX4_isNear cX4_isNear 3 (some .boolean), Cond.methodLink RX4 100 yX3_isWithinRatio, Cond.instanceMethod yX3_isWithinRatio, Cond.selects RX3 yX3_isWithinRatio yX3_isWithinRatio, Cond.code yX3_isWithinRatio cX3_isWithinRatio 4 (some .boolean), Cond.methodLink RL 103 yX5_isNear, Cond.instanceMethod yX5_isNear, Cond.selects RX5 yX5_isNear yX5_isNear, Cond.code yX5_isNear cX5_isNear 5 (some .boolean), Cond.methodLink RL 104 yL_budget, Cond.static yL_budget, Cond.codeWith yL_budget cL_budget 4 (some .int) [(0, 6, 9, 19)], Cond.methodLink RL 29 yX4_budget, Cond.instanceMethod yX4_budget, Cond.selects RX4 yX4_budget yX4_budget, Cond.code yX4_budget cX4_budget 3 none]
def wsL_law0_r12 : List Cond := [Cond.methodLink RX4 104 yX4_isGrant, Cond.static yX4_isGrant, Cond.code yX4_isGrant cX4_isGrant 2 (some .boolean), Cond.methodLink RX4 124 yX4_isDenominator, Cond.static yX4_isDenominator, Cond.code yX4_isDenominator cX4_isDenominator 1 (some .boolean), Cond.methodLink RX4 109 yX0_become, Cond.instanceMethod yX0_become, Cond.selects RX0 yX0_become yX0_become, Cond.code yX0_become cX0_become 4 none, Cond.methodLink RX0 23 yX0_commonDivisor, Cond.static yX0_commonDivisor, Cond.code yX0_commonDivisor cX0_commonDivisor 6 (some .int), Cond.methodLink RX0 27 yX1_divideBy, Cond.instanceMethod yX1_divideBy, Cond.selects RX1 yX1_divideBy yX1_divideBy, Cond.code yX1_divideBy cX1_divideBy 5 none, Cond.methodLink RX1 23 yX1_trim, Cond.instanceMethod yX1_trim, Cond.selects RX1 yX1_trim yX1_trim, Cond.code yX1_trim cX1_trim 1 none, Cond.methodLink RX1 26 yX1_limbAt, Cond.instanceMethod yX1_limbAt, Cond.selects RX1 yX1_limbAt yX1_limbAt]
def wsL_law0_r13 : List Cond := [Cond.code yX1_limbAt cX1_limbAt 2 (some .int), Cond.methodLink RL 107 yX5_budget, Cond.instanceMethod yX5_budget, Cond.selects RX5 yX5_budget yX5_budget, Cond.code yX5_budget cX5_budget 3 none, Cond.fieldLink RX5 152 "PrivateCountsModel" "answered" "I", Cond.fieldLink RX5 155 "PrivateCountsModel" "tooLittle" "I", Cond.fieldLink RX5 158 "PrivateCountsModel" "tooMuch" "I", Cond.methodLink RX5 146 yX5_noPart, Cond.static yX5_noPart, Cond.code yX5_noPart cX5_noPart 2 (some .boolean), Cond.methodLink RX5 149 yX5_set, Cond.instanceMethod yX5_set, Cond.selects RX5 yX5_set yX5_set, Cond.code yX5_set cX5_set 4 none, Cond.methodLink RX5 89 yX5_lowest, Cond.instanceMethod yX5_lowest, Cond.selects RX5 yX5_lowest yX5_lowest, Cond.code yX5_lowest cX5_lowest 4 none, Cond.methodLink RX5 82 yX5_divisor, Cond.instanceMethod yX5_divisor, Cond.selects RX5 yX5_divisor yX5_divisor, Cond.code yX5_divisor cX5_divisor 5 none, Cond.constantLong RX5 65 (2)]
def wsL_law0_r14 : List Cond := [Cond.methodLink RX5 62 yX5_copy, Cond.instanceMethod yX5_copy, Cond.selects RX5 yX5_copy yX5_copy, Cond.code yX5_copy cX5_copy 4 none, Cond.methodLink RX5 67 yX5_halve, Cond.instanceMethod yX5_halve, Cond.selects RX5 yX5_halve yX5_halve, Cond.code yX5_halve cX5_halve 7 none, Cond.methodLink RX5 71 yX5_compare, Cond.instanceMethod yX5_compare, Cond.selects RX5 yX5_compare yX5_compare, Cond.code yX5_compare cX5_compare 7 (some .int), Cond.methodLink RX5 55 yX5_figureOf, Cond.instanceMethod yX5_figureOf, Cond.selects RX5 yX5_figureOf yX5_figureOf, Cond.code yX5_figureOf cX5_figureOf 3 (some .long), Cond.methodLink RX5 75 yX5_minus, Cond.instanceMethod yX5_minus, Cond.selects RX5 yX5_minus yX5_minus, Cond.code yX5_minus cX5_minus 10 none, Cond.methodLink RX5 59 yX5_take, Cond.instanceMethod yX5_take, Cond.selects RX5 yX5_take yX5_take, Cond.code yX5_take cX5_take 4 none]
def wsL_law0_r15 : List Cond := [Cond.methodLink RX5 79 yX5_plus, Cond.instanceMethod yX5_plus, Cond.selects RX5 yX5_plus yX5_plus, Cond.code yX5_plus cX5_plus 10 none, Cond.methodLink RX5 85 yX5_divide, Cond.instanceMethod yX5_divide, Cond.selects RX5 yX5_divide yX5_divide, Cond.code yX5_divide cX5_divide 17 none, Cond.methodLink RL 108 yL_raise, Cond.static yL_raise, Cond.codeWith yL_raise cL_raise 4 (some .int) [(0, 6, 9, 19)], Cond.methodLink RL 33 yX4_raise, Cond.instanceMethod yX4_raise, Cond.selects RX4 yX4_raise yX4_raise, Cond.code yX4_raise cX4_raise 3 none, Cond.methodLink RX4 112 yX0_increase, Cond.instanceMethod yX0_increase, Cond.selects RX0 yX0_increase yX0_increase, Cond.code yX0_increase cX0_increase 3 none, Cond.methodLink RX0 30 yX0_change, Cond.instanceMethod yX0_change, Cond.selects RX0 yX0_change yX0_change, Cond.code yX0_change cX0_change 9 none, Cond.methodLink RX0 38 yX0_quotient]
def wsL_law0_r16 : List Cond := [Cond.static yX0_quotient, Cond.code yX0_quotient cX0_quotient 2 (some .int), Cond.methodLink RX0 41 yX1_restBy, Cond.instanceMethod yX1_restBy, Cond.selects RX1 yX1_restBy yX1_restBy, Cond.code yX1_restBy cX1_restBy 5 (some .int), Cond.methodLink RX0 45 yX1_times, Cond.instanceMethod yX1_times, Cond.selects RX1 yX1_times yX1_times, Cond.code yX1_times cX1_times 5 none, Cond.constantLong RX1 21 (2147483647), Cond.methodLink RX0 48 yX1_plusTimes, Cond.instanceMethod yX1_plusTimes, Cond.selects RX1 yX1_plusTimes yX1_plusTimes, Cond.code yX1_plusTimes cX1_plusTimes 7 none, Cond.methodLink RL 110 yX5_raise, Cond.instanceMethod yX5_raise, Cond.selects RX5 yX5_raise yX5_raise, Cond.code yX5_raise cX5_raise 3 none, Cond.methodLink RX5 161 yX5_add0, Cond.instanceMethod yX5_add0, Cond.selects RX5 yX5_add0 yX5_add0, Cond.code yX5_add0 cX5_add0 4 none, Cond.methodLink RX5 95 yX5_cross]
def wsL_law0_r17 : List Cond := [Cond.instanceMethod yX5_cross, Cond.selects RX5 yX5_cross yX5_cross, Cond.code yX5_cross cX5_cross 3 none, Cond.methodLink RX5 92 yX5_times, Cond.instanceMethod yX5_times, Cond.selects RX5 yX5_times yX5_times, Cond.code yX5_times cX5_times 11 none, Cond.methodLink RL 111 yL_isEnough, Cond.static yL_isEnough, Cond.codeWith yL_isEnough cL_isEnough 5 (some .int) [(0, 17, 20, 19)], Cond.methodLink RL 36 yX4_isEnough, Cond.instanceMethod yX4_isEnough, Cond.selects RX4 yX4_isEnough yX4_isEnough, Cond.code yX4_isEnough cX4_isEnough 3 (some .boolean), Cond.methodLink RX4 115 yX4_isCost, Cond.static yX4_isCost, Cond.code yX4_isCost cX4_isCost 2 (some .boolean), Cond.methodLink RX4 120 yX2_reaches, Cond.instanceMethod yX2_reaches, Cond.selects RX2 yX2_reaches yX2_reaches, Cond.code yX2_reaches cX2_reaches 6 (some .boolean), Cond.fieldLink RX2 19 "PrivateCounts$Table" "b" "I", Cond.fieldLink RX2 25 "PrivateCounts$Table" "a" "I", Cond.methodLink RX2 28 yX1_become]
def wsL_law0_r18 : List Cond := [Cond.methodLink RX2 32 yX1_times, Cond.methodLink RX2 35 yX1_isLess, Cond.static yX1_isLess, Cond.code yX1_isLess cX1_isLess 8 (some .boolean), Cond.methodLink RX2 39 yX1_plusTimes, Cond.methodLink RL 113 yX5_isEnough, Cond.instanceMethod yX5_isEnough, Cond.selects RX5 yX5_isEnough yX5_isEnough, Cond.code yX5_isEnough cX5_isEnough 3 (some .boolean), Cond.methodLink RX5 139 yX5_noCost, Cond.static yX5_noCost, Cond.code yX5_noCost cX5_noCost 2 (some .boolean), Cond.methodLink RX5 143 yX5_enough, Cond.instanceMethod yX5_enough, Cond.selects RX5 yX5_enough yX5_enough, Cond.code yX5_enough cX5_enough 13 (some .boolean), Cond.constant RX5 132 (65535), Cond.constantLong RX5 130 (65535), Cond.constantLong RX5 133 (65536), Cond.methodLink RX5 135 yX5_reaches, Cond.instanceMethod yX5_reaches, Cond.selects RX5 yX5_reaches yX5_reaches, Cond.code yX5_reaches cX5_reaches 8 (some .boolean), Cond.methodLink RL 114 yL_least]
def wsL_law0_r19 : List Cond := [Cond.static yL_least, Cond.codeWith yL_least cL_least 4 (some .int) [(0, 9, 12, 19)], Cond.methodLink RL 39 yX4_least, Cond.instanceMethod yX4_least, Cond.selects RX4 yX4_least yX4_least, Cond.code yX4_least cX4_least 6 (some .int), Cond.methodLink RL 116 yX5_least, Cond.instanceMethod yX5_least, Cond.selects RX5 yX5_least yX5_least, Cond.code yX5_least cX5_least 6 (some .int), Cond.methodLink RL 117 yL_ask, Cond.static yL_ask, Cond.codeWith yL_ask cL_ask 9 (some .int) [(0, 16, 19, 19)], Cond.methodLink RL 42 yX4_ask, Cond.instanceMethod yX4_ask, Cond.selects RX4 yX4_ask yX4_ask, Cond.code yX4_ask cX4_ask 7 (some .int), Cond.constant RX4 131 (-2147483648), Cond.methodLink RX4 132 yX0_isLessThan, Cond.instanceMethod yX0_isLessThan, Cond.selects RX0 yX0_isLessThan yX0_isLessThan, Cond.code yX0_isLessThan cX0_isLessThan 3 (some .boolean), Cond.methodLink RX0 34 yX1_isLess, Cond.methodLink RX4 135 yX0_decrease]
def wsL_law0_r20 : List Cond := [Cond.instanceMethod yX0_decrease, Cond.selects RX0 yX0_decrease yX0_decrease, Cond.code yX0_decrease cX0_decrease 3 none, Cond.methodLink RX4 138 yX4_count, Cond.methodLink RX4 142 yX3_nearestTo, Cond.instanceMethod yX3_nearestTo, Cond.selects RX3 yX3_nearestTo yX3_nearestTo, Cond.code yX3_nearestTo cX3_nearestTo 2 (some .int), Cond.methodLink RL 120 yX5_ask, Cond.instanceMethod yX5_ask, Cond.selects RX5 yX5_ask yX5_ask, Cond.code yX5_ask cX5_ask 8 (some .int), Cond.constant RX5 164 (-2147483648), Cond.methodLink RX5 165 yX5_isMore, Cond.instanceMethod yX5_isMore, Cond.selects RX5 yX5_isMore yX5_isMore, Cond.code yX5_isMore cX5_isMore 3 (some .boolean), Cond.methodLink RL 121 yL_limb, Cond.static yL_limb, Cond.codeWith yL_limb cL_limb 6 (some .int) [(0, 12, 15, 13)], Cond.methodLink RL 46 yX4_limb, Cond.instanceMethod yX4_limb, Cond.selects RX4 yX4_limb yX4_limb, Cond.code yX4_limb cX4_limb 6 (some .int)]
def wsL_law0_r21 : List Cond := [Cond.fieldLink RX4 148 "PrivateCounts$Fraction" "numerator" "LPrivateCounts$Natural;", Cond.fieldLink RX4 152 "PrivateCounts$Fraction" "denominator" "LPrivateCounts$Natural;", Cond.fieldLink RX4 155 "PrivateCounts$Natural" "size" "I", Cond.methodLink RX4 160 yX1_limbAt, Cond.methodLink RL 124 yX5_limb, Cond.instanceMethod yX5_limb, Cond.selects RX5 yX5_limb yX5_limb, Cond.code yX5_limb cX5_limb 5 (some .int), Cond.methodLink RX5 168 yX5_subtract, Cond.instanceMethod yX5_subtract, Cond.selects RX5 yX5_subtract yX5_subtract, Cond.code yX5_subtract cX5_subtract 4 none, Cond.methodLink RL 125 yL_told, Cond.static yL_told, Cond.codeWith yL_told cL_told 4 (some .int) [(0, 9, 12, 13)], Cond.methodLink RL 50 yX4_told, Cond.instanceMethod yX4_told, Cond.selects RX4 yX4_told yX4_told, Cond.code yX4_told cX4_told 2 (some .int), Cond.fieldLink RX4 163 "PrivateCounts$Table" "low" "I", Cond.fieldLink RX4 166 "PrivateCounts$Table" "high" "I", Cond.fieldLink RX4 169 "PrivateCounts$Table" "a" "I", Cond.fieldLink RX4 172 "PrivateCounts$Table" "b" "I", Cond.methodLink RL 127 yX5_told]
def wsL_law0_r22 : List Cond := [Cond.instanceMethod yX5_told, Cond.selects RX5 yX5_told yX5_told, Cond.code yX5_told cX5_told 2 (some .int)]
def wsL_law0 : List Cond := (wsL_law0_r1 ++ (wsL_law0_r2 ++ (wsL_law0_r3 ++ (wsL_law0_r4 ++ (wsL_law0_r5 ++ (wsL_law0_r6 ++ (wsL_law0_r7 ++ (wsL_law0_r8 ++ (wsL_law0_r9 ++ (wsL_law0_r10 ++ (wsL_law0_r11 ++ (wsL_law0_r12 ++ (wsL_law0_r13 ++ (wsL_law0_r14 ++ (wsL_law0_r15 ++ (wsL_law0_r16 ++ (wsL_law0_r17 ++ (wsL_law0_r18 ++ (wsL_law0_r19 ++ (wsL_law0_r20 ++ (wsL_law0_r21 ++ wsL_law0_r22))))))))))))))))))))) ++ wsX40 ++ wsX50 ++ wsX30 ++ wsX20 ++ wsX00 ++ wsX10 ++ ([] : List Cond)
def wsL_law : List Cond := wsL_law0 ++ (vx_atS RX4 57 "java/lang/IndexOutOfBoundsException" ["java/lang/RuntimeException", "java/lang/Exception"]).filter goodWord ++ (vx_atS RX4 68 "java/lang/IllegalArgumentException" ["java/lang/RuntimeException", "java/lang/Exception"]).filter goodWord
abbrev vwCl : List vw_C := [(RX0, TX0, 2), (RX1, TX1, 2), (RX2, TX2, 2), (RX3, TX3, 5), (RX4, TX4, 10), (RX5, TX5, 16)]
end
section
set_option maxRecDepth 20000 in
theorem ggX0_init_X1_init : GoodIn wsX0_init wsX1_init := goodIn_r _ [10, 11, 2, 3, 12, 13, 14, 23, 24] (by decide +kernel) (by decide +kernel)
set_option maxRecDepth 20000 in
theorem gX0_init_X1_init_n9 : GoodIn wsX0_init (wsX1_init) := ggX0_init_X1_init
set_option maxRecDepth 20000 in
theorem ggX0_init_X1_become : GoodIn wsX0_init wsX1_become := goodIn_r _ [18, 14, 19, 20, 21, 6, 22, 13, 23, 24] (by decide +kernel) (by decide +kernel)
set_option maxRecDepth 20000 in
theorem gX0_init_X1_become : GoodIn wsX0_init (wsV RX0 19 RX1 yX1_become wsX1_become) := goodIn_app (goodIn_of _ (by decide +kernel)) ggX0_init_X1_become
theorem dX0_init_0 : decode cX0_init 0 = .ok (.aload_n 0, 1) := by decide +kernel
theorem dX0_init_1 : decode cX0_init 1 = .ok (.invokespecial 1, 3) := by decide +kernel
theorem dX0_init_4 : decode cX0_init 4 = .ok (.aload_n 0, 1) := by decide +kernel
theorem dX0_init_5 : decode cX0_init 5 = .ok (.new 7, 3) := by decide +kernel
theorem dX0_init_8 : decode cX0_init 8 = .ok (.dup, 1) := by decide +kernel
theorem dX0_init_9 : decode cX0_init 9 = .ok (.invokespecial 9, 3) := by decide +kernel
theorem dX0_init_12 : decode cX0_init 12 = .ok (.putfield 10, 3) := by decide +kernel
theorem dX0_init_15 : decode cX0_init 15 = .ok (.aload_n 0, 1) := by decide +kernel
theorem dX0_init_16 : decode cX0_init 16 = .ok (.new 7, 3) := by decide +kernel
theorem dX0_init_19 : decode cX0_init 19 = .ok (.dup, 1) := by decide +kernel
theorem dX0_init_20 : decode cX0_init 20 = .ok (.invokespecial 9, 3) := by decide +kernel
theorem dX0_init_23 : decode cX0_init 23 = .ok (.putfield 16, 3) := by decide +kernel
theorem dX0_init_26 : decode cX0_init 26 = .ok (.aload_n 0, 1) := by decide +kernel
theorem dX0_init_27 : decode cX0_init 27 = .ok (.getfield 16, 3) := by decide +kernel
theorem dX0_init_30 : decode cX0_init 30 = .ok (.iconst 1, 1) := by decide +kernel
theorem dX0_init_31 : decode cX0_init 31 = .ok (.invokevirtual 19, 3) := by decide +kernel
theorem dX0_init_34 : decode cX0_init 34 = .ok (.return_, 1) := by decide +kernel
set_option maxRecDepth 20000 in
theorem ggX0_become_X0_commonDivisor : GoodIn wsX0_become wsX0_commonDivisor := goodIn_r _ [6] (by decide +kernel) (by decide +kernel)
set_option maxRecDepth 20000 in
theorem gX0_become_X0_commonDivisor : GoodIn wsX0_become (va_wsS RX0 23 yX0_commonDivisor wsX0_commonDivisor) := goodIn_app (goodIn_of _ (by decide +kernel)) ggX0_become_X0_commonDivisor
set_option maxRecDepth 20000 in
theorem ggX0_become_X1_become : GoodIn wsX0_become wsX1_become := goodIn_r _ [11, 12, 13, 14, 15, 10, 16, 17, 32, 33] (by decide +kernel) (by decide +kernel)
set_option maxRecDepth 20000 in
theorem gX0_become_X1_become : GoodIn wsX0_become (wsV RX0 19 RX1 yX1_become wsX1_become) := goodIn_app (goodIn_of _ (by decide +kernel)) ggX0_become_X1_become
set_option maxRecDepth 20000 in
theorem ggX0_become_X1_divideBy : GoodIn wsX0_become wsX1_divideBy := goodIn_r _ [21, 12, 17, 22, 23, 24, 10, 25, 26, 27, 28, 29, 32, 33] (by decide +kernel) (by decide +kernel)
set_option maxRecDepth 20000 in
theorem gX0_become_X1_divideBy : GoodIn wsX0_become (wsV RX0 27 RX1 yX1_divideBy wsX1_divideBy) := goodIn_app (goodIn_of _ (by decide +kernel)) ggX0_become_X1_divideBy
theorem dX0_become_0 : decode cX0_become 0 = .ok (.iload_n 1, 1) := by decide +kernel
theorem dX0_become_1 : decode cX0_become 1 = .ok (.iload_n 2, 1) := by decide +kernel
theorem dX0_become_2 : decode cX0_become 2 = .ok (.invokestatic 23, 3) := by decide +kernel
theorem dX0_become_5 : decode cX0_become 5 = .ok (.istore_n 3, 1) := by decide +kernel
theorem dX0_become_6 : decode cX0_become 6 = .ok (.aload_n 0, 1) := by decide +kernel
theorem dX0_become_7 : decode cX0_become 7 = .ok (.getfield 10, 3) := by decide +kernel
theorem dX0_become_10 : decode cX0_become 10 = .ok (.iload_n 1, 1) := by decide +kernel
theorem dX0_become_11 : decode cX0_become 11 = .ok (.invokevirtual 19, 3) := by decide +kernel
theorem dX0_become_14 : decode cX0_become 14 = .ok (.aload_n 0, 1) := by decide +kernel
theorem dX0_become_15 : decode cX0_become 15 = .ok (.getfield 10, 3) := by decide +kernel
theorem dX0_become_18 : decode cX0_become 18 = .ok (.iload_n 3, 1) := by decide +kernel
theorem dX0_become_19 : decode cX0_become 19 = .ok (.invokevirtual 27, 3) := by decide +kernel
theorem dX0_become_22 : decode cX0_become 22 = .ok (.aload_n 0, 1) := by decide +kernel
theorem dX0_become_23 : decode cX0_become 23 = .ok (.getfield 16, 3) := by decide +kernel
theorem dX0_become_26 : decode cX0_become 26 = .ok (.iload_n 2, 1) := by decide +kernel
theorem dX0_become_27 : decode cX0_become 27 = .ok (.invokevirtual 19, 3) := by decide +kernel
theorem dX0_become_30 : decode cX0_become 30 = .ok (.aload_n 0, 1) := by decide +kernel
theorem dX0_become_31 : decode cX0_become 31 = .ok (.getfield 16, 3) := by decide +kernel
theorem dX0_become_34 : decode cX0_become 34 = .ok (.iload_n 3, 1) := by decide +kernel
theorem dX0_become_35 : decode cX0_become 35 = .ok (.invokevirtual 27, 3) := by decide +kernel
theorem dX0_become_38 : decode cX0_become 38 = .ok (.return_, 1) := by decide +kernel
set_option maxRecDepth 20000 in
theorem ggX0_increase_X0_change : GoodIn wsX0_increase wsX0_change := goodIn_r _ [5, 6, 7, 8, 9, 4, 10, 11, 12, 13, 14, 15, 16, 17, 18, 19, 20, 21, 22, 23, 24, 25, 26, 27, 28, 29, 30, 31, 32, 33, 34, 35, 36, 37, 38, 39, 40, 41, 42, 43, 44, 45, 46, 47, 48, 49] (by decide +kernel) (by decide +kernel)
set_option maxRecDepth 20000 in
theorem gX0_increase_X0_change : GoodIn wsX0_increase (wsV RX0 30 RX0 yX0_change wsX0_change) := goodIn_app (goodIn_of _ (by decide +kernel)) ggX0_increase_X0_change
theorem dX0_increase_0 : decode cX0_increase 0 = .ok (.aload_n 0, 1) := by decide +kernel
theorem dX0_increase_1 : decode cX0_increase 1 = .ok (.iload_n 1, 1) := by decide +kernel
theorem dX0_increase_2 : decode cX0_increase 2 = .ok (.iload_n 2, 1) := by decide +kernel
theorem dX0_increase_3 : decode cX0_increase 3 = .ok (.iconst 1, 1) := by decide +kernel
theorem dX0_increase_4 : decode cX0_increase 4 = .ok (.invokevirtual 30, 3) := by decide +kernel
theorem dX0_increase_7 : decode cX0_increase 7 = .ok (.return_, 1) := by decide +kernel
set_option maxRecDepth 20000 in
theorem ggX0_decrease_X0_change : GoodIn wsX0_decrease wsX0_change := goodIn_r _ [5, 6, 7, 8, 9, 4, 10, 11, 12, 13, 14, 15, 16, 17, 18, 19, 20, 21, 22, 23, 24, 25, 26, 27, 28, 29, 30, 31, 32, 33, 34, 35, 36, 37, 38, 39, 40, 41, 42, 43, 44, 45, 46, 47, 48, 49] (by decide +kernel) (by decide +kernel)
set_option maxRecDepth 20000 in
theorem gX0_decrease_X0_change : GoodIn wsX0_decrease (wsV RX0 30 RX0 yX0_change wsX0_change) := goodIn_app (goodIn_of _ (by decide +kernel)) ggX0_decrease_X0_change
theorem dX0_decrease_0 : decode cX0_decrease 0 = .ok (.aload_n 0, 1) := by decide +kernel
theorem dX0_decrease_1 : decode cX0_decrease 1 = .ok (.iload_n 1, 1) := by decide +kernel
theorem dX0_decrease_2 : decode cX0_decrease 2 = .ok (.iload_n 2, 1) := by decide +kernel
theorem dX0_decrease_3 : decode cX0_decrease 3 = .ok (.iconst (-1), 1) := by decide +kernel
theorem dX0_decrease_4 : decode cX0_decrease 4 = .ok (.invokevirtual 30, 3) := by decide +kernel
theorem dX0_decrease_7 : decode cX0_decrease 7 = .ok (.return_, 1) := by decide +kernel
set_option maxRecDepth 20000 in
theorem ggX0_isLessThan_X1_isLess : GoodIn wsX0_isLessThan wsX1_isLess := goodIn_r _ [6, 7, 8, 9, 10, 5, 11, 12, 15, 16] (by decide +kernel) (by decide +kernel)
set_option maxRecDepth 20000 in
theorem gX0_isLessThan_X1_isLess : GoodIn wsX0_isLessThan (va_wsS RX0 34 yX1_isLess wsX1_isLess) := goodIn_app (goodIn_of _ (by decide +kernel)) ggX0_isLessThan_X1_isLess
theorem dX0_isLessThan_0 : decode cX0_isLessThan 0 = .ok (.aload_n 0, 1) := by decide +kernel
theorem dX0_isLessThan_1 : decode cX0_isLessThan 1 = .ok (.getfield 10, 3) := by decide +kernel
theorem dX0_isLessThan_4 : decode cX0_isLessThan 4 = .ok (.iload_n 2, 1) := by decide +kernel
theorem dX0_isLessThan_5 : decode cX0_isLessThan 5 = .ok (.aload_n 0, 1) := by decide +kernel
theorem dX0_isLessThan_6 : decode cX0_isLessThan 6 = .ok (.getfield 16, 3) := by decide +kernel
theorem dX0_isLessThan_9 : decode cX0_isLessThan 9 = .ok (.iload_n 1, 1) := by decide +kernel
theorem dX0_isLessThan_10 : decode cX0_isLessThan 10 = .ok (.invokestatic 34, 3) := by decide +kernel
theorem dX0_isLessThan_13 : decode cX0_isLessThan 13 = .ok (.ireturn, 1) := by decide +kernel
set_option maxRecDepth 20000 in
theorem ggX0_change_X0_commonDivisor : GoodIn wsX0_change wsX0_commonDivisor := goodIn_r _ [6] (by decide +kernel) (by decide +kernel)
set_option maxRecDepth 20000 in
theorem gX0_change_X0_commonDivisor : GoodIn wsX0_change (va_wsS RX0 23 yX0_commonDivisor wsX0_commonDivisor) := goodIn_app (goodIn_of _ (by decide +kernel)) ggX0_change_X0_commonDivisor
set_option maxRecDepth 20000 in
theorem ggX0_change_X0_quotient : GoodIn wsX0_change wsX0_quotient := goodIn_r _ [9] (by decide +kernel) (by decide +kernel)
set_option maxRecDepth 20000 in
theorem gX0_change_X0_quotient : GoodIn wsX0_change (va_wsS RX0 38 yX0_quotient wsX0_quotient) := goodIn_app (goodIn_of _ (by decide +kernel)) ggX0_change_X0_quotient
set_option maxRecDepth 20000 in
theorem ggX0_change_X1_restBy : GoodIn wsX0_change wsX1_restBy := goodIn_r _ [14, 15, 16, 17, 18, 13, 19, 20, 44, 45] (by decide +kernel) (by decide +kernel)
set_option maxRecDepth 20000 in
theorem gX0_change_X1_restBy : GoodIn wsX0_change (wsV RX0 41 RX1 yX1_restBy wsX1_restBy) := goodIn_app (goodIn_of _ (by decide +kernel)) ggX0_change_X1_restBy
set_option maxRecDepth 20000 in
theorem ggX0_change_X1_divideBy : GoodIn wsX0_change wsX1_divideBy := goodIn_r _ [24, 15, 20, 25, 26, 27, 13, 28, 16, 17, 18, 19, 44, 45] (by decide +kernel) (by decide +kernel)
set_option maxRecDepth 20000 in
theorem gX0_change_X1_divideBy : GoodIn wsX0_change (wsV RX0 27 RX1 yX1_divideBy wsX1_divideBy) := goodIn_app (goodIn_of _ (by decide +kernel)) ggX0_change_X1_divideBy
set_option maxRecDepth 20000 in
theorem ggX0_change_X1_times : GoodIn wsX0_change wsX1_times := goodIn_r _ [32, 15, 20, 33, 34, 35, 36, 13, 37, 25, 26, 27, 28, 16, 17, 18, 19, 44, 45] (by decide +kernel) (by decide +kernel)
set_option maxRecDepth 20000 in
theorem gX0_change_X1_times : GoodIn wsX0_change (wsV RX0 45 RX1 yX1_times wsX1_times) := goodIn_app (goodIn_of _ (by decide +kernel)) ggX0_change_X1_times
set_option maxRecDepth 20000 in
theorem ggX0_change_X1_plusTimes : GoodIn wsX0_change wsX1_plusTimes := goodIn_r _ [41, 15, 20, 33, 16, 17, 18, 13, 19, 34, 35, 36, 37, 25, 26, 27, 28, 44, 45] (by decide +kernel) (by decide +kernel)
set_option maxRecDepth 20000 in
theorem gX0_change_X1_plusTimes : GoodIn wsX0_change (wsV RX0 48 RX1 yX1_plusTimes wsX1_plusTimes) := goodIn_app (goodIn_of _ (by decide +kernel)) ggX0_change_X1_plusTimes
theorem dX0_change_0 : decode cX0_change 0 = .ok (.iload_n 1, 1) := by decide +kernel
theorem dX0_change_1 : decode cX0_change 1 = .ok (.iload_n 2, 1) := by decide +kernel
theorem dX0_change_2 : decode cX0_change 2 = .ok (.invokestatic 23, 3) := by decide +kernel
theorem dX0_change_5 : decode cX0_change 5 = .ok (.istore 4, 2) := by decide +kernel
theorem dX0_change_7 : decode cX0_change 7 = .ok (.iload_n 1, 1) := by decide +kernel
theorem dX0_change_8 : decode cX0_change 8 = .ok (.iload 4, 2) := by decide +kernel
theorem dX0_change_10 : decode cX0_change 10 = .ok (.invokestatic 38, 3) := by decide +kernel
theorem dX0_change_13 : decode cX0_change 13 = .ok (.istore 5, 2) := by decide +kernel
theorem dX0_change_15 : decode cX0_change 15 = .ok (.iload_n 2, 1) := by decide +kernel
theorem dX0_change_16 : decode cX0_change 16 = .ok (.iload 4, 2) := by decide +kernel
theorem dX0_change_18 : decode cX0_change 18 = .ok (.invokestatic 38, 3) := by decide +kernel
theorem dX0_change_21 : decode cX0_change 21 = .ok (.istore 6, 2) := by decide +kernel
theorem dX0_change_23 : decode cX0_change 23 = .ok (.aload_n 0, 1) := by decide +kernel
theorem dX0_change_24 : decode cX0_change 24 = .ok (.getfield 16, 3) := by decide +kernel
theorem dX0_change_27 : decode cX0_change 27 = .ok (.iload 6, 2) := by decide +kernel
theorem dX0_change_29 : decode cX0_change 29 = .ok (.invokevirtual 41, 3) := by decide +kernel
theorem dX0_change_32 : decode cX0_change 32 = .ok (.iload 6, 2) := by decide +kernel
theorem dX0_change_34 : decode cX0_change 34 = .ok (.invokestatic 23, 3) := by decide +kernel
theorem dX0_change_37 : decode cX0_change 37 = .ok (.istore 7, 2) := by decide +kernel
theorem dX0_change_39 : decode cX0_change 39 = .ok (.aload_n 0, 1) := by decide +kernel
theorem dX0_change_40 : decode cX0_change 40 = .ok (.getfield 16, 3) := by decide +kernel
theorem dX0_change_43 : decode cX0_change 43 = .ok (.iload 7, 2) := by decide +kernel
theorem dX0_change_45 : decode cX0_change 45 = .ok (.invokevirtual 27, 3) := by decide +kernel
theorem dX0_change_48 : decode cX0_change 48 = .ok (.aload_n 0, 1) := by decide +kernel
theorem dX0_change_49 : decode cX0_change 49 = .ok (.getfield 10, 3) := by decide +kernel
theorem dX0_change_52 : decode cX0_change 52 = .ok (.iload 6, 2) := by decide +kernel
theorem dX0_change_54 : decode cX0_change 54 = .ok (.iload 7, 2) := by decide +kernel
theorem dX0_change_56 : decode cX0_change 56 = .ok (.invokestatic 38, 3) := by decide +kernel
theorem dX0_change_59 : decode cX0_change 59 = .ok (.invokevirtual 45, 3) := by decide +kernel
theorem dX0_change_62 : decode cX0_change 62 = .ok (.aload_n 0, 1) := by decide +kernel
theorem dX0_change_63 : decode cX0_change 63 = .ok (.getfield 10, 3) := by decide +kernel
theorem dX0_change_66 : decode cX0_change 66 = .ok (.aload_n 0, 1) := by decide +kernel
theorem dX0_change_67 : decode cX0_change 67 = .ok (.getfield 16, 3) := by decide +kernel
theorem dX0_change_70 : decode cX0_change 70 = .ok (.iload_n 3, 1) := by decide +kernel
theorem dX0_change_71 : decode cX0_change 71 = .ok (.iload 5, 2) := by decide +kernel
theorem dX0_change_73 : decode cX0_change 73 = .ok (.imul, 1) := by decide +kernel
theorem dX0_change_74 : decode cX0_change 74 = .ok (.invokevirtual 48, 3) := by decide +kernel
theorem dX0_change_77 : decode cX0_change 77 = .ok (.aload_n 0, 1) := by decide +kernel
theorem dX0_change_78 : decode cX0_change 78 = .ok (.getfield 10, 3) := by decide +kernel
theorem dX0_change_81 : decode cX0_change 81 = .ok (.iload 7, 2) := by decide +kernel
theorem dX0_change_83 : decode cX0_change 83 = .ok (.invokevirtual 41, 3) := by decide +kernel
theorem dX0_change_86 : decode cX0_change 86 = .ok (.iload 7, 2) := by decide +kernel
theorem dX0_change_88 : decode cX0_change 88 = .ok (.invokestatic 23, 3) := by decide +kernel
theorem dX0_change_91 : decode cX0_change 91 = .ok (.istore 8, 2) := by decide +kernel
theorem dX0_change_93 : decode cX0_change 93 = .ok (.aload_n 0, 1) := by decide +kernel
theorem dX0_change_94 : decode cX0_change 94 = .ok (.getfield 10, 3) := by decide +kernel
theorem dX0_change_97 : decode cX0_change 97 = .ok (.iload 8, 2) := by decide +kernel
theorem dX0_change_99 : decode cX0_change 99 = .ok (.invokevirtual 27, 3) := by decide +kernel
theorem dX0_change_102 : decode cX0_change 102 = .ok (.aload_n 0, 1) := by decide +kernel
theorem dX0_change_103 : decode cX0_change 103 = .ok (.getfield 16, 3) := by decide +kernel
theorem dX0_change_106 : decode cX0_change 106 = .ok (.iload 6, 2) := by decide +kernel
theorem dX0_change_108 : decode cX0_change 108 = .ok (.iload 8, 2) := by decide +kernel
theorem dX0_change_110 : decode cX0_change 110 = .ok (.invokestatic 38, 3) := by decide +kernel
theorem dX0_change_113 : decode cX0_change 113 = .ok (.invokevirtual 45, 3) := by decide +kernel
theorem dX0_change_116 : decode cX0_change 116 = .ok (.return_, 1) := by decide +kernel
theorem dX0_quotient_0 : decode cX0_quotient 0 = .ok (.iload_n 1, 1) := by decide +kernel
theorem dX0_quotient_1 : decode cX0_quotient 1 = .ok (.iconst 1, 1) := by decide +kernel
theorem dX0_quotient_2 : decode cX0_quotient 2 = .ok (.if_icmp .ge 7, 3) := by decide +kernel
theorem dX0_quotient_5 : decode cX0_quotient 5 = .ok (.iload_n 0, 1) := by decide +kernel
theorem dX0_quotient_6 : decode cX0_quotient 6 = .ok (.goto 6, 3) := by decide +kernel
theorem dX0_quotient_9 : decode cX0_quotient 9 = .ok (.iload_n 0, 1) := by decide +kernel
theorem dX0_quotient_10 : decode cX0_quotient 10 = .ok (.iload_n 1, 1) := by decide +kernel
theorem dX0_quotient_11 : decode cX0_quotient 11 = .ok (.idiv, 1) := by decide +kernel
theorem dX0_quotient_12 : decode cX0_quotient 12 = .ok (.ireturn, 1) := by decide +kernel
theorem dX0_commonDivisor_0 : decode cX0_commonDivisor 0 = .ok (.iload_n 0, 1) := by decide +kernel
theorem dX0_commonDivisor_1 : decode cX0_commonDivisor 1 = .ok (.istore_n 2, 1) := by decide +kernel
theorem dX0_commonDivisor_2 : decode cX0_commonDivisor 2 = .ok (.iload_n 1, 1) := by decide +kernel
theorem dX0_commonDivisor_3 : decode cX0_commonDivisor 3 = .ok (.istore_n 3, 1) := by decide +kernel
theorem dX0_commonDivisor_4 : decode cX0_commonDivisor 4 = .ok (.iconst 0, 1) := by decide +kernel
theorem dX0_commonDivisor_5 : decode cX0_commonDivisor 5 = .ok (.istore 4, 2) := by decide +kernel
theorem dX0_commonDivisor_7 : decode cX0_commonDivisor 7 = .ok (.iload 4, 2) := by decide +kernel
theorem dX0_commonDivisor_9 : decode cX0_commonDivisor 9 = .ok (.bipush 64, 2) := by decide +kernel
theorem dX0_commonDivisor_11 : decode cX0_commonDivisor 11 = .ok (.if_icmp .ge 23, 3) := by decide +kernel
theorem dX0_commonDivisor_14 : decode cX0_commonDivisor 14 = .ok (.iload_n 3, 1) := by decide +kernel
theorem dX0_commonDivisor_15 : decode cX0_commonDivisor 15 = .ok (.ifCond .le 19, 3) := by decide +kernel
theorem dX0_commonDivisor_18 : decode cX0_commonDivisor 18 = .ok (.iload_n 2, 1) := by decide +kernel
theorem dX0_commonDivisor_19 : decode cX0_commonDivisor 19 = .ok (.iload_n 3, 1) := by decide +kernel
theorem dX0_commonDivisor_20 : decode cX0_commonDivisor 20 = .ok (.irem, 1) := by decide +kernel
theorem dX0_commonDivisor_21 : decode cX0_commonDivisor 21 = .ok (.istore 5, 2) := by decide +kernel
theorem dX0_commonDivisor_23 : decode cX0_commonDivisor 23 = .ok (.iload_n 3, 1) := by decide +kernel
theorem dX0_commonDivisor_24 : decode cX0_commonDivisor 24 = .ok (.istore_n 2, 1) := by decide +kernel
theorem dX0_commonDivisor_25 : decode cX0_commonDivisor 25 = .ok (.iload 5, 2) := by decide +kernel
theorem dX0_commonDivisor_27 : decode cX0_commonDivisor 27 = .ok (.istore_n 3, 1) := by decide +kernel
theorem dX0_commonDivisor_28 : decode cX0_commonDivisor 28 = .ok (.iinc 4 1, 3) := by decide +kernel
theorem dX0_commonDivisor_31 : decode cX0_commonDivisor 31 = .ok (.goto (-24), 3) := by decide +kernel
theorem dX0_commonDivisor_34 : decode cX0_commonDivisor 34 = .ok (.iload_n 2, 1) := by decide +kernel
theorem dX0_commonDivisor_35 : decode cX0_commonDivisor 35 = .ok (.ireturn, 1) := by decide +kernel
theorem dX1_init_0 : decode cX1_init 0 = .ok (.aload_n 0, 1) := by decide +kernel
theorem dX1_init_1 : decode cX1_init 1 = .ok (.invokespecial 1, 3) := by decide +kernel
theorem dX1_init_4 : decode cX1_init 4 = .ok (.aload_n 0, 1) := by decide +kernel
theorem dX1_init_5 : decode cX1_init 5 = .ok (.bipush 64, 2) := by decide +kernel
theorem dX1_init_7 : decode cX1_init 7 = .ok (.newarray .int, 2) := by decide +kernel
theorem dX1_init_9 : decode cX1_init 9 = .ok (.putfield 9, 3) := by decide +kernel
theorem dX1_init_12 : decode cX1_init 12 = .ok (.aload_n 0, 1) := by decide +kernel
theorem dX1_init_13 : decode cX1_init 13 = .ok (.iconst 0, 1) := by decide +kernel
theorem dX1_init_14 : decode cX1_init 14 = .ok (.putfield 13, 3) := by decide +kernel
theorem dX1_init_17 : decode cX1_init 17 = .ok (.return_, 1) := by decide +kernel
set_option maxRecDepth 20000 in
theorem ggX1_become_X1_append : GoodIn wsX1_become wsX1_append := goodIn_r _ [6, 1, 7, 8, 9] (by decide +kernel) (by decide +kernel)
set_option maxRecDepth 20000 in
theorem gX1_become_X1_append : GoodIn wsX1_become (wsV RX1 17 RX1 yX1_append wsX1_append) := goodIn_app (goodIn_of _ (by decide +kernel)) ggX1_become_X1_append
theorem dX1_become_0 : decode cX1_become 0 = .ok (.aload_n 0, 1) := by decide +kernel
theorem dX1_become_1 : decode cX1_become 1 = .ok (.iconst 0, 1) := by decide +kernel
theorem dX1_become_2 : decode cX1_become 2 = .ok (.putfield 13, 3) := by decide +kernel
theorem dX1_become_5 : decode cX1_become 5 = .ok (.aload_n 0, 1) := by decide +kernel
theorem dX1_become_6 : decode cX1_become 6 = .ok (.iload_n 1, 1) := by decide +kernel
theorem dX1_become_7 : decode cX1_become 7 = .ok (.i2l, 1) := by decide +kernel
theorem dX1_become_8 : decode cX1_become 8 = .ok (.invokevirtual 17, 3) := by decide +kernel
theorem dX1_become_11 : decode cX1_become 11 = .ok (.return_, 1) := by decide +kernel
theorem dX1_limbAt_0 : decode cX1_limbAt 0 = .ok (.iload_n 1, 1) := by decide +kernel
theorem dX1_limbAt_1 : decode cX1_limbAt 1 = .ok (.ifCond .lt 29, 3) := by decide +kernel
theorem dX1_limbAt_4 : decode cX1_limbAt 4 = .ok (.iload_n 1, 1) := by decide +kernel
theorem dX1_limbAt_5 : decode cX1_limbAt 5 = .ok (.aload_n 0, 1) := by decide +kernel
theorem dX1_limbAt_6 : decode cX1_limbAt 6 = .ok (.getfield 13, 3) := by decide +kernel
theorem dX1_limbAt_9 : decode cX1_limbAt 9 = .ok (.if_icmp .ge 21, 3) := by decide +kernel
theorem dX1_limbAt_12 : decode cX1_limbAt 12 = .ok (.iload_n 1, 1) := by decide +kernel
theorem dX1_limbAt_13 : decode cX1_limbAt 13 = .ok (.aload_n 0, 1) := by decide +kernel
theorem dX1_limbAt_14 : decode cX1_limbAt 14 = .ok (.getfield 9, 3) := by decide +kernel
theorem dX1_limbAt_17 : decode cX1_limbAt 17 = .ok (.arraylength, 1) := by decide +kernel
theorem dX1_limbAt_18 : decode cX1_limbAt 18 = .ok (.if_icmp .ge 12, 3) := by decide +kernel
theorem dX1_limbAt_21 : decode cX1_limbAt 21 = .ok (.aload_n 0, 1) := by decide +kernel
theorem dX1_limbAt_22 : decode cX1_limbAt 22 = .ok (.getfield 9, 3) := by decide +kernel
theorem dX1_limbAt_25 : decode cX1_limbAt 25 = .ok (.iload_n 1, 1) := by decide +kernel
theorem dX1_limbAt_26 : decode cX1_limbAt 26 = .ok (.iaload, 1) := by decide +kernel
theorem dX1_limbAt_27 : decode cX1_limbAt 27 = .ok (.goto 4, 3) := by decide +kernel
theorem dX1_limbAt_30 : decode cX1_limbAt 30 = .ok (.iconst 0, 1) := by decide +kernel
theorem dX1_limbAt_31 : decode cX1_limbAt 31 = .ok (.ireturn, 1) := by decide +kernel
set_option maxRecDepth 20000 in
theorem ggX1_times_X1_append : GoodIn wsX1_times wsX1_append := goodIn_r _ [8, 1, 2, 17, 18] (by decide +kernel) (by decide +kernel)
set_option maxRecDepth 20000 in
theorem gX1_times_X1_append : GoodIn wsX1_times (wsV RX1 17 RX1 yX1_append wsX1_append) := goodIn_app (goodIn_of _ (by decide +kernel)) ggX1_times_X1_append
set_option maxRecDepth 20000 in
theorem ggX1_times_X1_trim : GoodIn wsX1_times wsX1_trim := goodIn_r _ [12, 1, 13, 14, 15, 7, 16, 2, 17, 18] (by decide +kernel) (by decide +kernel)
set_option maxRecDepth 20000 in
theorem gX1_times_X1_trim : GoodIn wsX1_times (wsV RX1 23 RX1 yX1_trim wsX1_trim) := goodIn_app (goodIn_of _ (by decide +kernel)) ggX1_times_X1_trim
theorem dX1_times_0 : decode cX1_times 0 = .ok (.lconst 0, 1) := by decide +kernel
theorem dX1_times_1 : decode cX1_times 1 = .ok (.lstore_n 2, 1) := by decide +kernel
theorem dX1_times_2 : decode cX1_times 2 = .ok (.iconst 0, 1) := by decide +kernel
theorem dX1_times_3 : decode cX1_times 3 = .ok (.istore 4, 2) := by decide +kernel
theorem dX1_times_5 : decode cX1_times 5 = .ok (.iload 4, 2) := by decide +kernel
theorem dX1_times_7 : decode cX1_times 7 = .ok (.aload_n 0, 1) := by decide +kernel
theorem dX1_times_8 : decode cX1_times 8 = .ok (.getfield 13, 3) := by decide +kernel
theorem dX1_times_11 : decode cX1_times 11 = .ok (.if_icmp .ge 51, 3) := by decide +kernel
theorem dX1_times_14 : decode cX1_times 14 = .ok (.iload 4, 2) := by decide +kernel
theorem dX1_times_16 : decode cX1_times 16 = .ok (.aload_n 0, 1) := by decide +kernel
theorem dX1_times_17 : decode cX1_times 17 = .ok (.getfield 9, 3) := by decide +kernel
theorem dX1_times_20 : decode cX1_times 20 = .ok (.arraylength, 1) := by decide +kernel
theorem dX1_times_21 : decode cX1_times 21 = .ok (.if_icmp .ge 41, 3) := by decide +kernel
theorem dX1_times_24 : decode cX1_times 24 = .ok (.lload_n 2, 1) := by decide +kernel
theorem dX1_times_25 : decode cX1_times 25 = .ok (.aload_n 0, 1) := by decide +kernel
theorem dX1_times_26 : decode cX1_times 26 = .ok (.getfield 9, 3) := by decide +kernel
theorem dX1_times_29 : decode cX1_times 29 = .ok (.iload 4, 2) := by decide +kernel
theorem dX1_times_31 : decode cX1_times 31 = .ok (.iaload, 1) := by decide +kernel
theorem dX1_times_32 : decode cX1_times 32 = .ok (.i2l, 1) := by decide +kernel
theorem dX1_times_33 : decode cX1_times 33 = .ok (.iload_n 1, 1) := by decide +kernel
theorem dX1_times_34 : decode cX1_times 34 = .ok (.i2l, 1) := by decide +kernel
theorem dX1_times_35 : decode cX1_times 35 = .ok (.lmul, 1) := by decide +kernel
theorem dX1_times_36 : decode cX1_times 36 = .ok (.ladd, 1) := by decide +kernel
theorem dX1_times_37 : decode cX1_times 37 = .ok (.lstore_n 2, 1) := by decide +kernel
theorem dX1_times_38 : decode cX1_times 38 = .ok (.aload_n 0, 1) := by decide +kernel
theorem dX1_times_39 : decode cX1_times 39 = .ok (.getfield 9, 3) := by decide +kernel
theorem dX1_times_42 : decode cX1_times 42 = .ok (.iload 4, 2) := by decide +kernel
theorem dX1_times_44 : decode cX1_times 44 = .ok (.lload_n 2, 1) := by decide +kernel
theorem dX1_times_45 : decode cX1_times 45 = .ok (.ldc2_w 21, 3) := by decide +kernel
theorem dX1_times_48 : decode cX1_times 48 = .ok (.land, 1) := by decide +kernel
theorem dX1_times_49 : decode cX1_times 49 = .ok (.l2i, 1) := by decide +kernel
theorem dX1_times_50 : decode cX1_times 50 = .ok (.iastore, 1) := by decide +kernel
theorem dX1_times_51 : decode cX1_times 51 = .ok (.lload_n 2, 1) := by decide +kernel
theorem dX1_times_52 : decode cX1_times 52 = .ok (.bipush 31, 2) := by decide +kernel
theorem dX1_times_54 : decode cX1_times 54 = .ok (.lshr, 1) := by decide +kernel
theorem dX1_times_55 : decode cX1_times 55 = .ok (.lstore_n 2, 1) := by decide +kernel
theorem dX1_times_56 : decode cX1_times 56 = .ok (.iinc 4 1, 3) := by decide +kernel
theorem dX1_times_59 : decode cX1_times 59 = .ok (.goto (-54), 3) := by decide +kernel
theorem dX1_times_62 : decode cX1_times 62 = .ok (.aload_n 0, 1) := by decide +kernel
theorem dX1_times_63 : decode cX1_times 63 = .ok (.lload_n 2, 1) := by decide +kernel
theorem dX1_times_64 : decode cX1_times 64 = .ok (.invokevirtual 17, 3) := by decide +kernel
theorem dX1_times_67 : decode cX1_times 67 = .ok (.aload_n 0, 1) := by decide +kernel
theorem dX1_times_68 : decode cX1_times 68 = .ok (.invokevirtual 23, 3) := by decide +kernel
theorem dX1_times_71 : decode cX1_times 71 = .ok (.return_, 1) := by decide +kernel
set_option maxRecDepth 20000 in
theorem ggX1_plusTimes_X1_limbAt : GoodIn wsX1_plusTimes wsX1_limbAt := goodIn_r _ [8, 1, 2, 17, 18] (by decide +kernel) (by decide +kernel)
set_option maxRecDepth 20000 in
theorem gX1_plusTimes_X1_limbAt : GoodIn wsX1_plusTimes (wsV RX1 26 RX1 yX1_limbAt wsX1_limbAt) := goodIn_app (goodIn_of _ (by decide +kernel)) ggX1_plusTimes_X1_limbAt
set_option maxRecDepth 20000 in
theorem ggX1_plusTimes_X1_append : GoodIn wsX1_plusTimes wsX1_append := goodIn_r _ [12, 1, 2, 17, 18] (by decide +kernel) (by decide +kernel)
set_option maxRecDepth 20000 in
theorem gX1_plusTimes_X1_append : GoodIn wsX1_plusTimes (wsV RX1 17 RX1 yX1_append wsX1_append) := goodIn_app (goodIn_of _ (by decide +kernel)) ggX1_plusTimes_X1_append
set_option maxRecDepth 20000 in
theorem ggX1_plusTimes_X1_trim : GoodIn wsX1_plusTimes wsX1_trim := goodIn_r _ [16, 1, 4, 5, 6, 7, 8, 2, 17, 18] (by decide +kernel) (by decide +kernel)
set_option maxRecDepth 20000 in
theorem gX1_plusTimes_X1_trim : GoodIn wsX1_plusTimes (wsV RX1 23 RX1 yX1_trim wsX1_trim) := goodIn_app (goodIn_of _ (by decide +kernel)) ggX1_plusTimes_X1_trim
theorem dX1_plusTimes_0 : decode cX1_plusTimes 0 = .ok (.aload_n 0, 1) := by decide +kernel
theorem dX1_plusTimes_1 : decode cX1_plusTimes 1 = .ok (.getfield 13, 3) := by decide +kernel
theorem dX1_plusTimes_4 : decode cX1_plusTimes 4 = .ok (.aload_n 1, 1) := by decide +kernel
theorem dX1_plusTimes_5 : decode cX1_plusTimes 5 = .ok (.getfield 13, 3) := by decide +kernel
theorem dX1_plusTimes_8 : decode cX1_plusTimes 8 = .ok (.if_icmp .le 10, 3) := by decide +kernel
theorem dX1_plusTimes_11 : decode cX1_plusTimes 11 = .ok (.aload_n 0, 1) := by decide +kernel
theorem dX1_plusTimes_12 : decode cX1_plusTimes 12 = .ok (.getfield 13, 3) := by decide +kernel
theorem dX1_plusTimes_15 : decode cX1_plusTimes 15 = .ok (.goto 7, 3) := by decide +kernel
theorem dX1_plusTimes_18 : decode cX1_plusTimes 18 = .ok (.aload_n 1, 1) := by decide +kernel
theorem dX1_plusTimes_19 : decode cX1_plusTimes 19 = .ok (.getfield 13, 3) := by decide +kernel
theorem dX1_plusTimes_22 : decode cX1_plusTimes 22 = .ok (.istore_n 3, 1) := by decide +kernel
theorem dX1_plusTimes_23 : decode cX1_plusTimes 23 = .ok (.lconst 0, 1) := by decide +kernel
theorem dX1_plusTimes_24 : decode cX1_plusTimes 24 = .ok (.lstore 4, 2) := by decide +kernel
theorem dX1_plusTimes_26 : decode cX1_plusTimes 26 = .ok (.iconst 0, 1) := by decide +kernel
theorem dX1_plusTimes_27 : decode cX1_plusTimes 27 = .ok (.istore 6, 2) := by decide +kernel
theorem dX1_plusTimes_29 : decode cX1_plusTimes 29 = .ok (.iload 6, 2) := by decide +kernel
theorem dX1_plusTimes_31 : decode cX1_plusTimes 31 = .ok (.iload_n 3, 1) := by decide +kernel
theorem dX1_plusTimes_32 : decode cX1_plusTimes 32 = .ok (.if_icmp .ge 63, 3) := by decide +kernel
theorem dX1_plusTimes_35 : decode cX1_plusTimes 35 = .ok (.iload 6, 2) := by decide +kernel
theorem dX1_plusTimes_37 : decode cX1_plusTimes 37 = .ok (.aload_n 0, 1) := by decide +kernel
theorem dX1_plusTimes_38 : decode cX1_plusTimes 38 = .ok (.getfield 9, 3) := by decide +kernel
theorem dX1_plusTimes_41 : decode cX1_plusTimes 41 = .ok (.arraylength, 1) := by decide +kernel
theorem dX1_plusTimes_42 : decode cX1_plusTimes 42 = .ok (.if_icmp .ge 53, 3) := by decide +kernel
theorem dX1_plusTimes_45 : decode cX1_plusTimes 45 = .ok (.lload 4, 2) := by decide +kernel
theorem dX1_plusTimes_47 : decode cX1_plusTimes 47 = .ok (.aload_n 0, 1) := by decide +kernel
theorem dX1_plusTimes_48 : decode cX1_plusTimes 48 = .ok (.iload 6, 2) := by decide +kernel
theorem dX1_plusTimes_50 : decode cX1_plusTimes 50 = .ok (.invokevirtual 26, 3) := by decide +kernel
theorem dX1_plusTimes_53 : decode cX1_plusTimes 53 = .ok (.i2l, 1) := by decide +kernel
theorem dX1_plusTimes_54 : decode cX1_plusTimes 54 = .ok (.aload_n 1, 1) := by decide +kernel
theorem dX1_plusTimes_55 : decode cX1_plusTimes 55 = .ok (.iload 6, 2) := by decide +kernel
theorem dX1_plusTimes_57 : decode cX1_plusTimes 57 = .ok (.invokevirtual 26, 3) := by decide +kernel
theorem dX1_plusTimes_60 : decode cX1_plusTimes 60 = .ok (.i2l, 1) := by decide +kernel
theorem dX1_plusTimes_61 : decode cX1_plusTimes 61 = .ok (.iload_n 2, 1) := by decide +kernel
theorem dX1_plusTimes_62 : decode cX1_plusTimes 62 = .ok (.i2l, 1) := by decide +kernel
theorem dX1_plusTimes_63 : decode cX1_plusTimes 63 = .ok (.lmul, 1) := by decide +kernel
theorem dX1_plusTimes_64 : decode cX1_plusTimes 64 = .ok (.ladd, 1) := by decide +kernel
theorem dX1_plusTimes_65 : decode cX1_plusTimes 65 = .ok (.ladd, 1) := by decide +kernel
theorem dX1_plusTimes_66 : decode cX1_plusTimes 66 = .ok (.lstore 4, 2) := by decide +kernel
theorem dX1_plusTimes_68 : decode cX1_plusTimes 68 = .ok (.aload_n 0, 1) := by decide +kernel
theorem dX1_plusTimes_69 : decode cX1_plusTimes 69 = .ok (.getfield 9, 3) := by decide +kernel
theorem dX1_plusTimes_72 : decode cX1_plusTimes 72 = .ok (.iload 6, 2) := by decide +kernel
theorem dX1_plusTimes_74 : decode cX1_plusTimes 74 = .ok (.lload 4, 2) := by decide +kernel
theorem dX1_plusTimes_76 : decode cX1_plusTimes 76 = .ok (.ldc2_w 21, 3) := by decide +kernel
theorem dX1_plusTimes_79 : decode cX1_plusTimes 79 = .ok (.land, 1) := by decide +kernel
theorem dX1_plusTimes_80 : decode cX1_plusTimes 80 = .ok (.l2i, 1) := by decide +kernel
theorem dX1_plusTimes_81 : decode cX1_plusTimes 81 = .ok (.iastore, 1) := by decide +kernel
theorem dX1_plusTimes_82 : decode cX1_plusTimes 82 = .ok (.lload 4, 2) := by decide +kernel
theorem dX1_plusTimes_84 : decode cX1_plusTimes 84 = .ok (.bipush 31, 2) := by decide +kernel
theorem dX1_plusTimes_86 : decode cX1_plusTimes 86 = .ok (.lshr, 1) := by decide +kernel
theorem dX1_plusTimes_87 : decode cX1_plusTimes 87 = .ok (.lstore 4, 2) := by decide +kernel
theorem dX1_plusTimes_89 : decode cX1_plusTimes 89 = .ok (.iinc 6 1, 3) := by decide +kernel
theorem dX1_plusTimes_92 : decode cX1_plusTimes 92 = .ok (.goto (-63), 3) := by decide +kernel
theorem dX1_plusTimes_95 : decode cX1_plusTimes 95 = .ok (.aload_n 0, 1) := by decide +kernel
theorem dX1_plusTimes_96 : decode cX1_plusTimes 96 = .ok (.iload_n 3, 1) := by decide +kernel
theorem dX1_plusTimes_97 : decode cX1_plusTimes 97 = .ok (.putfield 13, 3) := by decide +kernel
theorem dX1_plusTimes_100 : decode cX1_plusTimes 100 = .ok (.aload_n 0, 1) := by decide +kernel
theorem dX1_plusTimes_101 : decode cX1_plusTimes 101 = .ok (.lload 4, 2) := by decide +kernel
theorem dX1_plusTimes_103 : decode cX1_plusTimes 103 = .ok (.invokevirtual 17, 3) := by decide +kernel
theorem dX1_plusTimes_106 : decode cX1_plusTimes 106 = .ok (.aload_n 0, 1) := by decide +kernel
theorem dX1_plusTimes_107 : decode cX1_plusTimes 107 = .ok (.invokevirtual 23, 3) := by decide +kernel
theorem dX1_plusTimes_110 : decode cX1_plusTimes 110 = .ok (.return_, 1) := by decide +kernel
set_option maxRecDepth 20000 in
theorem ggX1_divideBy_X1_trim : GoodIn wsX1_divideBy wsX1_trim := goodIn_r _ [7, 1, 8, 9, 10, 6, 11, 2, 12, 13] (by decide +kernel) (by decide +kernel)
set_option maxRecDepth 20000 in
theorem gX1_divideBy_X1_trim : GoodIn wsX1_divideBy (wsV RX1 23 RX1 yX1_trim wsX1_trim) := goodIn_app (goodIn_of _ (by decide +kernel)) ggX1_divideBy_X1_trim
theorem dX1_divideBy_0 : decode cX1_divideBy 0 = .ok (.iload_n 1, 1) := by decide +kernel
theorem dX1_divideBy_1 : decode cX1_divideBy 1 = .ok (.iconst 1, 1) := by decide +kernel
theorem dX1_divideBy_2 : decode cX1_divideBy 2 = .ok (.if_icmp .ge 4, 3) := by decide +kernel
theorem dX1_divideBy_5 : decode cX1_divideBy 5 = .ok (.return_, 1) := by decide +kernel
theorem dX1_divideBy_6 : decode cX1_divideBy 6 = .ok (.lconst 0, 1) := by decide +kernel
theorem dX1_divideBy_7 : decode cX1_divideBy 7 = .ok (.lstore_n 2, 1) := by decide +kernel
theorem dX1_divideBy_8 : decode cX1_divideBy 8 = .ok (.aload_n 0, 1) := by decide +kernel
theorem dX1_divideBy_9 : decode cX1_divideBy 9 = .ok (.getfield 13, 3) := by decide +kernel
theorem dX1_divideBy_12 : decode cX1_divideBy 12 = .ok (.iconst 1, 1) := by decide +kernel
theorem dX1_divideBy_13 : decode cX1_divideBy 13 = .ok (.isub, 1) := by decide +kernel
theorem dX1_divideBy_14 : decode cX1_divideBy 14 = .ok (.istore 4, 2) := by decide +kernel
theorem dX1_divideBy_16 : decode cX1_divideBy 16 = .ok (.iload 4, 2) := by decide +kernel
theorem dX1_divideBy_18 : decode cX1_divideBy 18 = .ok (.ifCond .lt 50, 3) := by decide +kernel
theorem dX1_divideBy_21 : decode cX1_divideBy 21 = .ok (.iload 4, 2) := by decide +kernel
theorem dX1_divideBy_23 : decode cX1_divideBy 23 = .ok (.aload_n 0, 1) := by decide +kernel
theorem dX1_divideBy_24 : decode cX1_divideBy 24 = .ok (.getfield 9, 3) := by decide +kernel
theorem dX1_divideBy_27 : decode cX1_divideBy 27 = .ok (.arraylength, 1) := by decide +kernel
theorem dX1_divideBy_28 : decode cX1_divideBy 28 = .ok (.if_icmp .ge 40, 3) := by decide +kernel
theorem dX1_divideBy_31 : decode cX1_divideBy 31 = .ok (.lload_n 2, 1) := by decide +kernel
theorem dX1_divideBy_32 : decode cX1_divideBy 32 = .ok (.bipush 31, 2) := by decide +kernel
theorem dX1_divideBy_34 : decode cX1_divideBy 34 = .ok (.lshl, 1) := by decide +kernel
theorem dX1_divideBy_35 : decode cX1_divideBy 35 = .ok (.aload_n 0, 1) := by decide +kernel
theorem dX1_divideBy_36 : decode cX1_divideBy 36 = .ok (.getfield 9, 3) := by decide +kernel
theorem dX1_divideBy_39 : decode cX1_divideBy 39 = .ok (.iload 4, 2) := by decide +kernel
theorem dX1_divideBy_41 : decode cX1_divideBy 41 = .ok (.iaload, 1) := by decide +kernel
theorem dX1_divideBy_42 : decode cX1_divideBy 42 = .ok (.i2l, 1) := by decide +kernel
theorem dX1_divideBy_43 : decode cX1_divideBy 43 = .ok (.ladd, 1) := by decide +kernel
theorem dX1_divideBy_44 : decode cX1_divideBy 44 = .ok (.lstore_n 2, 1) := by decide +kernel
theorem dX1_divideBy_45 : decode cX1_divideBy 45 = .ok (.aload_n 0, 1) := by decide +kernel
theorem dX1_divideBy_46 : decode cX1_divideBy 46 = .ok (.getfield 9, 3) := by decide +kernel
theorem dX1_divideBy_49 : decode cX1_divideBy 49 = .ok (.iload 4, 2) := by decide +kernel
theorem dX1_divideBy_51 : decode cX1_divideBy 51 = .ok (.lload_n 2, 1) := by decide +kernel
theorem dX1_divideBy_52 : decode cX1_divideBy 52 = .ok (.iload_n 1, 1) := by decide +kernel
theorem dX1_divideBy_53 : decode cX1_divideBy 53 = .ok (.i2l, 1) := by decide +kernel
theorem dX1_divideBy_54 : decode cX1_divideBy 54 = .ok (.ldiv, 1) := by decide +kernel
theorem dX1_divideBy_55 : decode cX1_divideBy 55 = .ok (.l2i, 1) := by decide +kernel
theorem dX1_divideBy_56 : decode cX1_divideBy 56 = .ok (.iastore, 1) := by decide +kernel
theorem dX1_divideBy_57 : decode cX1_divideBy 57 = .ok (.lload_n 2, 1) := by decide +kernel
theorem dX1_divideBy_58 : decode cX1_divideBy 58 = .ok (.iload_n 1, 1) := by decide +kernel
theorem dX1_divideBy_59 : decode cX1_divideBy 59 = .ok (.i2l, 1) := by decide +kernel
theorem dX1_divideBy_60 : decode cX1_divideBy 60 = .ok (.lrem, 1) := by decide +kernel
theorem dX1_divideBy_61 : decode cX1_divideBy 61 = .ok (.lstore_n 2, 1) := by decide +kernel
theorem dX1_divideBy_62 : decode cX1_divideBy 62 = .ok (.iinc 4 (-1), 3) := by decide +kernel
theorem dX1_divideBy_65 : decode cX1_divideBy 65 = .ok (.goto (-49), 3) := by decide +kernel
theorem dX1_divideBy_68 : decode cX1_divideBy 68 = .ok (.aload_n 0, 1) := by decide +kernel
theorem dX1_divideBy_69 : decode cX1_divideBy 69 = .ok (.invokevirtual 23, 3) := by decide +kernel
theorem dX1_divideBy_72 : decode cX1_divideBy 72 = .ok (.return_, 1) := by decide +kernel
set_option maxRecDepth 20000 in
theorem ggX1_restBy_X1_limbAt : GoodIn wsX1_restBy wsX1_limbAt := goodIn_r _ [6, 1, 7, 8, 9] (by decide +kernel) (by decide +kernel)
set_option maxRecDepth 20000 in
theorem gX1_restBy_X1_limbAt : GoodIn wsX1_restBy (wsV RX1 26 RX1 yX1_limbAt wsX1_limbAt) := goodIn_app (goodIn_of _ (by decide +kernel)) ggX1_restBy_X1_limbAt
theorem dX1_restBy_0 : decode cX1_restBy 0 = .ok (.iload_n 1, 1) := by decide +kernel
theorem dX1_restBy_1 : decode cX1_restBy 1 = .ok (.iconst 1, 1) := by decide +kernel
theorem dX1_restBy_2 : decode cX1_restBy 2 = .ok (.if_icmp .ge 5, 3) := by decide +kernel
theorem dX1_restBy_5 : decode cX1_restBy 5 = .ok (.iconst 0, 1) := by decide +kernel
theorem dX1_restBy_6 : decode cX1_restBy 6 = .ok (.ireturn, 1) := by decide +kernel
theorem dX1_restBy_7 : decode cX1_restBy 7 = .ok (.lconst 0, 1) := by decide +kernel
theorem dX1_restBy_8 : decode cX1_restBy 8 = .ok (.lstore_n 2, 1) := by decide +kernel
theorem dX1_restBy_9 : decode cX1_restBy 9 = .ok (.aload_n 0, 1) := by decide +kernel
theorem dX1_restBy_10 : decode cX1_restBy 10 = .ok (.getfield 13, 3) := by decide +kernel
theorem dX1_restBy_13 : decode cX1_restBy 13 = .ok (.iconst 1, 1) := by decide +kernel
theorem dX1_restBy_14 : decode cX1_restBy 14 = .ok (.isub, 1) := by decide +kernel
theorem dX1_restBy_15 : decode cX1_restBy 15 = .ok (.istore 4, 2) := by decide +kernel
theorem dX1_restBy_17 : decode cX1_restBy 17 = .ok (.iload 4, 2) := by decide +kernel
theorem dX1_restBy_19 : decode cX1_restBy 19 = .ok (.ifCond .lt 25, 3) := by decide +kernel
theorem dX1_restBy_22 : decode cX1_restBy 22 = .ok (.lload_n 2, 1) := by decide +kernel
theorem dX1_restBy_23 : decode cX1_restBy 23 = .ok (.bipush 31, 2) := by decide +kernel
theorem dX1_restBy_25 : decode cX1_restBy 25 = .ok (.lshl, 1) := by decide +kernel
theorem dX1_restBy_26 : decode cX1_restBy 26 = .ok (.aload_n 0, 1) := by decide +kernel
theorem dX1_restBy_27 : decode cX1_restBy 27 = .ok (.iload 4, 2) := by decide +kernel
theorem dX1_restBy_29 : decode cX1_restBy 29 = .ok (.invokevirtual 26, 3) := by decide +kernel
theorem dX1_restBy_32 : decode cX1_restBy 32 = .ok (.i2l, 1) := by decide +kernel
theorem dX1_restBy_33 : decode cX1_restBy 33 = .ok (.ladd, 1) := by decide +kernel
theorem dX1_restBy_34 : decode cX1_restBy 34 = .ok (.iload_n 1, 1) := by decide +kernel
theorem dX1_restBy_35 : decode cX1_restBy 35 = .ok (.i2l, 1) := by decide +kernel
theorem dX1_restBy_36 : decode cX1_restBy 36 = .ok (.lrem, 1) := by decide +kernel
theorem dX1_restBy_37 : decode cX1_restBy 37 = .ok (.lstore_n 2, 1) := by decide +kernel
theorem dX1_restBy_38 : decode cX1_restBy 38 = .ok (.iinc 4 (-1), 3) := by decide +kernel
theorem dX1_restBy_41 : decode cX1_restBy 41 = .ok (.goto (-24), 3) := by decide +kernel
theorem dX1_restBy_44 : decode cX1_restBy 44 = .ok (.lload_n 2, 1) := by decide +kernel
theorem dX1_restBy_45 : decode cX1_restBy 45 = .ok (.l2i, 1) := by decide +kernel
theorem dX1_restBy_46 : decode cX1_restBy 46 = .ok (.ireturn, 1) := by decide +kernel
set_option maxRecDepth 20000 in
theorem ggX1_isLess_X1_limbAt : GoodIn wsX1_isLess wsX1_limbAt := goodIn_r _ [6, 1, 7, 8, 9] (by decide +kernel) (by decide +kernel)
set_option maxRecDepth 20000 in
theorem gX1_isLess_X1_limbAt : GoodIn wsX1_isLess (wsV RX1 26 RX1 yX1_limbAt wsX1_limbAt) := goodIn_app (goodIn_of _ (by decide +kernel)) ggX1_isLess_X1_limbAt
theorem dX1_isLess_0 : decode cX1_isLess 0 = .ok (.aload_n 0, 1) := by decide +kernel
theorem dX1_isLess_1 : decode cX1_isLess 1 = .ok (.getfield 13, 3) := by decide +kernel
theorem dX1_isLess_4 : decode cX1_isLess 4 = .ok (.aload_n 2, 1) := by decide +kernel
theorem dX1_isLess_5 : decode cX1_isLess 5 = .ok (.getfield 13, 3) := by decide +kernel
theorem dX1_isLess_8 : decode cX1_isLess 8 = .ok (.if_icmp .le 10, 3) := by decide +kernel
theorem dX1_isLess_11 : decode cX1_isLess 11 = .ok (.aload_n 0, 1) := by decide +kernel
theorem dX1_isLess_12 : decode cX1_isLess 12 = .ok (.getfield 13, 3) := by decide +kernel
theorem dX1_isLess_15 : decode cX1_isLess 15 = .ok (.goto 7, 3) := by decide +kernel
theorem dX1_isLess_18 : decode cX1_isLess 18 = .ok (.aload_n 2, 1) := by decide +kernel
theorem dX1_isLess_19 : decode cX1_isLess 19 = .ok (.getfield 13, 3) := by decide +kernel
theorem dX1_isLess_22 : decode cX1_isLess 22 = .ok (.istore 4, 2) := by decide +kernel
theorem dX1_isLess_24 : decode cX1_isLess 24 = .ok (.lconst 0, 1) := by decide +kernel
theorem dX1_isLess_25 : decode cX1_isLess 25 = .ok (.lstore 5, 2) := by decide +kernel
theorem dX1_isLess_27 : decode cX1_isLess 27 = .ok (.iconst 0, 1) := by decide +kernel
theorem dX1_isLess_28 : decode cX1_isLess 28 = .ok (.istore 7, 2) := by decide +kernel
theorem dX1_isLess_30 : decode cX1_isLess 30 = .ok (.iload 7, 2) := by decide +kernel
theorem dX1_isLess_32 : decode cX1_isLess 32 = .ok (.iload 4, 2) := by decide +kernel
theorem dX1_isLess_34 : decode cX1_isLess 34 = .ok (.if_icmp .ge 42, 3) := by decide +kernel
theorem dX1_isLess_37 : decode cX1_isLess 37 = .ok (.lload 5, 2) := by decide +kernel
theorem dX1_isLess_39 : decode cX1_isLess 39 = .ok (.aload_n 0, 1) := by decide +kernel
theorem dX1_isLess_40 : decode cX1_isLess 40 = .ok (.iload 7, 2) := by decide +kernel
theorem dX1_isLess_42 : decode cX1_isLess 42 = .ok (.invokevirtual 26, 3) := by decide +kernel
theorem dX1_isLess_45 : decode cX1_isLess 45 = .ok (.i2l, 1) := by decide +kernel
theorem dX1_isLess_46 : decode cX1_isLess 46 = .ok (.iload_n 1, 1) := by decide +kernel
theorem dX1_isLess_47 : decode cX1_isLess 47 = .ok (.i2l, 1) := by decide +kernel
theorem dX1_isLess_48 : decode cX1_isLess 48 = .ok (.lmul, 1) := by decide +kernel
theorem dX1_isLess_49 : decode cX1_isLess 49 = .ok (.aload_n 2, 1) := by decide +kernel
theorem dX1_isLess_50 : decode cX1_isLess 50 = .ok (.iload 7, 2) := by decide +kernel
theorem dX1_isLess_52 : decode cX1_isLess 52 = .ok (.invokevirtual 26, 3) := by decide +kernel
theorem dX1_isLess_55 : decode cX1_isLess 55 = .ok (.i2l, 1) := by decide +kernel
theorem dX1_isLess_56 : decode cX1_isLess 56 = .ok (.iload_n 3, 1) := by decide +kernel
theorem dX1_isLess_57 : decode cX1_isLess 57 = .ok (.i2l, 1) := by decide +kernel
theorem dX1_isLess_58 : decode cX1_isLess 58 = .ok (.lmul, 1) := by decide +kernel
theorem dX1_isLess_59 : decode cX1_isLess 59 = .ok (.lsub, 1) := by decide +kernel
theorem dX1_isLess_60 : decode cX1_isLess 60 = .ok (.ladd, 1) := by decide +kernel
theorem dX1_isLess_61 : decode cX1_isLess 61 = .ok (.lstore 5, 2) := by decide +kernel
theorem dX1_isLess_63 : decode cX1_isLess 63 = .ok (.lload 5, 2) := by decide +kernel
theorem dX1_isLess_65 : decode cX1_isLess 65 = .ok (.bipush 31, 2) := by decide +kernel
theorem dX1_isLess_67 : decode cX1_isLess 67 = .ok (.lshr, 1) := by decide +kernel
theorem dX1_isLess_68 : decode cX1_isLess 68 = .ok (.lstore 5, 2) := by decide +kernel
theorem dX1_isLess_70 : decode cX1_isLess 70 = .ok (.iinc 7 1, 3) := by decide +kernel
theorem dX1_isLess_73 : decode cX1_isLess 73 = .ok (.goto (-43), 3) := by decide +kernel
theorem dX1_isLess_76 : decode cX1_isLess 76 = .ok (.lload 5, 2) := by decide +kernel
theorem dX1_isLess_78 : decode cX1_isLess 78 = .ok (.lconst 0, 1) := by decide +kernel
theorem dX1_isLess_79 : decode cX1_isLess 79 = .ok (.lcmp, 1) := by decide +kernel
theorem dX1_isLess_80 : decode cX1_isLess 80 = .ok (.ifCond .ge 7, 3) := by decide +kernel
theorem dX1_isLess_83 : decode cX1_isLess 83 = .ok (.iconst 1, 1) := by decide +kernel
theorem dX1_isLess_84 : decode cX1_isLess 84 = .ok (.goto 4, 3) := by decide +kernel
theorem dX1_isLess_87 : decode cX1_isLess 87 = .ok (.iconst 0, 1) := by decide +kernel
theorem dX1_isLess_88 : decode cX1_isLess 88 = .ok (.ireturn, 1) := by decide +kernel
theorem dX1_append_0 : decode cX1_append 0 = .ok (.lload_n 1, 1) := by decide +kernel
theorem dX1_append_1 : decode cX1_append 1 = .ok (.lconst 0, 1) := by decide +kernel
theorem dX1_append_2 : decode cX1_append 2 = .ok (.lcmp, 1) := by decide +kernel
theorem dX1_append_3 : decode cX1_append 3 = .ok (.ifCond .le 43, 3) := by decide +kernel
theorem dX1_append_6 : decode cX1_append 6 = .ok (.aload_n 0, 1) := by decide +kernel
theorem dX1_append_7 : decode cX1_append 7 = .ok (.getfield 13, 3) := by decide +kernel
theorem dX1_append_10 : decode cX1_append 10 = .ok (.ifCond .lt 36, 3) := by decide +kernel
theorem dX1_append_13 : decode cX1_append 13 = .ok (.aload_n 0, 1) := by decide +kernel
theorem dX1_append_14 : decode cX1_append 14 = .ok (.getfield 13, 3) := by decide +kernel
theorem dX1_append_17 : decode cX1_append 17 = .ok (.aload_n 0, 1) := by decide +kernel
theorem dX1_append_18 : decode cX1_append 18 = .ok (.getfield 9, 3) := by decide +kernel
theorem dX1_append_21 : decode cX1_append 21 = .ok (.arraylength, 1) := by decide +kernel
theorem dX1_append_22 : decode cX1_append 22 = .ok (.if_icmp .ge 24, 3) := by decide +kernel
theorem dX1_append_25 : decode cX1_append 25 = .ok (.aload_n 0, 1) := by decide +kernel
theorem dX1_append_26 : decode cX1_append 26 = .ok (.getfield 9, 3) := by decide +kernel
theorem dX1_append_29 : decode cX1_append 29 = .ok (.aload_n 0, 1) := by decide +kernel
theorem dX1_append_30 : decode cX1_append 30 = .ok (.getfield 13, 3) := by decide +kernel
theorem dX1_append_33 : decode cX1_append 33 = .ok (.lload_n 1, 1) := by decide +kernel
theorem dX1_append_34 : decode cX1_append 34 = .ok (.l2i, 1) := by decide +kernel
theorem dX1_append_35 : decode cX1_append 35 = .ok (.iastore, 1) := by decide +kernel
theorem dX1_append_36 : decode cX1_append 36 = .ok (.aload_n 0, 1) := by decide +kernel
theorem dX1_append_37 : decode cX1_append 37 = .ok (.dup, 1) := by decide +kernel
theorem dX1_append_38 : decode cX1_append 38 = .ok (.getfield 13, 3) := by decide +kernel
theorem dX1_append_41 : decode cX1_append 41 = .ok (.iconst 1, 1) := by decide +kernel
theorem dX1_append_42 : decode cX1_append 42 = .ok (.iadd, 1) := by decide +kernel
theorem dX1_append_43 : decode cX1_append 43 = .ok (.putfield 13, 3) := by decide +kernel
theorem dX1_append_46 : decode cX1_append 46 = .ok (.return_, 1) := by decide +kernel
set_option maxRecDepth 20000 in
theorem ggX1_trim_X1_limbAt : GoodIn wsX1_trim wsX1_limbAt := goodIn_r _ [6, 1, 7, 8, 9] (by decide +kernel) (by decide +kernel)
set_option maxRecDepth 20000 in
theorem gX1_trim_X1_limbAt : GoodIn wsX1_trim (wsV RX1 26 RX1 yX1_limbAt wsX1_limbAt) := goodIn_app (goodIn_of _ (by decide +kernel)) ggX1_trim_X1_limbAt
theorem dX1_trim_0 : decode cX1_trim 0 = .ok (.aload_n 0, 1) := by decide +kernel
theorem dX1_trim_1 : decode cX1_trim 1 = .ok (.getfield 13, 3) := by decide +kernel
theorem dX1_trim_4 : decode cX1_trim 4 = .ok (.ifCond .le 29, 3) := by decide +kernel
theorem dX1_trim_7 : decode cX1_trim 7 = .ok (.aload_n 0, 1) := by decide +kernel
theorem dX1_trim_8 : decode cX1_trim 8 = .ok (.aload_n 0, 1) := by decide +kernel
theorem dX1_trim_9 : decode cX1_trim 9 = .ok (.getfield 13, 3) := by decide +kernel
theorem dX1_trim_12 : decode cX1_trim 12 = .ok (.iconst 1, 1) := by decide +kernel
theorem dX1_trim_13 : decode cX1_trim 13 = .ok (.isub, 1) := by decide +kernel
theorem dX1_trim_14 : decode cX1_trim 14 = .ok (.invokevirtual 26, 3) := by decide +kernel
theorem dX1_trim_17 : decode cX1_trim 17 = .ok (.ifCond .ne 16, 3) := by decide +kernel
theorem dX1_trim_20 : decode cX1_trim 20 = .ok (.aload_n 0, 1) := by decide +kernel
theorem dX1_trim_21 : decode cX1_trim 21 = .ok (.dup, 1) := by decide +kernel
theorem dX1_trim_22 : decode cX1_trim 22 = .ok (.getfield 13, 3) := by decide +kernel
theorem dX1_trim_25 : decode cX1_trim 25 = .ok (.iconst 1, 1) := by decide +kernel
theorem dX1_trim_26 : decode cX1_trim 26 = .ok (.isub, 1) := by decide +kernel
theorem dX1_trim_27 : decode cX1_trim 27 = .ok (.putfield 13, 3) := by decide +kernel
theorem dX1_trim_30 : decode cX1_trim 30 = .ok (.goto (-30), 3) := by decide +kernel
theorem dX1_trim_33 : decode cX1_trim 33 = .ok (.return_, 1) := by decide +kernel
set_option maxRecDepth 20000 in
theorem ggX2_init_X1_init : GoodIn wsX2_init wsX1_init := goodIn_r _ [10, 11, 2, 3, 12, 13, 14, 15, 16] (by decide +kernel) (by decide +kernel)
set_option maxRecDepth 20000 in
theorem gX2_init_X1_init_n9 : GoodIn wsX2_init (wsX1_init) := ggX2_init_X1_init
theorem dX2_init_0 : decode cX2_init 0 = .ok (.aload_n 0, 1) := by decide +kernel
theorem dX2_init_1 : decode cX2_init 1 = .ok (.invokespecial 1, 3) := by decide +kernel
theorem dX2_init_4 : decode cX2_init 4 = .ok (.aload_n 0, 1) := by decide +kernel
theorem dX2_init_5 : decode cX2_init 5 = .ok (.new 7, 3) := by decide +kernel
theorem dX2_init_8 : decode cX2_init 8 = .ok (.dup, 1) := by decide +kernel
theorem dX2_init_9 : decode cX2_init 9 = .ok (.invokespecial 9, 3) := by decide +kernel
theorem dX2_init_12 : decode cX2_init 12 = .ok (.putfield 10, 3) := by decide +kernel
theorem dX2_init_15 : decode cX2_init 15 = .ok (.aload_n 0, 1) := by decide +kernel
theorem dX2_init_16 : decode cX2_init 16 = .ok (.new 7, 3) := by decide +kernel
theorem dX2_init_19 : decode cX2_init 19 = .ok (.dup, 1) := by decide +kernel
theorem dX2_init_20 : decode cX2_init 20 = .ok (.invokespecial 9, 3) := by decide +kernel
theorem dX2_init_23 : decode cX2_init 23 = .ok (.putfield 16, 3) := by decide +kernel
theorem dX2_init_26 : decode cX2_init 26 = .ok (.return_, 1) := by decide +kernel
set_option maxRecDepth 20000 in
theorem ggX2_reaches_X1_become : GoodIn wsX2_reaches wsX1_become := goodIn_r _ [9, 10, 11, 12, 13, 8, 14, 15, 43, 44] (by decide +kernel) (by decide +kernel)
set_option maxRecDepth 20000 in
theorem gX2_reaches_X1_become : GoodIn wsX2_reaches (wsV RX2 28 RX1 yX1_become wsX1_become) := goodIn_app (goodIn_of _ (by decide +kernel)) ggX2_reaches_X1_become
set_option maxRecDepth 20000 in
theorem ggX2_reaches_X1_times : GoodIn wsX2_reaches wsX1_times := goodIn_r _ [19, 10, 15, 20, 11, 12, 13, 8, 14, 21, 22, 23, 24, 25, 26, 27, 28, 43, 44] (by decide +kernel) (by decide +kernel)
set_option maxRecDepth 20000 in
theorem gX2_reaches_X1_times : GoodIn wsX2_reaches (wsV RX2 32 RX1 yX1_times wsX1_times) := goodIn_app (goodIn_of _ (by decide +kernel)) ggX2_reaches_X1_times
set_option maxRecDepth 20000 in
theorem ggX2_reaches_X1_isLess : GoodIn wsX2_reaches wsX1_isLess := goodIn_r _ [31, 10, 25, 26, 27, 8, 28, 15, 43, 44] (by decide +kernel) (by decide +kernel)
set_option maxRecDepth 20000 in
theorem gX2_reaches_X1_isLess : GoodIn wsX2_reaches (va_wsS RX2 35 yX1_isLess wsX1_isLess) := goodIn_app (goodIn_of _ (by decide +kernel)) ggX2_reaches_X1_isLess
set_option maxRecDepth 20000 in
theorem ggX2_reaches_X1_plusTimes : GoodIn wsX2_reaches wsX1_plusTimes := goodIn_r _ [35, 10, 15, 20, 25, 26, 27, 8, 28, 11, 12, 13, 14, 21, 22, 23, 24, 43, 44] (by decide +kernel) (by decide +kernel)
set_option maxRecDepth 20000 in
theorem gX2_reaches_X1_plusTimes : GoodIn wsX2_reaches (wsV RX2 39 RX1 yX1_plusTimes wsX1_plusTimes) := goodIn_app (goodIn_of _ (by decide +kernel)) ggX2_reaches_X1_plusTimes
theorem dX2_reaches_0 : decode cX2_reaches 0 = .ok (.aload_n 0, 1) := by decide +kernel
theorem dX2_reaches_1 : decode cX2_reaches 1 = .ok (.getfield 10, 3) := by decide +kernel
theorem dX2_reaches_4 : decode cX2_reaches 4 = .ok (.aload_n 1, 1) := by decide +kernel
theorem dX2_reaches_5 : decode cX2_reaches 5 = .ok (.getfield 19, 3) := by decide +kernel
theorem dX2_reaches_8 : decode cX2_reaches 8 = .ok (.aload_n 1, 1) := by decide +kernel
theorem dX2_reaches_9 : decode cX2_reaches 9 = .ok (.getfield 25, 3) := by decide +kernel
theorem dX2_reaches_12 : decode cX2_reaches 12 = .ok (.isub, 1) := by decide +kernel
theorem dX2_reaches_13 : decode cX2_reaches 13 = .ok (.invokevirtual 28, 3) := by decide +kernel
theorem dX2_reaches_16 : decode cX2_reaches 16 = .ok (.aload_n 0, 1) := by decide +kernel
theorem dX2_reaches_17 : decode cX2_reaches 17 = .ok (.getfield 16, 3) := by decide +kernel
theorem dX2_reaches_20 : decode cX2_reaches 20 = .ok (.aload_n 1, 1) := by decide +kernel
theorem dX2_reaches_21 : decode cX2_reaches 21 = .ok (.getfield 25, 3) := by decide +kernel
theorem dX2_reaches_24 : decode cX2_reaches 24 = .ok (.invokevirtual 28, 3) := by decide +kernel
theorem dX2_reaches_27 : decode cX2_reaches 27 = .ok (.iconst 1, 1) := by decide +kernel
theorem dX2_reaches_28 : decode cX2_reaches 28 = .ok (.istore 4, 2) := by decide +kernel
theorem dX2_reaches_30 : decode cX2_reaches 30 = .ok (.iload 4, 2) := by decide +kernel
theorem dX2_reaches_32 : decode cX2_reaches 32 = .ok (.bipush 60, 2) := by decide +kernel
theorem dX2_reaches_34 : decode cX2_reaches 34 = .ok (.if_icmp .gt 100, 3) := by decide +kernel
theorem dX2_reaches_37 : decode cX2_reaches 37 = .ok (.aload_n 0, 1) := by decide +kernel
theorem dX2_reaches_38 : decode cX2_reaches 38 = .ok (.getfield 10, 3) := by decide +kernel
theorem dX2_reaches_41 : decode cX2_reaches 41 = .ok (.iload_n 3, 1) := by decide +kernel
theorem dX2_reaches_42 : decode cX2_reaches 42 = .ok (.iload 4, 2) := by decide +kernel
theorem dX2_reaches_44 : decode cX2_reaches 44 = .ok (.imul, 1) := by decide +kernel
theorem dX2_reaches_45 : decode cX2_reaches 45 = .ok (.invokevirtual 32, 3) := by decide +kernel
theorem dX2_reaches_48 : decode cX2_reaches 48 = .ok (.aload_n 0, 1) := by decide +kernel
theorem dX2_reaches_49 : decode cX2_reaches 49 = .ok (.getfield 16, 3) := by decide +kernel
theorem dX2_reaches_52 : decode cX2_reaches 52 = .ok (.iload_n 2, 1) := by decide +kernel
theorem dX2_reaches_53 : decode cX2_reaches 53 = .ok (.invokevirtual 32, 3) := by decide +kernel
theorem dX2_reaches_56 : decode cX2_reaches 56 = .ok (.aload_n 0, 1) := by decide +kernel
theorem dX2_reaches_57 : decode cX2_reaches 57 = .ok (.getfield 16, 3) := by decide +kernel
theorem dX2_reaches_60 : decode cX2_reaches 60 = .ok (.iconst 1, 1) := by decide +kernel
theorem dX2_reaches_61 : decode cX2_reaches 61 = .ok (.aload_n 0, 1) := by decide +kernel
theorem dX2_reaches_62 : decode cX2_reaches 62 = .ok (.getfield 10, 3) := by decide +kernel
theorem dX2_reaches_65 : decode cX2_reaches 65 = .ok (.iconst 1, 1) := by decide +kernel
theorem dX2_reaches_66 : decode cX2_reaches 66 = .ok (.invokestatic 35, 3) := by decide +kernel
theorem dX2_reaches_69 : decode cX2_reaches 69 = .ok (.ifCond .ne 5, 3) := by decide +kernel
theorem dX2_reaches_72 : decode cX2_reaches 72 = .ok (.iconst 1, 1) := by decide +kernel
theorem dX2_reaches_73 : decode cX2_reaches 73 = .ok (.ireturn, 1) := by decide +kernel
theorem dX2_reaches_74 : decode cX2_reaches 74 = .ok (.aload_n 0, 1) := by decide +kernel
theorem dX2_reaches_75 : decode cX2_reaches 75 = .ok (.getfield 10, 3) := by decide +kernel
theorem dX2_reaches_78 : decode cX2_reaches 78 = .ok (.aload_n 0, 1) := by decide +kernel
theorem dX2_reaches_79 : decode cX2_reaches 79 = .ok (.getfield 16, 3) := by decide +kernel
theorem dX2_reaches_82 : decode cX2_reaches 82 = .ok (.iconst (-1), 1) := by decide +kernel
theorem dX2_reaches_83 : decode cX2_reaches 83 = .ok (.invokevirtual 39, 3) := by decide +kernel
theorem dX2_reaches_86 : decode cX2_reaches 86 = .ok (.iconst 2, 1) := by decide +kernel
theorem dX2_reaches_87 : decode cX2_reaches 87 = .ok (.iload_n 2, 1) := by decide +kernel
theorem dX2_reaches_88 : decode cX2_reaches 88 = .ok (.imul, 1) := by decide +kernel
theorem dX2_reaches_89 : decode cX2_reaches 89 = .ok (.iload 4, 2) := by decide +kernel
theorem dX2_reaches_91 : decode cX2_reaches 91 = .ok (.iconst 1, 1) := by decide +kernel
theorem dX2_reaches_92 : decode cX2_reaches 92 = .ok (.iadd, 1) := by decide +kernel
theorem dX2_reaches_93 : decode cX2_reaches 93 = .ok (.iload_n 3, 1) := by decide +kernel
theorem dX2_reaches_94 : decode cX2_reaches 94 = .ok (.imul, 1) := by decide +kernel
theorem dX2_reaches_95 : decode cX2_reaches 95 = .ok (.if_icmp .gt 7, 3) := by decide +kernel
theorem dX2_reaches_98 : decode cX2_reaches 98 = .ok (.iconst 1, 1) := by decide +kernel
theorem dX2_reaches_99 : decode cX2_reaches 99 = .ok (.goto 4, 3) := by decide +kernel
theorem dX2_reaches_102 : decode cX2_reaches 102 = .ok (.iconst 0, 1) := by decide +kernel
theorem dX2_reaches_103 : decode cX2_reaches 103 = .ok (.istore 5, 2) := by decide +kernel
theorem dX2_reaches_105 : decode cX2_reaches 105 = .ok (.iload 5, 2) := by decide +kernel
theorem dX2_reaches_107 : decode cX2_reaches 107 = .ok (.ifCond .eq 21, 3) := by decide +kernel
theorem dX2_reaches_110 : decode cX2_reaches 110 = .ok (.aload_n 0, 1) := by decide +kernel
theorem dX2_reaches_111 : decode cX2_reaches 111 = .ok (.getfield 10, 3) := by decide +kernel
theorem dX2_reaches_114 : decode cX2_reaches 114 = .ok (.iconst 1, 1) := by decide +kernel
theorem dX2_reaches_115 : decode cX2_reaches 115 = .ok (.aload_n 0, 1) := by decide +kernel
theorem dX2_reaches_116 : decode cX2_reaches 116 = .ok (.getfield 16, 3) := by decide +kernel
theorem dX2_reaches_119 : decode cX2_reaches 119 = .ok (.iconst 1, 1) := by decide +kernel
theorem dX2_reaches_120 : decode cX2_reaches 120 = .ok (.invokestatic 35, 3) := by decide +kernel
theorem dX2_reaches_123 : decode cX2_reaches 123 = .ok (.ifCond .ne 5, 3) := by decide +kernel
theorem dX2_reaches_126 : decode cX2_reaches 126 = .ok (.iconst 0, 1) := by decide +kernel
theorem dX2_reaches_127 : decode cX2_reaches 127 = .ok (.ireturn, 1) := by decide +kernel
theorem dX2_reaches_128 : decode cX2_reaches 128 = .ok (.iinc 4 1, 3) := by decide +kernel
theorem dX2_reaches_131 : decode cX2_reaches 131 = .ok (.goto (-101), 3) := by decide +kernel
theorem dX2_reaches_134 : decode cX2_reaches 134 = .ok (.iconst 0, 1) := by decide +kernel
theorem dX2_reaches_135 : decode cX2_reaches 135 = .ok (.ireturn, 1) := by decide +kernel
end
section
/-! The shape in which every contract of this claim is written: a world of cells before, a world of cells behind, the post condition a predicate that the caller chooses. -/
def wT (cI cJ : ClassId) : List (ClassId × FieldType) := [(cI, .int), (cJ, .long)]
def wKK (G : va_G) (cI cJ : ClassId) (U : State) : Prop := va_K G vwCl (wT cI cJ) U ∧ U.vm.findClass "[I" = some cI ∧ U.vm.findClass "[J" = some cJ
theorem wKK.moved {G : va_G} {cI cJ : ClassId} {u U : State} (hvm : u.vm.Alike U.vm) (h : wKK G cI cJ u) : wKK G cI cJ U :=
  ⟨va_K.moved hvm h.1, by rw [hvm.findClass]; exact h.2.1, by rw [hvm.findClass]; exact h.2.2⟩
def wIn (G : va_G) (cI cJ : ClassId) (w : va_W) (sz : Nat) (U : State) : Prop := U.heap.size = sz ∧ va_P G vwCl w U.heap ∧ wKK G cI cJ U ∧ va_D (fun _ => True) w
def wOut (G : va_G) (cI cJ : ClassId) (A : Nat → Prop) (w : va_W) (t : State) : Prop := va_P G vwCl w t.heap ∧ wKK G cI cJ t ∧ va_D A w
theorem wIn_blind {G : va_G} {cI cJ : ClassId} {w : va_W} {sz : Nat} {av : List Value} : FrameBlind (va_Pc av (wIn G cI cJ w sz)) :=
  fun a U g mk q => by obtain ⟨q0, q1, qP, qK, qD⟩ := q; exact ⟨q0, q1, qP, wKK.moved (u := U) (U := U.calling g mk a) (Vm.Alike.refl U.vm) qK, qD⟩
def Ki {S : Type} (l : Launch) (y : MethodName) (ws : List Cond) (rm : Room) (G : va_G) (cI cJ : ClassId) (av : List Value) (w : va_W) (post : Int32 → S → Prop) (w' : S → va_W) : Prop :=
  ∀ sz : Nat, Met l y ws rm (va_Pc av (wIn G cI cJ w sz)) (va_Qi post (fun u => wOut G cI cJ (va_A w sz) (w' u)) (va_A w sz)) 0 0 (va_A w sz)
def Kl {S : Type} (l : Launch) (y : MethodName) (ws : List Cond) (rm : Room) (G : va_G) (cI cJ : ClassId) (av : List Value) (w : va_W) (post : Int64 → S → Prop) (w' : S → va_W) : Prop :=
  ∀ sz : Nat, Met l y ws rm (va_Pc av (wIn G cI cJ w sz)) (va_Ql post (fun u => wOut G cI cJ (va_A w sz) (w' u)) (va_A w sz)) 0 0 (va_A w sz)
def Kv {S : Type} (l : Launch) (y : MethodName) (ws : List Cond) (rm : Room) (G : va_G) (cI cJ : ClassId) (av : List Value) (w : va_W) (post : S → Prop) (w' : S → va_W) : Prop :=
  ∀ sz : Nat, Met l y ws rm (va_Pc av (wIn G cI cJ w sz)) (va_Qv post (fun u => wOut G cI cJ (va_A w sz) (w' u)) (va_A w sz)) 0 0 (va_A w sz)
/-- an answer that is a boolean -/
def wB (r : Int32) : Prop := r = 0 ∨ r = 1
theorem wB_narrow {r : Int32} (h : wB r) : narrow .boolean (.int r) = .int r := by rcases h with rfl | rfl <;> rfl
section WalkEntry
variable {l : Launch} {y : MethodName} {ws ws' : List Cond} {rm : Room} {G : va_G} {cI cJ : ClassId} {av : List Value} {w : va_W} {cc : ByteArray} {maxL : Nat}
theorem ki_intro {S : Type} {post : Int32 → S → Prop} {w' : S → va_W} (hrc : rm.cells = 0) (hrs : rm.slots = 0) (hy : plainName y.cls = true) (hw : ws = Cond.code y cc maxL (some .int) :: ws') (hlen : (lg_sl av).length ≤ maxL)
    (body : ∀ (p : Program) (e : Env) (s : State) (m : MethodId) (args : Array Value) (below : List Frame) (meth : Method) (c : Code) (A : Nat → Prop) (Z : State → Prop) (ls : Array Slot), p.tables.exec = Jvm.exec → c.code = cc → c.maxLocals = maxL → (∀ q ∈ ws, q.before args s = true) → s.vm.findClass y.cls = some m.cls →
      va_P G vwCl w s.heap → wKK G cI cJ s → va_D A w → va_S A s.heap s.heap [] → (∀ q : Nat, s.heap.size ≤ q → A q) → lv_has ls maxL (lv_args 0 av) →
      (∀ (v : Int32) (u : S) (H : Heap) (locs : List Loc) (pc : Nat) (ls : Array Slot), post v u → va_P G vwCl (w' u) H → va_D A (w' u) → va_S A s.heap H locs → decode cc pc = .ok (.ireturn, 1) → W p l e rm s m args below meth c H locs 0 0 Z (F0 m pc ls [.int v])) →
      W p l e rm s m args below meth c s.heap [] 0 0 Z (F0 m 0 ls [])) : Ki l y ws rm G cI cJ av w post w' := by
  intro sz
  refine Met.ofW (cc := cc) (maxL := maxL) (ret := some .int) hy hw ?_
  intro p e s m args below meth c s₁ B hml hv
  obtain ⟨rfl, hsz, hP, hK, hD0⟩ := hv
  have hr := B.returns
  have hlocks := B.notSynchronized
  subst hsz
  have hD := hD0.self (sz := s.heap.size)
  have hl := lv_entry av (n := maxL) hlen
  rw [lg_entry_eq]
  exact body p e s m _ below meth c _ _ _ B.exec B.bytes hml (atoms_spec B.pre) (findClass_of_methodNamed B.named) hP hK hD va_S.rf (fun q h => Or.inr h) hl
    (fun v u H locs pc ls hq hP hD hS hd => W.iret (v := v) B.exec B.bytes hr (fun t ht hW => ⟨⟨v, u, rfl, hq, by rw [ht]; exact hP, wKK.moved hW.alike hK, hD⟩, hS.F ht⟩) hS.2.2 hd)
theorem kz_intro {S : Type} {post : Int32 → S → Prop} {w' : S → va_W} (hrc : rm.cells = 0) (hrs : rm.slots = 0) (hy : plainName y.cls = true) (hw : ws = Cond.code y cc maxL (some .boolean) :: ws') (hlen : (lg_sl av).length ≤ maxL)
    (body : ∀ (p : Program) (e : Env) (s : State) (m : MethodId) (args : Array Value) (below : List Frame) (meth : Method) (c : Code) (A : Nat → Prop) (Z : State → Prop) (ls : Array Slot), p.tables.exec = Jvm.exec → c.code = cc → c.maxLocals = maxL → (∀ q ∈ ws, q.before args s = true) → s.vm.findClass y.cls = some m.cls →
      va_P G vwCl w s.heap → wKK G cI cJ s → va_D A w → va_S A s.heap s.heap [] → (∀ q : Nat, s.heap.size ≤ q → A q) → lv_has ls maxL (lv_args 0 av) →
      (∀ (v : Int32) (u : S) (H : Heap) (locs : List Loc) (pc : Nat) (ls : Array Slot), wB v → post v u → va_P G vwCl (w' u) H → va_D A (w' u) → va_S A s.heap H locs → decode cc pc = .ok (.ireturn, 1) → W p l e rm s m args below meth c H locs 0 0 Z (F0 m pc ls [.int v])) →
      W p l e rm s m args below meth c s.heap [] 0 0 Z (F0 m 0 ls [])) : Ki l y ws rm G cI cJ av w (fun r u => wB r ∧ post r u) w' := by
  intro sz
  refine Met.ofW (cc := cc) (maxL := maxL) (ret := some .boolean) hy hw ?_
  intro p e s m args below meth c s₁ B hml hv
  obtain ⟨rfl, hsz, hP, hK, hD0⟩ := hv
  have hr := B.returns
  have hlocks := B.notSynchronized
  subst hsz
  have hD := hD0.self (sz := s.heap.size)
  have hl := lv_entry av (n := maxL) hlen
  rw [lg_entry_eq]
  exact body p e s m _ below meth c _ _ _ B.exec B.bytes hml (atoms_spec B.pre) (findClass_of_methodNamed B.named) hP hK hD va_S.rf (fun q h => Or.inr h) hl
    (fun v u H locs pc ls hz hq hP hD hS hd => W.zret (v := v) (ty := .boolean) B.exec B.bytes hr (wB_narrow hz) (fun t ht hW => ⟨⟨v, u, rfl, ⟨hz, hq⟩, by rw [ht]; exact hP, wKK.moved hW.alike hK, hD⟩, hS.F ht⟩) hS.2.2 hd)
theorem kl_intro {S : Type} {post : Int64 → S → Prop} {w' : S → va_W} (hrc : rm.cells = 0) (hrs : rm.slots = 0) (hy : plainName y.cls = true) (hw : ws = Cond.code y cc maxL (some .long) :: ws') (hlen : (lg_sl av).length ≤ maxL)
    (body : ∀ (p : Program) (e : Env) (s : State) (m : MethodId) (args : Array Value) (below : List Frame) (meth : Method) (c : Code) (A : Nat → Prop) (Z : State → Prop) (ls : Array Slot), p.tables.exec = Jvm.exec → c.code = cc → c.maxLocals = maxL → (∀ q ∈ ws, q.before args s = true) → s.vm.findClass y.cls = some m.cls →
      va_P G vwCl w s.heap → wKK G cI cJ s → va_D A w → va_S A s.heap s.heap [] → (∀ q : Nat, s.heap.size ≤ q → A q) → lv_has ls maxL (lv_args 0 av) →
      (∀ (v : Int64) (u : S) (H : Heap) (locs : List Loc) (pc : Nat) (ls : Array Slot), post v u → va_P G vwCl (w' u) H → va_D A (w' u) → va_S A s.heap H locs → decode cc pc = .ok (.lreturn, 1) → W p l e rm s m args below meth c H locs 0 0 Z (F0 m pc ls [.long v])) →
      W p l e rm s m args below meth c s.heap [] 0 0 Z (F0 m 0 ls [])) : Kl l y ws rm G cI cJ av w post w' := by
  intro sz
  refine Met.ofW (cc := cc) (maxL := maxL) (ret := some .long) hy hw ?_
  intro p e s m args below meth c s₁ B hml hv
  obtain ⟨rfl, hsz, hP, hK, hD0⟩ := hv
  have hr := B.returns
  have hlocks := B.notSynchronized
  subst hsz
  have hD := hD0.self (sz := s.heap.size)
  have hl := lv_entry av (n := maxL) hlen
  rw [lg_entry_eq]
  exact body p e s m _ below meth c _ _ _ B.exec B.bytes hml (atoms_spec B.pre) (findClass_of_methodNamed B.named) hP hK hD va_S.rf (fun q h => Or.inr h) hl
    (fun v u H locs pc ls hq hP hD hS hd => W.lret (v := v) B.exec B.bytes hr (fun t ht hW => ⟨⟨v, u, rfl, hq, by rw [ht]; exact hP, wKK.moved hW.alike hK, hD⟩, hS.F ht⟩) hS.2.2 hd)
theorem kv_intro {S : Type} {post : S → Prop} {w' : S → va_W} (hrc : rm.cells = 0) (hrs : rm.slots = 0) (hy : plainName y.cls = true) (hw : ws = Cond.code y cc maxL none :: ws') (hlen : (lg_sl av).length ≤ maxL)
    (body : ∀ (p : Program) (e : Env) (s : State) (m : MethodId) (args : Array Value) (below : List Frame) (meth : Method) (c : Code) (A : Nat → Prop) (Z : State → Prop) (ls : Array Slot), p.tables.exec = Jvm.exec → c.code = cc → c.maxLocals = maxL → (∀ q ∈ ws, q.before args s = true) → s.vm.findClass y.cls = some m.cls →
      va_P G vwCl w s.heap → wKK G cI cJ s → va_D A w → va_S A s.heap s.heap [] → (∀ q : Nat, s.heap.size ≤ q → A q) → lv_has ls maxL (lv_args 0 av) →
      (∀ (u : S) (H : Heap) (locs : List Loc) (pc : Nat) (ls : Array Slot), post u → va_P G vwCl (w' u) H → va_D A (w' u) → va_S A s.heap H locs → decode cc pc = .ok (.return_, 1) → W p l e rm s m args below meth c H locs 0 0 Z (F0 m pc ls [])) →
      W p l e rm s m args below meth c s.heap [] 0 0 Z (F0 m 0 ls [])) : Kv l y ws rm G cI cJ av w post w' := by
  intro sz
  refine Met.ofW (cc := cc) (maxL := maxL) (ret := none) hy hw ?_
  intro p e s m args below meth c s₁ B hml hv
  obtain ⟨rfl, hsz, hP, hK, hD0⟩ := hv
  have hr := B.returns
  have hlocks := B.notSynchronized
  subst hsz
  have hD := hD0.self (sz := s.heap.size)
  have hl := lv_entry av (n := maxL) hlen
  rw [lg_entry_eq]
  exact body p e s m _ below meth c _ _ _ B.exec B.bytes hml (atoms_spec B.pre) (findClass_of_methodNamed B.named) hP hK hD va_S.rf (fun q h => Or.inr h) hl
    (fun u H locs pc ls hq hP hD hS hd => W.vret B.exec B.bytes hr (fun t ht hW => ⟨⟨u, rfl, hq, by rw [ht]; exact hP, wKK.moved hW.alike hK, hD⟩, hS.F ht⟩) hS.2.2 hd)
end WalkEntry
section WalkCells
variable {p : Program} {l : Launch} {e : Env} {R : Room} {s : State} {m : MethodId} {args : Array Value} {below : List Frame} {meth : Method} {c : Code} {H : Heap} {locs : List Loc} {cells slots : Nat} {Q : State → Prop} {cc : ByteArray} {pc : Nat} {ls : Array Slot} {rest st0 : List Value} {G : va_G} {cI cJ : ClassId} {A : Nat → Prop} {H0 : Heap} {a : Nat} {ws : va_W}
theorem k_get (hx : p.tables.exec = Jvm.exec) (hb : c.code = cc) {own C : String} {T : u_T} {N index : Nat} {Ts : List Cond} (hts : ∀ w ∈ Ts, w.before args s = true) (hin : ∀ w ∈ u_ws C T N, w ∈ Ts) (hown : s.vm.findClass own = some m.cls) (hK : wKK G cI cJ s) (hP : va_P G vwCl ws H) (q0 ci : Nat) {fs : List Value} (he : ws[q0]? = some (a, .inr (ci, fs))) (hc : vwCl[ci]? = some (C, T, N)) (k : Nat) (hk : k < N) (hlink : Cond.fieldLink own index (T k).1 (T k).2.1 (T k).2.2.1 ∈ Ts) (v : Value) (hv : fs[k]? = some v) (hdg : decode cc pc = .ok (.getfield index, 3))
    (kk : W p l e R s m args below meth c H locs cells slots Q (F0 m (pc + 3) ls (v :: rest))) : W p l e R s m args below meth c H locs cells slots Q (F0 m pc ls (.ref a :: rest)) :=
  va_get hx hb hts hin hown hK.1 hP q0 he hc k hk (hts _ hlink) (fun _ h => h) hv hdg kk
theorem k_put (hx : p.tables.exec = Jvm.exec) (hb : c.code = cc) {own C : String} {T : u_T} {N index : Nat} {Ts : List Cond} (hts : ∀ w ∈ Ts, w.before args s = true) (hin : ∀ w ∈ u_ws C T N, w ∈ Ts) (ty0 : Nat → FieldType) (hty : ∀ k, k < N → parseFieldDescriptor (T k).2.2.1 = some (ty0 k)) (hnm : ∀ a, a < N → ∀ b, b < N → a ≠ b → (T a).2.1 ≠ (T b).2.1) (hown : s.vm.findClass own = some m.cls) (hK : wKK G cI cJ s) (hP : va_P G vwCl ws H) (hD : va_D A ws) (hS0 : va_S A H0 H locs) (q0 ci : Nat) {fs : List Value} (he : ws[q0]? = some (a, .inr (ci, fs))) (hc : vwCl[ci]? = some (C, T, N)) (k : Nat) (hk : k < N) (hlink : Cond.fieldLink own index (T k).1 (T k).2.1 (T k).2.2.1 ∈ Ts) (hfin : (T k).2.2.2 = false) {v : Value} (hn : narrow (ty0 k) v = v) (hfit : fits (ty0 k) v = true) (hl : k < fs.length) {w' : va_W} (hw' : ws.set q0 (a, .inr (ci, fs.set k v)) = w')
    (hdg : decode cc pc = .ok (.putfield index, 3)) (kk : ∀ (H1 : Heap) (locs1 : List Loc), va_P G vwCl w' H1 → va_D A w' → va_S A H0 H1 locs1 → W p l e R s m args below meth c H1 locs1 cells slots Q (F0 m (pc + 3) ls rest)) : W p l e R s m args below meth c H locs cells slots Q (F0 m pc ls (v :: .ref a :: rest)) :=
  va_put hx hb hts hin ty0 hty hnm hown hK.1 hP hD hS0 q0 he hc k hk (hts _ hlink) (fun _ h => h) hfin (hty k hk) hn hfit hl hdg (fun H1 l1 h1 h2 h3 => by subst hw'; exact kk H1 l1 h1 h2 h3)
theorem k_iald (hx : p.tables.exec = Jvm.exec) (hb : c.code = cc) (hK : wKK G cI cJ s) (hP : va_P G vwCl ws H) (q0 : Nat) {n : Nat} {f : Nat → Int32} (ha : ws[q0]? = some (a, .inl (cI, n, .inl f))) {i : Int32} (hin : vp_in i n) (hdg : decode cc pc = .ok (.iaload, 1))
    (kk : W p l e R s m args below meth c H locs cells slots Q (F0 m (pc + 1) ls (.int (f i.toNatClampNeg) :: rest))) : W p l e R s m args below meth c H locs cells slots Q (F0 m pc ls (.int i :: .ref a :: rest)) :=
  va_iald hx hb hK.1 hP q0 0 ha rfl hin hdg kk
theorem k_lald (hx : p.tables.exec = Jvm.exec) (hb : c.code = cc) (hK : wKK G cI cJ s) (hP : va_P G vwCl ws H) (q0 : Nat) {n : Nat} {f : Nat → Int64} (ha : ws[q0]? = some (a, .inl (cJ, n, .inr (.inl f)))) {i : Int32} (hin : vp_in i n) (hdg : decode cc pc = .ok (.laload, 1))
    (kk : W p l e R s m args below meth c H locs cells slots Q (F0 m (pc + 1) ls (.long (f i.toNatClampNeg) :: rest))) : W p l e R s m args below meth c H locs cells slots Q (F0 m pc ls (.int i :: .ref a :: rest)) :=
  va_lald hx hb hK.1 hP q0 1 ha rfl hin hdg kk
theorem k_iast (hx : p.tables.exec = Jvm.exec) (hb : c.code = cc) (hK : wKK G cI cJ s) (hP : va_P G vwCl ws H) (hD : va_D A ws) (hS : va_S A H0 H locs) (q0 : Nat) {n : Nat} {f : Nat → Int32} (ha : ws[q0]? = some (a, .inl (cI, n, .inl f))) {i x : Int32} (hin : vp_in i n) {w' : (Nat → Int32) → va_W} (hw' : ∀ g : Nat → Int32, ws.set q0 (a, .inl (cI, n, .inl g)) = w' g) (hdg : decode cc pc = .ok (.iastore, 1))
    (kk : ∀ (g : Nat → Int32), g = upd f i.toNatClampNeg x → ∀ (H1 : Heap) (locs1 : List Loc), va_P G vwCl (w' g) H1 → va_D A (w' g) → va_S A H0 H1 locs1 → W p l e R s m args below meth c H1 locs1 cells slots Q (F0 m (pc + 1) ls rest)) : W p l e R s m args below meth c H locs cells slots Q (F0 m pc ls (.int x :: .int i :: .ref a :: rest)) :=
  va_iast hx hb hK.1 hP hD hS q0 0 ha rfl hin hdg (fun H1 l1 h1 h2 h3 => kk _ rfl H1 l1 (by rw [← hw']; exact h1) (by rw [← hw']; exact h2) h3)
theorem k_last (hx : p.tables.exec = Jvm.exec) (hb : c.code = cc) (hK : wKK G cI cJ s) (hP : va_P G vwCl ws H) (hD : va_D A ws) (hS : va_S A H0 H locs) (q0 : Nat) {n : Nat} {f : Nat → Int64} (ha : ws[q0]? = some (a, .inl (cJ, n, .inr (.inl f)))) {i : Int32} {x : Int64} (hin : vp_in i n) {w' : (Nat → Int64) → va_W} (hw' : ∀ g : Nat → Int64, ws.set q0 (a, .inl (cJ, n, .inr (.inl g))) = w' g) (hdg : decode cc pc = .ok (.lastore, 1))
    (kk : ∀ (g : Nat → Int64), g = vp_updL f i.toNatClampNeg x → ∀ (H1 : Heap) (locs1 : List Loc), va_P G vwCl (w' g) H1 → va_D A (w' g) → va_S A H0 H1 locs1 → W p l e R s m args below meth c H1 locs1 cells slots Q (F0 m (pc + 1) ls rest)) : W p l e R s m args below meth c H locs cells slots Q (F0 m pc ls (.long x :: .int i :: .ref a :: rest)) :=
  va_last hx hb hK.1 hP hD hS q0 1 ha rfl hin hdg (fun H1 l1 h1 h2 h3 => kk _ rfl H1 l1 (by rw [← hw']; exact h1) (by rw [← hw']; exact h2) h3)
theorem k_alen (hx : p.tables.exec = Jvm.exec) (hb : c.code = cc) (hK : wKK G cI cJ s) (hP : va_P G vwCl ws H) (q0 : Nat) {n : Nat} {x : (Nat → Int32) ⊕ (Nat → Int64) ⊕ (Nat → UInt32) ⊕ (Nat → UInt64) ⊕ (Nat → Option Nat)} (ha : ws[q0]? = some (a, .inl (cI, n, x))) (v : Int32) (hv : Int32.ofNat n = v) (hdg : decode cc pc = .ok (.arraylength, 1))
    (kk : W p l e R s m args below meth c H locs cells slots Q (F0 m (pc + 1) ls (.int v :: rest))) : W p l e R s m args below meth c H locs cells slots Q (F0 m pc ls (.ref a :: rest)) :=
  va_alen hx hb hK.1 hP q0 0 ha (ty := .int) rfl hv hdg kk
/-- what a caller gives beside the callee's contract: the callee's cells among its own, and how the world is ordered behind -/
theorem k_back {S : Type} {wd wc wr : va_W} {w' wn : S → va_W} {H1 : Heap} (hP : va_P G vwCl wd H) (hD : va_D A wd) (hF : ∀ q, va_A wc H.size q → A q) (isC isR pm : List Nat) (hC : isC.map (fun i => wd[i]?) = wc.map some) (hR : isR.map (fun i => wd[i]?) = wr.map some) (hn2 : va_nd isR = true) (hdis : ∀ i ∈ isR, i ∉ isC) (u : S) (hpm : va_nd pm = true) (hpn : pm.map (fun i => (wr ++ w' u)[i]?) = (wn u).map some)
    (hk : ∀ q : Nat, q < H.size → ¬ va_A wc H.size q → H1[q]? = H[q]?) (hP1 : va_P G vwCl (w' u) H1) (hD1 : va_D (va_A wc H.size) (w' u)) : va_P G vwCl (wn u) H1 ∧ va_D A (wn u) := by
  obtain ⟨h1, h2⟩ := va_join hP hD isC isR hC hR hn2 hdis hk hF hP1 hD1
  refine ⟨?_, h2.sub pm hpm hpn⟩
  intro k q hq
  have h3 : (pm.map (fun i => (wr ++ w' u)[i]?))[k]? = ((wn u).map some)[k]? := by rw [hpn]
  rw [List.getElem?_map, List.getElem?_map, hq] at h3
  cases h4 : pm[k]? with
  | none => rw [h4] at h3; simp at h3
  | some i =>
    rw [h4] at h3
    exact h1 i q (by simpa using h3)
theorem k_callPc {wd wc : va_W} {av : List Value} (hK : wKK G cI cJ s) (hP : va_P G vwCl wd H) (hD : va_D A wd) (isC : List Nat) (hC : isC.map (fun i => wd[i]?) = wc.map some) (hnC : va_nd isC = true) :
    ∀ U : State, U.heap = H → s.WarmedH U.vm → va_Pc av (wIn G cI cJ wc H.size) av.toArray U := by
  intro U hU hW
  refine ⟨rfl, by rw [hU], ?_, wKK.moved hW.alike hK, (hD.sub isC hnC hC).weaken (fun _ _ _ _ => trivial)⟩
  rw [hU]
  intro k q hq
  have h3 : (isC.map (fun i => wd[i]?))[k]? = (wc.map some)[k]? := by rw [hC]
  rw [List.getElem?_map, List.getElem?_map, hq] at h3
  cases h4 : isC[k]? with
  | none => rw [h4] at h3; simp at h3
  | some i =>
    rw [h4] at h3
    exact hP i q (by simpa using h3)
variable {own C : String} {index maxL n nL : Nat} {y : MethodName} {bytes : ByteArray} {wsY Ts ws' : List Cond} {rm : Room} {b ci q0 : Nat} {As : List Value} {wd wc wr : va_W} {fs : List Value} {T : u_T} {N : Nat} {S : Type}
theorem k_Vi {post : Int32 → S → Prop} {w' wn : S → va_W} {ret : Option FieldType} (hM : Ki l y wsY rm G cI cJ (.ref b :: As) wc post w') (fx : CallFix p m c cc nL s args Ts own) (cw : CallW R s args own C index y bytes maxL ret wsY rm 0 0 n) (hK : wKK G cI cJ s) (hP : va_P G vwCl wd H) (hD : va_D A wd) (hS : va_S A H0 H locs) (hA : ∀ q, H0.size ≤ q → A q) (isC isR pm : List Nat) (hC : isC.map (fun i => wd[i]?) = wc.map some) (hR : isR.map (fun i => wd[i]?) = wr.map some) (hnC : va_nd isC = true) (hn2 : va_nd isR = true) (hdis : ∀ i ∈ isR, i ∉ isC) (hpm : va_nd pm = true) (hpn : ∀ u : S, pm.map (fun i => (wr ++ w' u)[i]?) = (wn u).map some)
    (hrecv : wc[q0]? = some (b, .inr (ci, fs))) (hcl : vwCl[ci]? = some (C, T, N)) (hn : As.length = n) (hls : ls.size = nL) (hst : st0 = As.reverse ++ .ref b :: rest) (hrm : (rest.map fun v => v.category).sum ≤ 8) (hc0 : cells ≤ R.cells) (hs0 : slots ≤ R.slots) (hdg : decode cc pc = .ok (.invokevirtual index, 3))
    (kk : ∀ (r : Int32) (u : S) (H1 : Heap) (locs1 : List Loc), post r u → va_P G vwCl (wn u) H1 → va_D A (wn u) → va_S A H0 H1 locs1 → W p l e R s m args below meth c H1 locs1 cells slots Q (F0 m (pc + 3) ls (.int r :: rest))) : W p l e R s m args below meth c H locs cells slots Q (F0 m pc ls st0) := by
  have hF := va_free (wc := wc) hD hS hA isC hC
  have hpc := k_callPc (av := .ref b :: As) hK hP hD isC hC hnC
  have hPc : va_P G vwCl wc H := by have h := (hpc ({ s with heap := H }) rfl (State.WarmedH.refl _)).2.2.1; exact h
  refine va_calli (va_runV (As := As) (rest := rest) fx (hM H.size) cw ⟨wIn_blind, va_recv hK.1 hPc hcl hrecv, hpc⟩ rfl hn hls hst (lv_room hrm) hdg ⟨hc0, hs0⟩) hS (fun q _ h => hF q h) hF (fun r u t H1 locs1 ht hvm hw hB hz1 hk1 hS => ?_)
  obtain ⟨hP1, hK1, hD1⟩ := hB
  rw [ht] at hP1
  obtain ⟨hP2, hD2⟩ := k_back (w' := w') (wn := wn) hP hD hF isC isR pm hC hR hn2 hdis u hpm (hpn u) hk1 hP1 hD1
  exact kk r u H1 locs1 hw hP2 hD2 hS
theorem k_Vl {post : Int64 → S → Prop} {w' wn : S → va_W} {ret : Option FieldType} (hM : Kl l y wsY rm G cI cJ (.ref b :: As) wc post w') (fx : CallFix p m c cc nL s args Ts own) (cw : CallW R s args own C index y bytes maxL ret wsY rm 0 0 n) (hK : wKK G cI cJ s) (hP : va_P G vwCl wd H) (hD : va_D A wd) (hS : va_S A H0 H locs) (hA : ∀ q, H0.size ≤ q → A q) (isC isR pm : List Nat) (hC : isC.map (fun i => wd[i]?) = wc.map some) (hR : isR.map (fun i => wd[i]?) = wr.map some) (hnC : va_nd isC = true) (hn2 : va_nd isR = true) (hdis : ∀ i ∈ isR, i ∉ isC) (hpm : va_nd pm = true) (hpn : ∀ u : S, pm.map (fun i => (wr ++ w' u)[i]?) = (wn u).map some)
    (hrecv : wc[q0]? = some (b, .inr (ci, fs))) (hcl : vwCl[ci]? = some (C, T, N)) (hn : As.length = n) (hls : ls.size = nL) (hst : st0 = As.reverse ++ .ref b :: rest) (hrm : (rest.map fun v => v.category).sum ≤ 8) (hc0 : cells ≤ R.cells) (hs0 : slots ≤ R.slots) (hdg : decode cc pc = .ok (.invokevirtual index, 3))
    (kk : ∀ (r : Int64) (u : S) (H1 : Heap) (locs1 : List Loc), post r u → va_P G vwCl (wn u) H1 → va_D A (wn u) → va_S A H0 H1 locs1 → W p l e R s m args below meth c H1 locs1 cells slots Q (F0 m (pc + 3) ls (.long r :: rest))) : W p l e R s m args below meth c H locs cells slots Q (F0 m pc ls st0) := by
  have hF := va_free (wc := wc) hD hS hA isC hC
  have hpc := k_callPc (av := .ref b :: As) hK hP hD isC hC hnC
  have hPc : va_P G vwCl wc H := by have h := (hpc ({ s with heap := H }) rfl (State.WarmedH.refl _)).2.2.1; exact h
  refine va_calll (va_runV (As := As) (rest := rest) fx (hM H.size) cw ⟨wIn_blind, va_recv hK.1 hPc hcl hrecv, hpc⟩ rfl hn hls hst (lv_room hrm) hdg ⟨hc0, hs0⟩) hS (fun q _ h => hF q h) hF (fun r u t H1 locs1 ht hvm hw hB hz1 hk1 hS => ?_)
  obtain ⟨hP1, hK1, hD1⟩ := hB
  rw [ht] at hP1
  obtain ⟨hP2, hD2⟩ := k_back (w' := w') (wn := wn) hP hD hF isC isR pm hC hR hn2 hdis u hpm (hpn u) hk1 hP1 hD1
  exact kk r u H1 locs1 hw hP2 hD2 hS
theorem k_Vv {post : S → Prop} {w' wn : S → va_W} {ret : Option FieldType} (hM : Kv l y wsY rm G cI cJ (.ref b :: As) wc post w') (fx : CallFix p m c cc nL s args Ts own) (cw : CallW R s args own C index y bytes maxL ret wsY rm 0 0 n) (hK : wKK G cI cJ s) (hP : va_P G vwCl wd H) (hD : va_D A wd) (hS : va_S A H0 H locs) (hA : ∀ q, H0.size ≤ q → A q) (isC isR pm : List Nat) (hC : isC.map (fun i => wd[i]?) = wc.map some) (hR : isR.map (fun i => wd[i]?) = wr.map some) (hnC : va_nd isC = true) (hn2 : va_nd isR = true) (hdis : ∀ i ∈ isR, i ∉ isC) (hpm : va_nd pm = true) (hpn : ∀ u : S, pm.map (fun i => (wr ++ w' u)[i]?) = (wn u).map some)
    (hrecv : wc[q0]? = some (b, .inr (ci, fs))) (hcl : vwCl[ci]? = some (C, T, N)) (hn : As.length = n) (hls : ls.size = nL) (hst : st0 = As.reverse ++ .ref b :: rest) (hrm : (rest.map fun v => v.category).sum ≤ 8) (hc0 : cells ≤ R.cells) (hs0 : slots ≤ R.slots) (hdg : decode cc pc = .ok (.invokevirtual index, 3))
    (kk : ∀ (u : S) (H1 : Heap) (locs1 : List Loc), post u → va_P G vwCl (wn u) H1 → va_D A (wn u) → va_S A H0 H1 locs1 → W p l e R s m args below meth c H1 locs1 cells slots Q (F0 m (pc + 3) ls rest)) : W p l e R s m args below meth c H locs cells slots Q (F0 m pc ls st0) := by
  have hF := va_free (wc := wc) hD hS hA isC hC
  have hpc := k_callPc (av := .ref b :: As) hK hP hD isC hC hnC
  have hPc : va_P G vwCl wc H := by have h := (hpc ({ s with heap := H }) rfl (State.WarmedH.refl _)).2.2.1; exact h
  refine va_callv (va_runV (As := As) (rest := rest) fx (hM H.size) cw ⟨wIn_blind, va_recv hK.1 hPc hcl hrecv, hpc⟩ rfl hn hls hst (lv_room hrm) hdg ⟨hc0, hs0⟩) hS (fun q _ h => hF q h) hF (fun u t H1 locs1 ht hvm hw hB hz1 hk1 hS => ?_)
  obtain ⟨hP1, hK1, hD1⟩ := hB
  rw [ht] at hP1
  obtain ⟨hP2, hD2⟩ := k_back (w' := w') (wn := wn) hP hD hF isC isR pm hC hR hn2 hdis u hpm (hpn u) hk1 hP1 hD1
  exact kk u H1 locs1 hw hP2 hD2 hS
theorem k_Si {post : Int32 → S → Prop} {w' wn : S → va_W} {ret : Option FieldType} (hM : Ki l y wsY rm G cI cJ As wc post w') (fx : CallFix p m c cc nL s args Ts own) (cw : CallB R s args own index y bytes maxL ret wsY rm 0 0 n ∧ (Cond.static y).before args s = true) (hK : wKK G cI cJ s) (hP : va_P G vwCl wd H) (hD : va_D A wd) (hS : va_S A H0 H locs) (hA : ∀ q, H0.size ≤ q → A q) (isC isR pm : List Nat) (hC : isC.map (fun i => wd[i]?) = wc.map some) (hR : isR.map (fun i => wd[i]?) = wr.map some) (hnC : va_nd isC = true) (hn2 : va_nd isR = true) (hdis : ∀ i ∈ isR, i ∉ isC) (hpm : va_nd pm = true) (hpn : ∀ u : S, pm.map (fun i => (wr ++ w' u)[i]?) = (wn u).map some)
    (hn : As.length = n) (hls : ls.size = nL) (hst : st0 = As.reverse ++ rest) (hrm : (rest.map fun v => v.category).sum ≤ 8) (hc0 : cells ≤ R.cells) (hs0 : slots ≤ R.slots) (hdg : decode cc pc = .ok (.invokestatic index, 3))
    (kk : ∀ (r : Int32) (u : S) (H1 : Heap) (locs1 : List Loc), post r u → va_P G vwCl (wn u) H1 → va_D A (wn u) → va_S A H0 H1 locs1 → W p l e R s m args below meth c H1 locs1 cells slots Q (F0 m (pc + 3) ls (.int r :: rest))) : W p l e R s m args below meth c H locs cells slots Q (F0 m pc ls st0) := by
  have hF := va_free (wc := wc) hD hS hA isC hC
  have hpc := k_callPc (av := As) hK hP hD isC hC hnC
  refine va_calli (va_runS (As := As) (rest := rest) fx (hM H.size) cw ⟨wIn_blind, hpc⟩ rfl hn hls hst (lv_room hrm) hdg ⟨hc0, hs0⟩) hS (fun q _ h => hF q h) hF (fun r u t H1 locs1 ht hvm hw hB hz1 hk1 hS => ?_)
  obtain ⟨hP1, hK1, hD1⟩ := hB
  rw [ht] at hP1
  obtain ⟨hP2, hD2⟩ := k_back (w' := w') (wn := wn) hP hD hF isC isR pm hC hR hn2 hdis u hpm (hpn u) hk1 hP1 hD1
  exact kk r u H1 locs1 hw hP2 hD2 hS
theorem k_Sl {post : Int64 → S → Prop} {w' wn : S → va_W} {ret : Option FieldType} (hM : Kl l y wsY rm G cI cJ As wc post w') (fx : CallFix p m c cc nL s args Ts own) (cw : CallB R s args own index y bytes maxL ret wsY rm 0 0 n ∧ (Cond.static y).before args s = true) (hK : wKK G cI cJ s) (hP : va_P G vwCl wd H) (hD : va_D A wd) (hS : va_S A H0 H locs) (hA : ∀ q, H0.size ≤ q → A q) (isC isR pm : List Nat) (hC : isC.map (fun i => wd[i]?) = wc.map some) (hR : isR.map (fun i => wd[i]?) = wr.map some) (hnC : va_nd isC = true) (hn2 : va_nd isR = true) (hdis : ∀ i ∈ isR, i ∉ isC) (hpm : va_nd pm = true) (hpn : ∀ u : S, pm.map (fun i => (wr ++ w' u)[i]?) = (wn u).map some)
    (hn : As.length = n) (hls : ls.size = nL) (hst : st0 = As.reverse ++ rest) (hrm : (rest.map fun v => v.category).sum ≤ 8) (hc0 : cells ≤ R.cells) (hs0 : slots ≤ R.slots) (hdg : decode cc pc = .ok (.invokestatic index, 3))
    (kk : ∀ (r : Int64) (u : S) (H1 : Heap) (locs1 : List Loc), post r u → va_P G vwCl (wn u) H1 → va_D A (wn u) → va_S A H0 H1 locs1 → W p l e R s m args below meth c H1 locs1 cells slots Q (F0 m (pc + 3) ls (.long r :: rest))) : W p l e R s m args below meth c H locs cells slots Q (F0 m pc ls st0) := by
  have hF := va_free (wc := wc) hD hS hA isC hC
  have hpc := k_callPc (av := As) hK hP hD isC hC hnC
  refine va_calll (va_runS (As := As) (rest := rest) fx (hM H.size) cw ⟨wIn_blind, hpc⟩ rfl hn hls hst (lv_room hrm) hdg ⟨hc0, hs0⟩) hS (fun q _ h => hF q h) hF (fun r u t H1 locs1 ht hvm hw hB hz1 hk1 hS => ?_)
  obtain ⟨hP1, hK1, hD1⟩ := hB
  rw [ht] at hP1
  obtain ⟨hP2, hD2⟩ := k_back (w' := w') (wn := wn) hP hD hF isC isR pm hC hR hn2 hdis u hpm (hpn u) hk1 hP1 hD1
  exact kk r u H1 locs1 hw hP2 hD2 hS
end WalkCells
end
section
/-! Fused rows: a compare of longs and its branch; a switch's way out. -/
section WalkMore
variable {p : Program} {l : Launch} {e : Env} {R : Room} {s : State} {m : MethodId} {args : Array Value} {below : List Frame} {meth : Method} {c : Code} {H : Heap} {locs : List Loc} {cells slots : Nat} {Q : State → Prop} {cc : ByteArray} {pc : Nat} {ls : Array Slot} {rest : List Value}
theorem k_lif_eq (hx : p.tables.exec = Jvm.exec) (hb : c.code = cc) {x y : Int64} {off : Int} {tgt : Nat} (h1 : decode cc pc = .ok (.lcmp, 1)) (h2 : decode cc (pc + 1) = .ok (.ifCond .eq off, 3)) (ht : ((pc + 1 : Nat) : Int) + off = (tgt : Int)) (kt : x = y → W p l e R s m args below meth c H locs cells slots Q (F0 m tgt ls rest)) (kf : ¬ x = y → W p l e R s m args below meth c H locs cells slots Q (F0 m (pc + 4) ls rest)) : W p l e R s m args below meth c H locs cells slots Q (F0 m pc ls (.long y :: .long x :: rest)) :=
  W.lcmp hx hb h1 (lv_if_eq hx hb h2 ht (fun h => kt ((lg_cmp_eq x y).mp h)) (fun h => kf (fun q => h ((lg_cmp_eq x y).mpr q))))
theorem k_lif_ne (hx : p.tables.exec = Jvm.exec) (hb : c.code = cc) {x y : Int64} {off : Int} {tgt : Nat} (h1 : decode cc pc = .ok (.lcmp, 1)) (h2 : decode cc (pc + 1) = .ok (.ifCond .ne off, 3)) (ht : ((pc + 1 : Nat) : Int) + off = (tgt : Int)) (kt : ¬ x = y → W p l e R s m args below meth c H locs cells slots Q (F0 m tgt ls rest)) (kf : x = y → W p l e R s m args below meth c H locs cells slots Q (F0 m (pc + 4) ls rest)) : W p l e R s m args below meth c H locs cells slots Q (F0 m pc ls (.long y :: .long x :: rest)) :=
  W.lcmp hx hb h1 (lv_if_ne hx hb h2 ht (fun h => kt (fun q => h ((lg_cmp_eq x y).mpr q))) (fun h => kf ((lg_cmp_eq x y).mp h)))
theorem k_lif_lt (hx : p.tables.exec = Jvm.exec) (hb : c.code = cc) {x y : Int64} {off : Int} {tgt : Nat} (h1 : decode cc pc = .ok (.lcmp, 1)) (h2 : decode cc (pc + 1) = .ok (.ifCond .lt off, 3)) (ht : ((pc + 1 : Nat) : Int) + off = (tgt : Int)) (kt : x < y → W p l e R s m args below meth c H locs cells slots Q (F0 m tgt ls rest)) (kf : ¬ x < y → W p l e R s m args below meth c H locs cells slots Q (F0 m (pc + 4) ls rest)) : W p l e R s m args below meth c H locs cells slots Q (F0 m pc ls (.long y :: .long x :: rest)) :=
  W.lcmp hx hb h1 (lv_if_lt hx hb h2 ht (fun h => kt ((lg_cmp_lt x y).mp h)) (fun h => kf (fun q => h ((lg_cmp_lt x y).mpr q))))
theorem k_lif_le (hx : p.tables.exec = Jvm.exec) (hb : c.code = cc) {x y : Int64} {off : Int} {tgt : Nat} (h1 : decode cc pc = .ok (.lcmp, 1)) (h2 : decode cc (pc + 1) = .ok (.ifCond .le off, 3)) (ht : ((pc + 1 : Nat) : Int) + off = (tgt : Int)) (kt : x ≤ y → W p l e R s m args below meth c H locs cells slots Q (F0 m tgt ls rest)) (kf : ¬ x ≤ y → W p l e R s m args below meth c H locs cells slots Q (F0 m (pc + 4) ls rest)) : W p l e R s m args below meth c H locs cells slots Q (F0 m pc ls (.long y :: .long x :: rest)) :=
  W.lcmp hx hb h1 (lv_if_le hx hb h2 ht (fun h => kt ((lg_cmp_le x y).mp h)) (fun h => kf (fun q => h ((lg_cmp_le x y).mpr q))))
theorem k_lif_gt (hx : p.tables.exec = Jvm.exec) (hb : c.code = cc) {x y : Int64} {off : Int} {tgt : Nat} (h1 : decode cc pc = .ok (.lcmp, 1)) (h2 : decode cc (pc + 1) = .ok (.ifCond .gt off, 3)) (ht : ((pc + 1 : Nat) : Int) + off = (tgt : Int)) (kt : y < x → W p l e R s m args below meth c H locs cells slots Q (F0 m tgt ls rest)) (kf : ¬ y < x → W p l e R s m args below meth c H locs cells slots Q (F0 m (pc + 4) ls rest)) : W p l e R s m args below meth c H locs cells slots Q (F0 m pc ls (.long y :: .long x :: rest)) :=
  W.lcmp hx hb h1 (lv_if_gt hx hb h2 ht (fun h => kt ((lg_cmp_gt x y).mp h)) (fun h => kf (fun q => h ((lg_cmp_gt x y).mpr q))))
theorem k_lif_ge (hx : p.tables.exec = Jvm.exec) (hb : c.code = cc) {x y : Int64} {off : Int} {tgt : Nat} (h1 : decode cc pc = .ok (.lcmp, 1)) (h2 : decode cc (pc + 1) = .ok (.ifCond .ge off, 3)) (ht : ((pc + 1 : Nat) : Int) + off = (tgt : Int)) (kt : y ≤ x → W p l e R s m args below meth c H locs cells slots Q (F0 m tgt ls rest)) (kf : ¬ y ≤ x → W p l e R s m args below meth c H locs cells slots Q (F0 m (pc + 4) ls rest)) : W p l e R s m args below meth c H locs cells slots Q (F0 m pc ls (.long y :: .long x :: rest)) :=
  W.lcmp hx hb h1 (lv_if_ge hx hb h2 ht (fun h => kt ((lg_cmp_ge x y).mp h)) (fun h => kf (fun q => h ((lg_cmp_ge x y).mpr q))))
end WalkMore
theorem k_sw6 {x : Int32} (h0 : ¬ x = 0) (h1 : ¬ x = 1) (h2 : ¬ x = 2) (h3 : ¬ x = 3) (h4 : ¬ x = 4) (h5 : ¬ x = 5) (h6 : ¬ x = 6) : x.toInt < 0 ∨ 6 < x.toInt := by
  refine Classical.byContradiction (fun hc => ?_)
  have e : x = Int32.ofInt x.toInt := (Int32.ofInt_toInt x).symm
  have hh : x.toInt = 0 ∨ x.toInt = 1 ∨ x.toInt = 2 ∨ x.toInt = 3 ∨ x.toInt = 4 ∨ x.toInt = 5 ∨ x.toInt = 6 := by omega
  rcases hh with h | h | h | h | h | h | h
  · exact h0 (by rw [e, h]; rfl)
  · exact h1 (by rw [e, h]; rfl)
  · exact h2 (by rw [e, h]; rfl)
  · exact h3 (by rw [e, h]; rfl)
  · exact h4 (by rw [e, h]; rfl)
  · exact h5 (by rw [e, h]; rfl)
  · exact h6 (by rw [e, h]; rfl)
theorem k_sw7 {x : Int32} (h0 : ¬ x = 0) (h1 : ¬ x = 1) (h2 : ¬ x = 2) (h3 : ¬ x = 3) (h4 : ¬ x = 4) (h5 : ¬ x = 5) (h6 : ¬ x = 6) (h7 : ¬ x = 7) : x.toInt < 0 ∨ 7 < x.toInt := by
  refine Classical.byContradiction (fun hc => ?_)
  have e : x = Int32.ofInt x.toInt := (Int32.ofInt_toInt x).symm
  have hh : x.toInt = 0 ∨ x.toInt = 1 ∨ x.toInt = 2 ∨ x.toInt = 3 ∨ x.toInt = 4 ∨ x.toInt = 5 ∨ x.toInt = 6 ∨ x.toInt = 7 := by omega
  rcases hh with h | h | h | h | h | h | h | h
  · exact h0 (by rw [e, h]; rfl)
  · exact h1 (by rw [e, h]; rfl)
  · exact h2 (by rw [e, h]; rfl)
  · exact h3 (by rw [e, h]; rfl)
  · exact h4 (by rw [e, h]; rfl)
  · exact h5 (by rw [e, h]; rfl)
  · exact h6 (by rw [e, h]; rfl)
  · exact h7 (by rw [e, h]; rfl)
theorem k_sw15 {x : Int32} (h0 : ¬ x = 0) (h1 : ¬ x = 1) (h2 : ¬ x = 2) (h3 : ¬ x = 3) (h4 : ¬ x = 4) (h5 : ¬ x = 5) (h6 : ¬ x = 6) (h7 : ¬ x = 7) (h8 : ¬ x = 8) (h9 : ¬ x = 9) (h10 : ¬ x = 10) (h11 : ¬ x = 11) (h12 : ¬ x = 12) (h13 : ¬ x = 13) (h14 : ¬ x = 14) (h15 : ¬ x = 15) : x.toInt < 0 ∨ 15 < x.toInt := by
  refine Classical.byContradiction (fun hc => ?_)
  have e : x = Int32.ofInt x.toInt := (Int32.ofInt_toInt x).symm
  have hh : x.toInt = 0 ∨ x.toInt = 1 ∨ x.toInt = 2 ∨ x.toInt = 3 ∨ x.toInt = 4 ∨ x.toInt = 5 ∨ x.toInt = 6 ∨ x.toInt = 7 ∨ x.toInt = 8 ∨ x.toInt = 9 ∨ x.toInt = 10 ∨ x.toInt = 11 ∨ x.toInt = 12 ∨ x.toInt = 13 ∨ x.toInt = 14 ∨ x.toInt = 15 := by omega
  rcases hh with h | h | h | h | h | h | h | h | h | h | h | h | h | h | h | h
  · exact h0 (by rw [e, h]; rfl)
  · exact h1 (by rw [e, h]; rfl)
  · exact h2 (by rw [e, h]; rfl)
  · exact h3 (by rw [e, h]; rfl)
  · exact h4 (by rw [e, h]; rfl)
  · exact h5 (by rw [e, h]; rfl)
  · exact h6 (by rw [e, h]; rfl)
  · exact h7 (by rw [e, h]; rfl)
  · exact h8 (by rw [e, h]; rfl)
  · exact h9 (by rw [e, h]; rfl)
  · exact h10 (by rw [e, h]; rfl)
  · exact h11 (by rw [e, h]; rfl)
  · exact h12 (by rw [e, h]; rfl)
  · exact h13 (by rw [e, h]; rfl)
  · exact h14 (by rw [e, h]; rfl)
  · exact h15 (by rw [e, h]; rfl)
end
section
/-! Natural: predicates and walks (laid by wip/whole/gen.py) -/
def wX1 (cI cJ : ClassId) (Az Bz : Nat) (lz : Nat → Int32) (nz : Int32) : va_W := [(Az, .inr (1, [.ref Bz, .int nz])), (Bz, .inl (cI, 64, .inl lz))]
def wX1X1 (cI cJ : ClassId) (Az Bz Ao Bo : Nat) (lz : Nat → Int32) (nz : Int32) (lo : Nat → Int32) (no : Int32) : va_W := [(Az, .inr (1, [.ref Bz, .int nz])), (Bz, .inl (cI, 64, .inl lz)), (Ao, .inr (1, [.ref Bo, .int no])), (Bo, .inl (cI, 64, .inl lo))]
abbrev rm_X1_append : Room := { frames := 0, cells := 0, slots := 0, locals := 0 }
abbrev rm_X1_become : Room := { frames := 1, cells := 0, slots := 0, locals := 22 }
abbrev rm_X1_limbAt : Room := { frames := 0, cells := 0, slots := 0, locals := 0 }
abbrev rm_X1_trim : Room := { frames := 1, cells := 0, slots := 0, locals := 21 }
abbrev rm_X1_times : Room := { frames := 2, cells := 0, slots := 0, locals := 41 }
abbrev rm_X1_plusTimes : Room := { frames := 2, cells := 0, slots := 0, locals := 41 }
abbrev rm_X1_divideBy : Room := { frames := 2, cells := 0, slots := 0, locals := 41 }
abbrev rm_X1_restBy : Room := { frames := 1, cells := 0, slots := 0, locals := 21 }
abbrev rm_X1_isLess : Room := { frames := 1, cells := 0, slots := 0, locals := 21 }
def w_X1_append (lz : Nat → Int32) (nz : Int32) (p0 : Int64) (Q : (Nat → Int32) → Int32 → Prop) : Prop :=
  ((p0 ≤ 0 →
    Q lz nz
   ) ∧ (¬ p0 ≤ 0 →
    ((nz < 0 →
      Q lz nz
     ) ∧ (¬ nz < 0 →
      ((64 ≤ nz →
        Q lz nz
       ) ∧ (¬ 64 ≤ nz →
        vp_in nz 64 ∧
        ∀ (lz_1 : Nat → Int32), lz_1 = upd lz nz.toNatClampNeg p0.toInt32 →
        ∀ (nz_2 : Int32), nz_2 = nz + 1 →
        Q lz_1 nz_2
       ))
     ))
   ))

def w_X1_become (lz : Nat → Int32) (nz : Int32) (p0 : Int32) (Q : (Nat → Int32) → Int32 → Prop) : Prop :=
  w_X1_append lz 0 p0.toInt64 (fun (lz_1 : Nat → Int32) (nz_2 : Int32) =>
  Q lz_1 nz_2)

def w_X1_limbAt (lz : Nat → Int32) (nz : Int32) (p0 : Int32) (Q : Int32 → Prop) : Prop :=
  ((p0 < 0 →
    Q (0 : Int32)
   ) ∧ (¬ p0 < 0 →
    ((nz ≤ p0 →
      Q (0 : Int32)
     ) ∧ (¬ nz ≤ p0 →
      ((64 ≤ p0 →
        Q (0 : Int32)
       ) ∧ (¬ 64 ≤ p0 →
        vp_in p0 64 ∧
        Q (lz p0.toNatClampNeg)
       ))
     ))
   ))

def w_X1_trim (lz : Nat → Int32) (nz : Int32) (Q : Int32 → Prop) : Prop :=
  ∃ (I0_2 : Int32 → Prop) (μ0_2 : Int32 → Nat), I0_2 nz ∧ ∀ (nz_1 : Int32), I0_2 nz_1 →
    ((nz_1 ≤ 0 →
      Q nz_1
     ) ∧ (¬ nz_1 ≤ 0 →
      w_X1_limbAt lz nz_1 (nz_1 - 1) (fun (r_3 : Int32) =>
      ((¬ r_3 = 0 →
        Q nz_1
       ) ∧ (r_3 = 0 →
        ∀ (nz_4 : Int32), nz_4 = nz_1 - 1 →
        I0_2 nz_4 ∧ μ0_2 nz_4 < μ0_2 nz_1
       )))
     ))

def w_X1_times (lz : Nat → Int32) (nz : Int32) (p0 : Int32) (Q : (Nat → Int32) → Int32 → Prop) : Prop :=
  ∃ (I5_4 : Int32 → Int64 → (Nat → Int32) → Prop) (μ5_4 : Int32 → Int64 → (Nat → Int32) → Nat), I5_4 (0 : Int32) (0 : Int64) lz ∧ ∀ (i4_1 : Int32) (i2_2 : Int64) (lz_3 : Nat → Int32), I5_4 i4_1 i2_2 lz_3 →
    ((nz ≤ i4_1 →
      w_X1_append lz_3 nz i2_2 (fun (lz_5 : Nat → Int32) (nz_6 : Int32) =>
      w_X1_trim lz_5 nz_6 (fun (nz_7 : Int32) =>
      Q lz_5 nz_7))
     ) ∧ (¬ nz ≤ i4_1 →
      ((64 ≤ i4_1 →
        w_X1_append lz_3 nz i2_2 (fun (lz_8 : Nat → Int32) (nz_9 : Int32) =>
        w_X1_trim lz_8 nz_9 (fun (nz_10 : Int32) =>
        Q lz_8 nz_10))
       ) ∧ (¬ 64 ≤ i4_1 →
        vp_in i4_1 64 ∧
        ∀ (v_11 : Int64), v_11 = ((lz_3 i4_1.toNatClampNeg).toInt64) * p0.toInt64 →
        ∀ (i2_12 : Int64), i2_12 = i2_2 + v_11 →
        vp_in i4_1 64 ∧
        ∀ (lz_13 : Nat → Int32), lz_13 = upd lz_3 i4_1.toNatClampNeg ((i2_12 &&& 2147483647).toInt32) →
        ∀ (i2_14 : Int64), i2_14 = i2_12 >>> ((31 : Int32).toInt64 &&& 63) →
        ∀ (i4_15 : Int32), i4_15 = i4_1 + 1 →
        I5_4 i4_15 i2_14 lz_13 ∧ μ5_4 i4_15 i2_14 lz_13 < μ5_4 i4_1 i2_2 lz_3
       ))
     ))

def w_X1_plusTimes (lz : Nat → Int32) (nz : Int32) (lo : Nat → Int32) (no : Int32) (p1 : Int32) (Q : (Nat → Int32) → Int32 → Prop) : Prop :=
  ∃ (J22_2 : Int32 → Prop), (
    ((nz ≤ no →
      J22_2 no
     ) ∧ (¬ nz ≤ no →
      J22_2 nz
     ))
   ) ∧ (∀ (t_1 : Int32), J22_2 t_1 →
    ∃ (I29_7 : Int32 → Int64 → (Nat → Int32) → Prop) (μ29_7 : Int32 → Int64 → (Nat → Int32) → Nat), I29_7 (0 : Int32) (0 : Int64) lz ∧ ∀ (i6_4 : Int32) (i4_5 : Int64) (lz_6 : Nat → Int32), I29_7 i6_4 i4_5 lz_6 →
      ((t_1 ≤ i6_4 →
        w_X1_append lz_6 t_1 i4_5 (fun (lz_8 : Nat → Int32) (nz_9 : Int32) =>
        w_X1_trim lz_8 nz_9 (fun (nz_10 : Int32) =>
        Q lz_8 nz_10))
       ) ∧ (¬ t_1 ≤ i6_4 →
        ((64 ≤ i6_4 →
          w_X1_append lz_6 t_1 i4_5 (fun (lz_11 : Nat → Int32) (nz_12 : Int32) =>
          w_X1_trim lz_11 nz_12 (fun (nz_13 : Int32) =>
          Q lz_11 nz_13))
         ) ∧ (¬ 64 ≤ i6_4 →
          w_X1_limbAt lz_6 nz i6_4 (fun (r_14 : Int32) =>
          w_X1_limbAt lo no i6_4 (fun (r_15 : Int32) =>
          ∀ (v_16 : Int64), v_16 = r_14.toInt64 + (r_15.toInt64 * p1.toInt64) →
          ∀ (i4_17 : Int64), i4_17 = i4_5 + v_16 →
          vp_in i6_4 64 ∧
          ∀ (lz_18 : Nat → Int32), lz_18 = upd lz_6 i6_4.toNatClampNeg ((i4_17 &&& 2147483647).toInt32) →
          ∀ (i4_19 : Int64), i4_19 = i4_17 >>> ((31 : Int32).toInt64 &&& 63) →
          ∀ (i6_20 : Int32), i6_20 = i6_4 + 1 →
          I29_7 i6_20 i4_19 lz_18 ∧ μ29_7 i6_20 i4_19 lz_18 < μ29_7 i6_4 i4_5 lz_6))
         ))
       ))
   )

def w_X1_divideBy (lz : Nat → Int32) (nz : Int32) (p0 : Int32) (Q : (Nat → Int32) → Int32 → Prop) : Prop :=
  ((1 ≤ p0 →
    ∀ (i4_1 : Int32), i4_1 = nz - 1 →
    ∃ (I16_5 : Int32 → Int64 → (Nat → Int32) → Prop) (μ16_5 : Int32 → Int64 → (Nat → Int32) → Nat), I16_5 i4_1 (0 : Int64) lz ∧ ∀ (i4_2 : Int32) (i2_3 : Int64) (lz_4 : Nat → Int32), I16_5 i4_2 i2_3 lz_4 →
      ((i4_2 < 0 →
        w_X1_trim lz_4 nz (fun (nz_6 : Int32) =>
        Q lz_4 nz_6)
       ) ∧ (¬ i4_2 < 0 →
        ((64 ≤ i4_2 →
          w_X1_trim lz_4 nz (fun (nz_7 : Int32) =>
          Q lz_4 nz_7)
         ) ∧ (¬ 64 ≤ i4_2 →
          vp_in i4_2 64 ∧
          ∀ (v_8 : Int64), v_8 = (i2_3 <<< ((31 : Int32).toInt64 &&& 63)) + ((lz_4 i4_2.toNatClampNeg).toInt64) →
          ¬ p0.toInt64 = 0 ∧
          ∀ (v_9 : Int64), v_9 = v_8 / p0.toInt64 →
          vp_in i4_2 64 ∧
          ∀ (lz_10 : Nat → Int32), lz_10 = upd lz_4 i4_2.toNatClampNeg v_9.toInt32 →
          ¬ p0.toInt64 = 0 ∧
          ∀ (v_11 : Int64), v_11 = v_8 - v_8 / p0.toInt64 * p0.toInt64 →
          ∀ (i4_12 : Int32), i4_12 = i4_2 + (-1) →
          I16_5 i4_12 v_11 lz_10 ∧ μ16_5 i4_12 v_11 lz_10 < μ16_5 i4_2 i2_3 lz_4
         ))
       ))
   ) ∧ (¬ 1 ≤ p0 →
    Q lz nz
   ))

def w_X1_restBy (lz : Nat → Int32) (nz : Int32) (p0 : Int32) (Q : Int32 → Prop) : Prop :=
  ((1 ≤ p0 →
    ∀ (i4_1 : Int32), i4_1 = nz - 1 →
    ∃ (I17_4 : Int32 → Int64 → Prop) (μ17_4 : Int32 → Int64 → Nat), I17_4 i4_1 (0 : Int64) ∧ ∀ (i4_2 : Int32) (i2_3 : Int64), I17_4 i4_2 i2_3 →
      ((i4_2 < 0 →
        Q i2_3.toInt32
       ) ∧ (¬ i4_2 < 0 →
        w_X1_limbAt lz nz i4_2 (fun (r_5 : Int32) =>
        ∀ (v_6 : Int64), v_6 = (i2_3 <<< ((31 : Int32).toInt64 &&& 63)) + r_5.toInt64 →
        ¬ p0.toInt64 = 0 ∧
        ∀ (v_7 : Int64), v_7 = v_6 - v_6 / p0.toInt64 * p0.toInt64 →
        ∀ (i4_8 : Int32), i4_8 = i4_2 + (-1) →
        I17_4 i4_8 v_7 ∧ μ17_4 i4_8 v_7 < μ17_4 i4_2 i2_3)
       ))
   ) ∧ (¬ 1 ≤ p0 →
    Q (0 : Int32)
   ))

def w_X1_isLess (lz : Nat → Int32) (nz : Int32) (lo : Nat → Int32) (no : Int32) (p1 : Int32) (p3 : Int32) (Q : Int32 → Prop) : Prop :=
  ∃ (J22_2 : Int32 → Prop), (
    ((nz ≤ no →
      J22_2 no
     ) ∧ (¬ nz ≤ no →
      J22_2 nz
     ))
   ) ∧ (∀ (t_1 : Int32), J22_2 t_1 →
    ∃ (I30_6 : Int32 → Int64 → Prop) (μ30_6 : Int32 → Int64 → Nat), I30_6 (0 : Int32) (0 : Int64) ∧ ∀ (i7_4 : Int32) (i5_5 : Int64), I30_6 i7_4 i5_5 →
      ((t_1 ≤ i7_4 →
        ((0 ≤ i5_5 →
          Q (0 : Int32)
         ) ∧ (¬ 0 ≤ i5_5 →
          Q (1 : Int32)
         ))
       ) ∧ (¬ t_1 ≤ i7_4 →
        w_X1_limbAt lz nz i7_4 (fun (r_8 : Int32) =>
        w_X1_limbAt lo no i7_4 (fun (r_9 : Int32) =>
        ∀ (v_10 : Int64), v_10 = (r_8.toInt64 * p1.toInt64) - (r_9.toInt64 * p3.toInt64) →
        ∀ (i5_11 : Int64), i5_11 = i5_5 + v_10 →
        ∀ (i5_12 : Int64), i5_12 = i5_11 >>> ((31 : Int32).toInt64 &&& 63) →
        ∀ (i7_13 : Int32), i7_13 = i7_4 + 1 →
        I30_6 i7_13 i5_12 ∧ μ30_6 i7_13 i5_12 < μ30_6 i7_4 i5_5))
       ))
   )

theorem fX1_append_13 : Cond.fieldLink RX1 13 "PrivateCounts$Natural" "size" "I" ∈ wsX1_append := by decide +kernel
theorem uX1_append_X1 : ∀ w ∈ u_ws RX1 TX1 2, w ∈ wsX1_append := by decide +kernel
theorem fX1_append_9 : Cond.fieldLink RX1 9 "PrivateCounts$Natural" "limbs" "[I" ∈ wsX1_append := by decide +kernel
set_option maxHeartbeats 4000000 in
set_option maxRecDepth 100000 in
theorem M_X1_append (l : Launch) (G : va_G) (cI cJ : ClassId) (Az Bz : Nat) (lz : Nat → Int32) (nz : Int32) (p0 : Int64) (Q : (Nat → Int32) → Int32 → Prop) (hw : w_X1_append lz nz p0 Q) : Kv l yX1_append wsX1_append rm_X1_append G cI cJ [.ref Az, .long p0] (wX1 cI cJ Az Bz lz nz) (fun (u : (Nat → Int32) × (Int32)) => Q u.1 u.2) (fun u => (wX1 cI cJ Az Bz u.1 u.2)) := by
  refine kv_intro (cc := cX1_append) (maxL := 3) rfl rfl (by decide) rfl (Nat.le_of_ble_eq_true rfl) ?_
  intro p e s m args below meth c A Z ls hx hb hml hts hown hP hK hD hS hA hl hret
  have hl : lv_has ls 3 [(0, .ref Az), (1, .long p0)] := hl
  unfold w_X1_append at hw
  refine lv_lload_n hx hb dX1_append_0 rfl (lv_at hl 1 rfl) ?_
  refine lv_lconst (v := 0) hx hb dX1_append_1 (by decide) ?_
  refine k_lif_le (tgt := 46) hx hb dX1_append_2 dX1_append_3 (by decide) (fun c_5 => ?_) (fun c_5 => ?_)
  · have hw := hw.1 c_5
    exact hret (lz, nz) _ _ _ _ hw hP hD hS dX1_append_46
  · have hw := hw.2 c_5
    refine lv_aload_n hx hb dX1_append_6 rfl (lv_at hl 0 rfl) ?_
    refine k_get hx hb hts uX1_append_X1 hown hK hP 0 1 rfl rfl 1 (by decide) fX1_append_13 (.int nz) rfl dX1_append_7 ?_
    refine lv_if_lt (tgt := 46) hx hb dX1_append_10 (by decide) (fun c_4 => ?_) (fun c_4 => ?_)
    · have hw := hw.1 c_4
      exact hret (lz, nz) _ _ _ _ hw hP hD hS dX1_append_46
    · have hw := hw.2 c_4
      refine lv_aload_n hx hb dX1_append_13 rfl (lv_at hl 0 rfl) ?_
      refine k_get hx hb hts uX1_append_X1 hown hK hP 0 1 rfl rfl 1 (by decide) fX1_append_13 (.int nz) rfl dX1_append_14 ?_
      refine lv_aload_n hx hb dX1_append_17 rfl (lv_at hl 0 rfl) ?_
      refine k_get hx hb hts uX1_append_X1 hown hK hP 0 1 rfl rfl 0 (by decide) fX1_append_9 (.ref Bz) rfl dX1_append_18 ?_
      refine k_alen hx hb hK hP 1 rfl 64 rfl dX1_append_21 ?_
      refine lv_icmp_ge (tgt := 46) hx hb dX1_append_22 (by decide) (fun c_3 => ?_) (fun c_3 => ?_)
      · have hw := hw.1 c_3
        exact hret (lz, nz) _ _ _ _ hw hP hD hS dX1_append_46
      · have hw := hw.2 c_3
        refine lv_aload_n hx hb dX1_append_25 rfl (lv_at hl 0 rfl) ?_
        refine k_get hx hb hts uX1_append_X1 hown hK hP 0 1 rfl rfl 0 (by decide) fX1_append_9 (.ref Bz) rfl dX1_append_26 ?_
        refine lv_aload_n hx hb dX1_append_29 rfl (lv_at hl 0 rfl) ?_
        refine k_get hx hb hts uX1_append_X1 hown hK hP 0 1 rfl rfl 1 (by decide) fX1_append_13 (.int nz) rfl dX1_append_30 ?_
        refine lv_lload_n hx hb dX1_append_33 rfl (lv_at hl 1 rfl) ?_
        refine lv_l2i (v := p0.toInt32) hx hb dX1_append_34 rfl ?_
        obtain ⟨hin, hw⟩ := hw
        refine k_iast hx hb hK hP hD hS 1 rfl hin (w' := fun g => (wX1 cI cJ Az Bz g nz)) (fun _ => rfl) dX1_append_35 (fun lz_1 elz_1 H locs hP hD hS => ?_)
        have hw := hw lz_1 elz_1
        refine lv_aload_n hx hb dX1_append_36 rfl (lv_at hl 0 rfl) ?_
        refine lv_dup hx hb dX1_append_37 rfl ?_
        refine k_get hx hb hts uX1_append_X1 hown hK hP 0 1 rfl rfl 1 (by decide) fX1_append_13 (.int nz) rfl dX1_append_38 ?_
        refine lv_iconst (v := 1) hx hb dX1_append_41 (by decide) ?_
        refine lv_iadd hx hb dX1_append_42 ?_
        refine lv_topi (fun nz_2 enz_2 => ?_)
        have hw := hw nz_2 enz_2
        refine k_put hx hb hts uX1_append_X1 tyX1 tyX1_ok nmX1 hown hK hP hD hS 0 1 rfl rfl 1 (by decide) fX1_append_13 rfl rfl rfl (Nat.le_of_ble_eq_true rfl) (w' := (wX1 cI cJ Az Bz lz_1 nz_2)) rfl dX1_append_43 (fun H locs hP hD hS => ?_)
        exact hret (lz_1, nz_2) _ _ _ _ hw hP hD hS dX1_append_46
theorem fX1_become_13 : Cond.fieldLink RX1 13 "PrivateCounts$Natural" "size" "I" ∈ wsX1_become := by decide +kernel
theorem uX1_become_X1 : ∀ w ∈ u_ws RX1 TX1 2, w ∈ wsX1_become := by decide +kernel
set_option maxHeartbeats 4000000 in
set_option maxRecDepth 100000 in
theorem M_X1_become (l : Launch) (G : va_G) (cI cJ : ClassId) (Az Bz : Nat) (lz : Nat → Int32) (nz : Int32) (p0 : Int32) (Q : (Nat → Int32) → Int32 → Prop) (hw : w_X1_become lz nz p0 Q) : Kv l yX1_become wsX1_become rm_X1_become G cI cJ [.ref Az, .int p0] (wX1 cI cJ Az Bz lz nz) (fun (u : (Nat → Int32) × (Int32)) => Q u.1 u.2) (fun u => (wX1 cI cJ Az Bz u.1 u.2)) := by
  refine kv_intro (cc := cX1_become) (maxL := 2) rfl rfl (by decide) rfl (Nat.le_of_ble_eq_true rfl) ?_
  intro p e s m args below meth c A Z ls hx hb hml hts hown hP hK hD hS hA hl hret
  have hl : lv_has ls 2 [(0, .ref Az), (1, .int p0)] := hl
  unfold w_X1_become at hw
  refine lv_aload_n hx hb dX1_become_0 rfl (lv_at hl 0 rfl) ?_
  refine lv_iconst (v := 0) hx hb dX1_become_1 (by decide) ?_
  refine k_put hx hb hts uX1_become_X1 tyX1 tyX1_ok nmX1 hown hK hP hD hS 0 1 rfl rfl 1 (by decide) fX1_become_13 rfl rfl rfl (Nat.le_of_ble_eq_true rfl) (w' := (wX1 cI cJ Az Bz lz 0)) rfl dX1_become_2 (fun H locs hP hD hS => ?_)
  refine lv_aload_n hx hb dX1_become_5 rfl (lv_at hl 0 rfl) ?_
  refine lv_iload_n hx hb dX1_become_6 rfl (lv_at hl 1 rfl) ?_
  refine lv_i2l (v := p0.toInt64) hx hb dX1_become_7 rfl ?_
  refine k_Vv (M_X1_append l G cI cJ Az Bz lz 0 p0.toInt64 _ hw) ⟨hx, hb, hml, hown, hts⟩ (cwV 1 hts gX1_become_X1_append rfl rfl rfl (by decide +kernel) ⟨Nat.le_of_ble_eq_true rfl, Nat.le_of_ble_eq_true rfl⟩) hK hP hD hS hA [0, 1] [] [0, 1] (wr := []) (wn := fun u : (Nat → Int32) × (Int32) => (wX1 cI cJ Az Bz u.1 u.2)) rfl rfl (by decide) (by decide) (by decide) (by decide) (fun _ => rfl) (rest := []) (q0 := 0) rfl rfl rfl hl.1 rfl (Nat.le_of_ble_eq_true rfl) (Nat.zero_le _) (Nat.zero_le _) dX1_become_8 (fun u H locs hw hP hD hS => ?_)
  obtain ⟨lz_1, nz_2⟩ := u
  have hP : va_P G vwCl (wX1 cI cJ Az Bz lz_1 nz_2) H := hP
  have hD : va_D A (wX1 cI cJ Az Bz lz_1 nz_2) := hD
  exact hret (lz_1, nz_2) _ _ _ _ hw hP hD hS dX1_become_11
theorem fX1_limbAt_13 : Cond.fieldLink RX1 13 "PrivateCounts$Natural" "size" "I" ∈ wsX1_limbAt := by decide +kernel
theorem uX1_limbAt_X1 : ∀ w ∈ u_ws RX1 TX1 2, w ∈ wsX1_limbAt := by decide +kernel
theorem fX1_limbAt_9 : Cond.fieldLink RX1 9 "PrivateCounts$Natural" "limbs" "[I" ∈ wsX1_limbAt := by decide +kernel
set_option maxHeartbeats 4000000 in
set_option maxRecDepth 100000 in
theorem M_X1_limbAt (l : Launch) (G : va_G) (cI cJ : ClassId) (Az Bz : Nat) (lz : Nat → Int32) (nz : Int32) (p0 : Int32) (Q : Int32 → Prop) (hw : w_X1_limbAt lz nz p0 Q) : Ki l yX1_limbAt wsX1_limbAt rm_X1_limbAt G cI cJ [.ref Az, .int p0] (wX1 cI cJ Az Bz lz nz) (fun (r : Int32) (u : Unit) => Q r) (fun u => (wX1 cI cJ Az Bz lz nz)) := by
  refine ki_intro (cc := cX1_limbAt) (maxL := 2) rfl rfl (by decide) rfl (Nat.le_of_ble_eq_true rfl) ?_
  intro p e s m args below meth c A Z ls hx hb hml hts hown hP hK hD hS hA hl hret
  have hl : lv_has ls 2 [(0, .ref Az), (1, .int p0)] := hl
  unfold w_X1_limbAt at hw
  refine lv_iload_n hx hb dX1_limbAt_0 rfl (lv_at hl 1 rfl) ?_
  refine lv_if_lt (tgt := 30) hx hb dX1_limbAt_1 (by decide) (fun c_3 => ?_) (fun c_3 => ?_)
  · have hw := hw.1 c_3
    refine lv_iconst (v := 0) hx hb dX1_limbAt_30 (by decide) ?_
    exact hret _ () _ _ _ _ hw hP hD hS dX1_limbAt_31
  · have hw := hw.2 c_3
    refine lv_iload_n hx hb dX1_limbAt_4 rfl (lv_at hl 1 rfl) ?_
    refine lv_aload_n hx hb dX1_limbAt_5 rfl (lv_at hl 0 rfl) ?_
    refine k_get hx hb hts uX1_limbAt_X1 hown hK hP 0 1 rfl rfl 1 (by decide) fX1_limbAt_13 (.int nz) rfl dX1_limbAt_6 ?_
    refine lv_icmp_ge (tgt := 30) hx hb dX1_limbAt_9 (by decide) (fun c_2 => ?_) (fun c_2 => ?_)
    · have hw := hw.1 c_2
      refine lv_iconst (v := 0) hx hb dX1_limbAt_30 (by decide) ?_
      exact hret _ () _ _ _ _ hw hP hD hS dX1_limbAt_31
    · have hw := hw.2 c_2
      refine lv_iload_n hx hb dX1_limbAt_12 rfl (lv_at hl 1 rfl) ?_
      refine lv_aload_n hx hb dX1_limbAt_13 rfl (lv_at hl 0 rfl) ?_
      refine k_get hx hb hts uX1_limbAt_X1 hown hK hP 0 1 rfl rfl 0 (by decide) fX1_limbAt_9 (.ref Bz) rfl dX1_limbAt_14 ?_
      refine k_alen hx hb hK hP 1 rfl 64 rfl dX1_limbAt_17 ?_
      refine lv_icmp_ge (tgt := 30) hx hb dX1_limbAt_18 (by decide) (fun c_1 => ?_) (fun c_1 => ?_)
      · have hw := hw.1 c_1
        refine lv_iconst (v := 0) hx hb dX1_limbAt_30 (by decide) ?_
        exact hret _ () _ _ _ _ hw hP hD hS dX1_limbAt_31
      · have hw := hw.2 c_1
        refine lv_aload_n hx hb dX1_limbAt_21 rfl (lv_at hl 0 rfl) ?_
        refine k_get hx hb hts uX1_limbAt_X1 hown hK hP 0 1 rfl rfl 0 (by decide) fX1_limbAt_9 (.ref Bz) rfl dX1_limbAt_22 ?_
        refine lv_iload_n hx hb dX1_limbAt_25 rfl (lv_at hl 1 rfl) ?_
        obtain ⟨hin, hw⟩ := hw
        refine k_iald hx hb hK hP 1 rfl hin dX1_limbAt_26 ?_
        refine lv_goto (tgt := 31) hx hb dX1_limbAt_27 (by decide) ?_
        exact hret _ () _ _ _ _ hw hP hD hS dX1_limbAt_31
theorem fX1_trim_13 : Cond.fieldLink RX1 13 "PrivateCounts$Natural" "size" "I" ∈ wsX1_trim := by decide +kernel
theorem uX1_trim_X1 : ∀ w ∈ u_ws RX1 TX1 2, w ∈ wsX1_trim := by decide +kernel
set_option maxHeartbeats 4000000 in
set_option maxRecDepth 100000 in
theorem M_X1_trim (l : Launch) (G : va_G) (cI cJ : ClassId) (Az Bz : Nat) (lz : Nat → Int32) (nz : Int32) (Q : Int32 → Prop) (hw : w_X1_trim lz nz Q) : Kv l yX1_trim wsX1_trim rm_X1_trim G cI cJ [.ref Az] (wX1 cI cJ Az Bz lz nz) (fun (u : (Int32)) => Q u) (fun u => (wX1 cI cJ Az Bz lz u)) := by
  refine kv_intro (cc := cX1_trim) (maxL := 1) rfl rfl (by decide) rfl (Nat.le_of_ble_eq_true rfl) ?_
  intro p e s m args below meth c A Z ls hx hb hml hts hown hP hK hD hS hA hl hret
  have hl : lv_has ls 1 [(0, .ref Az)] := hl
  unfold w_X1_trim at hw
  obtain ⟨I0_2, μ0_2, hi, hw⟩ := hw
  suffices hLI0_2 : ∀ (N : Nat) (nz_1 : Int32) (_ : μ0_2 nz_1 = N) (_ : I0_2 nz_1) (H : Heap) (locs : List Loc) (ls : Array Slot), va_P G vwCl (wX1 cI cJ Az Bz lz nz_1) H → va_D A (wX1 cI cJ Az Bz lz nz_1) → va_S A s.heap H locs → lv_has ls 1 [(0, .ref Az)] → W p l e rm_X1_trim s m args below meth c H locs 0 0 Z (F0 m 0 ls []) from
    hLI0_2 _ nz rfl hi _ _ _ hP hD hS (lv_sub hl [0] rfl)
  clear hi hP hD hS hl
  intro N
  induction N using Nat.strongRecOn with
  | ind N ihI0_2 =>
    intro nz_1 hNI0_2 hi H locs ls hP hD hS hl
    have hw := hw nz_1 hi
    refine lv_aload_n hx hb dX1_trim_0 rfl (lv_at hl 0 rfl) ?_
    refine k_get hx hb hts uX1_trim_X1 hown hK hP 0 1 rfl rfl 1 (by decide) fX1_trim_13 (.int nz_1) rfl dX1_trim_1 ?_
    refine lv_if_le (tgt := 33) hx hb dX1_trim_4 (by decide) (fun c_6 => ?_) (fun c_6 => ?_)
    · have hw := hw.1 c_6
      exact hret nz_1 _ _ _ _ hw hP hD hS dX1_trim_33
    · have hw := hw.2 c_6
      refine lv_aload_n hx hb dX1_trim_7 rfl (lv_at hl 0 rfl) ?_
      refine lv_aload_n hx hb dX1_trim_8 rfl (lv_at hl 0 rfl) ?_
      refine k_get hx hb hts uX1_trim_X1 hown hK hP 0 1 rfl rfl 1 (by decide) fX1_trim_13 (.int nz_1) rfl dX1_trim_9 ?_
      refine lv_iconst (v := 1) hx hb dX1_trim_12 (by decide) ?_
      refine lv_isub hx hb dX1_trim_13 ?_
      refine k_Vi (M_X1_limbAt l G cI cJ Az Bz lz nz_1 (nz_1 - 1) _ hw) ⟨hx, hb, hml, hown, hts⟩ (cwV 1 hts gX1_trim_X1_limbAt rfl rfl rfl (by decide +kernel) ⟨Nat.le_of_ble_eq_true rfl, Nat.le_of_ble_eq_true rfl⟩) hK hP hD hS hA [0, 1] [] [0, 1] (wr := []) (wn := fun u : Unit => (wX1 cI cJ Az Bz lz nz_1)) rfl rfl (by decide) (by decide) (by decide) (by decide) (fun _ => rfl) (rest := []) (q0 := 0) rfl rfl rfl hl.1 rfl (Nat.le_of_ble_eq_true rfl) (Nat.zero_le _) (Nat.zero_le _) dX1_trim_14 (fun r_3 u H locs hw hP hD hS => ?_)
      refine lv_if_ne (tgt := 33) hx hb dX1_trim_17 (by decide) (fun c_5 => ?_) (fun c_5 => ?_)
      · have hw := hw.1 c_5
        exact hret nz_1 _ _ _ _ hw hP hD hS dX1_trim_33
      · have hw := hw.2 c_5
        refine lv_aload_n hx hb dX1_trim_20 rfl (lv_at hl 0 rfl) ?_
        refine lv_dup hx hb dX1_trim_21 rfl ?_
        refine k_get hx hb hts uX1_trim_X1 hown hK hP 0 1 rfl rfl 1 (by decide) fX1_trim_13 (.int nz_1) rfl dX1_trim_22 ?_
        refine lv_iconst (v := 1) hx hb dX1_trim_25 (by decide) ?_
        refine lv_isub hx hb dX1_trim_26 ?_
        refine lv_topi (fun nz_4 enz_4 => ?_)
        have hw := hw nz_4 enz_4
        refine k_put hx hb hts uX1_trim_X1 tyX1 tyX1_ok nmX1 hown hK hP hD hS 0 1 rfl rfl 1 (by decide) fX1_trim_13 rfl rfl rfl (Nat.le_of_ble_eq_true rfl) (w' := (wX1 cI cJ Az Bz lz nz_4)) rfl dX1_trim_27 (fun H locs hP hD hS => ?_)
        refine lv_goto (tgt := 0) hx hb dX1_trim_30 (by decide) ?_
        exact ihI0_2 _ (by rw [← hNI0_2]; exact hw.2) nz_4 rfl hw.1 _ _ _ hP hD hS (lv_sub hl [0] rfl)
theorem fX1_times_13 : Cond.fieldLink RX1 13 "PrivateCounts$Natural" "size" "I" ∈ wsX1_times := by decide +kernel
theorem uX1_times_X1 : ∀ w ∈ u_ws RX1 TX1 2, w ∈ wsX1_times := by decide +kernel
theorem fX1_times_9 : Cond.fieldLink RX1 9 "PrivateCounts$Natural" "limbs" "[I" ∈ wsX1_times := by decide +kernel
theorem fX1_times_21 : Cond.constantLong RX1 21 (2147483647) ∈ wsX1_times := by decide +kernel
set_option maxHeartbeats 4000000 in
set_option maxRecDepth 100000 in
theorem M_X1_times (l : Launch) (G : va_G) (cI cJ : ClassId) (Az Bz : Nat) (lz : Nat → Int32) (nz : Int32) (p0 : Int32) (Q : (Nat → Int32) → Int32 → Prop) (hw : w_X1_times lz nz p0 Q) : Kv l yX1_times wsX1_times rm_X1_times G cI cJ [.ref Az, .int p0] (wX1 cI cJ Az Bz lz nz) (fun (u : (Nat → Int32) × (Int32)) => Q u.1 u.2) (fun u => (wX1 cI cJ Az Bz u.1 u.2)) := by
  refine kv_intro (cc := cX1_times) (maxL := 5) rfl rfl (by decide) rfl (Nat.le_of_ble_eq_true rfl) ?_
  intro p e s m args below meth c A Z ls hx hb hml hts hown hP hK hD hS hA hl hret
  have hl : lv_has ls 5 [(0, .ref Az), (1, .int p0)] := hl
  unfold w_X1_times at hw
  refine lv_lconst (v := 0) hx hb dX1_times_0 (by decide) ?_
  refine lv_lstore_n (lv' := [(2, .long 0), (0, .ref Az), (1, .int p0)]) hx hb dX1_times_1 rfl hl (by decide) rfl (fun ls hl => ?_)
  refine lv_iconst (v := 0) hx hb dX1_times_2 (by decide) ?_
  refine lv_istore (lv' := [(4, .int 0), (2, .long 0), (0, .ref Az), (1, .int p0)]) hx hb dX1_times_3 hl (by decide) rfl (fun ls hl => ?_)
  obtain ⟨I5_4, μ5_4, hi, hw⟩ := hw
  suffices hLI5_4 : ∀ (N : Nat) (i4_1 : Int32) (i2_2 : Int64) (lz_3 : Nat → Int32) (_ : μ5_4 i4_1 i2_2 lz_3 = N) (_ : I5_4 i4_1 i2_2 lz_3) (H : Heap) (locs : List Loc) (ls : Array Slot), va_P G vwCl (wX1 cI cJ Az Bz lz_3 nz) H → va_D A (wX1 cI cJ Az Bz lz_3 nz) → va_S A s.heap H locs → lv_has ls 5 [(4, .int i4_1), (2, .long i2_2), (0, .ref Az), (1, .int p0)] → W p l e rm_X1_times s m args below meth c H locs 0 0 Z (F0 m 5 ls []) from
    hLI5_4 _ (0 : Int32) (0 : Int64) lz rfl hi _ _ _ hP hD hS (lv_sub hl [0, 1, 2, 3] rfl)
  clear hi hP hD hS hl
  intro N
  induction N using Nat.strongRecOn with
  | ind N ihI5_4 =>
    intro i4_1 i2_2 lz_3 hNI5_4 hi H locs ls hP hD hS hl
    have hw := hw i4_1 i2_2 lz_3 hi
    refine lv_iload hx hb dX1_times_5 (lv_at hl 0 rfl) ?_
    refine lv_aload_n hx hb dX1_times_7 rfl (lv_at hl 2 rfl) ?_
    refine k_get hx hb hts uX1_times_X1 hown hK hP 0 1 rfl rfl 1 (by decide) fX1_times_13 (.int nz) rfl dX1_times_8 ?_
    refine lv_icmp_ge (tgt := 62) hx hb dX1_times_11 (by decide) (fun c_17 => ?_) (fun c_17 => ?_)
    · have hw := hw.1 c_17
      refine lv_aload_n hx hb dX1_times_62 rfl (lv_at hl 2 rfl) ?_
      refine lv_lload_n hx hb dX1_times_63 rfl (lv_at hl 1 rfl) ?_
      refine k_Vv (M_X1_append l G cI cJ Az Bz lz_3 nz i2_2 _ hw) ⟨hx, hb, hml, hown, hts⟩ (cwV 1 hts gX1_times_X1_append rfl rfl rfl (by decide +kernel) ⟨Nat.le_of_ble_eq_true rfl, Nat.le_of_ble_eq_true rfl⟩) hK hP hD hS hA [0, 1] [] [0, 1] (wr := []) (wn := fun u : (Nat → Int32) × (Int32) => (wX1 cI cJ Az Bz u.1 u.2)) rfl rfl (by decide) (by decide) (by decide) (by decide) (fun _ => rfl) (rest := []) (q0 := 0) rfl rfl rfl hl.1 rfl (Nat.le_of_ble_eq_true rfl) (Nat.zero_le _) (Nat.zero_le _) dX1_times_64 (fun u H locs hw hP hD hS => ?_)
      obtain ⟨lz_5, nz_6⟩ := u
      have hP : va_P G vwCl (wX1 cI cJ Az Bz lz_5 nz_6) H := hP
      have hD : va_D A (wX1 cI cJ Az Bz lz_5 nz_6) := hD
      refine lv_aload_n hx hb dX1_times_67 rfl (lv_at hl 2 rfl) ?_
      refine k_Vv (M_X1_trim l G cI cJ Az Bz lz_5 nz_6 _ hw) ⟨hx, hb, hml, hown, hts⟩ (cwV 0 hts gX1_times_X1_trim rfl rfl rfl (by decide +kernel) ⟨Nat.le_of_ble_eq_true rfl, Nat.le_of_ble_eq_true rfl⟩) hK hP hD hS hA [0, 1] [] [0, 1] (wr := []) (wn := fun u : (Int32) => (wX1 cI cJ Az Bz lz_5 u)) rfl rfl (by decide) (by decide) (by decide) (by decide) (fun _ => rfl) (rest := []) (q0 := 0) rfl rfl rfl hl.1 rfl (Nat.le_of_ble_eq_true rfl) (Nat.zero_le _) (Nat.zero_le _) dX1_times_68 (fun u H locs hw hP hD hS => ?_)
      obtain ⟨nz_7, rfl⟩ : ∃ z, z = u := ⟨_, rfl⟩
      have hP : va_P G vwCl (wX1 cI cJ Az Bz lz_5 nz_7) H := hP
      have hD : va_D A (wX1 cI cJ Az Bz lz_5 nz_7) := hD
      exact hret (lz_5, nz_7) _ _ _ _ hw hP hD hS dX1_times_71
    · have hw := hw.2 c_17
      refine lv_iload hx hb dX1_times_14 (lv_at hl 0 rfl) ?_
      refine lv_aload_n hx hb dX1_times_16 rfl (lv_at hl 2 rfl) ?_
      refine k_get hx hb hts uX1_times_X1 hown hK hP 0 1 rfl rfl 0 (by decide) fX1_times_9 (.ref Bz) rfl dX1_times_17 ?_
      refine k_alen hx hb hK hP 1 rfl 64 rfl dX1_times_20 ?_
      refine lv_icmp_ge (tgt := 62) hx hb dX1_times_21 (by decide) (fun c_16 => ?_) (fun c_16 => ?_)
      · have hw := hw.1 c_16
        refine lv_aload_n hx hb dX1_times_62 rfl (lv_at hl 2 rfl) ?_
        refine lv_lload_n hx hb dX1_times_63 rfl (lv_at hl 1 rfl) ?_
        refine k_Vv (M_X1_append l G cI cJ Az Bz lz_3 nz i2_2 _ hw) ⟨hx, hb, hml, hown, hts⟩ (cwV 1 hts gX1_times_X1_append rfl rfl rfl (by decide +kernel) ⟨Nat.le_of_ble_eq_true rfl, Nat.le_of_ble_eq_true rfl⟩) hK hP hD hS hA [0, 1] [] [0, 1] (wr := []) (wn := fun u : (Nat → Int32) × (Int32) => (wX1 cI cJ Az Bz u.1 u.2)) rfl rfl (by decide) (by decide) (by decide) (by decide) (fun _ => rfl) (rest := []) (q0 := 0) rfl rfl rfl hl.1 rfl (Nat.le_of_ble_eq_true rfl) (Nat.zero_le _) (Nat.zero_le _) dX1_times_64 (fun u H locs hw hP hD hS => ?_)
        obtain ⟨lz_8, nz_9⟩ := u
        have hP : va_P G vwCl (wX1 cI cJ Az Bz lz_8 nz_9) H := hP
        have hD : va_D A (wX1 cI cJ Az Bz lz_8 nz_9) := hD
        refine lv_aload_n hx hb dX1_times_67 rfl (lv_at hl 2 rfl) ?_
        refine k_Vv (M_X1_trim l G cI cJ Az Bz lz_8 nz_9 _ hw) ⟨hx, hb, hml, hown, hts⟩ (cwV 0 hts gX1_times_X1_trim rfl rfl rfl (by decide +kernel) ⟨Nat.le_of_ble_eq_true rfl, Nat.le_of_ble_eq_true rfl⟩) hK hP hD hS hA [0, 1] [] [0, 1] (wr := []) (wn := fun u : (Int32) => (wX1 cI cJ Az Bz lz_8 u)) rfl rfl (by decide) (by decide) (by decide) (by decide) (fun _ => rfl) (rest := []) (q0 := 0) rfl rfl rfl hl.1 rfl (Nat.le_of_ble_eq_true rfl) (Nat.zero_le _) (Nat.zero_le _) dX1_times_68 (fun u H locs hw hP hD hS => ?_)
        obtain ⟨nz_10, rfl⟩ : ∃ z, z = u := ⟨_, rfl⟩
        have hP : va_P G vwCl (wX1 cI cJ Az Bz lz_8 nz_10) H := hP
        have hD : va_D A (wX1 cI cJ Az Bz lz_8 nz_10) := hD
        exact hret (lz_8, nz_10) _ _ _ _ hw hP hD hS dX1_times_71
      · have hw := hw.2 c_16
        refine lv_lload_n hx hb dX1_times_24 rfl (lv_at hl 1 rfl) ?_
        refine lv_aload_n hx hb dX1_times_25 rfl (lv_at hl 2 rfl) ?_
        refine k_get hx hb hts uX1_times_X1 hown hK hP 0 1 rfl rfl 0 (by decide) fX1_times_9 (.ref Bz) rfl dX1_times_26 ?_
        refine lv_iload hx hb dX1_times_29 (lv_at hl 0 rfl) ?_
        obtain ⟨hin, hw⟩ := hw
        refine k_iald hx hb hK hP 1 rfl hin dX1_times_31 ?_
        refine lv_i2l (v := (lz_3 i4_1.toNatClampNeg).toInt64) hx hb dX1_times_32 rfl ?_
        refine lv_iload_n hx hb dX1_times_33 rfl (lv_at hl 3 rfl) ?_
        refine lv_i2l (v := p0.toInt64) hx hb dX1_times_34 rfl ?_
        refine lv_lmul hx hb dX1_times_35 ?_
        refine lv_topl (fun v_11 ev_11 => ?_)
        have hw := hw v_11 ev_11
        refine lv_ladd hx hb dX1_times_36 ?_
        refine lv_topl (fun i2_12 ei2_12 => ?_)
        have hw := hw i2_12 ei2_12
        refine lv_lstore_n (lv' := [(2, .long i2_12), (4, .int i4_1), (0, .ref Az), (1, .int p0)]) hx hb dX1_times_37 rfl hl (by decide) rfl (fun ls hl => ?_)
        refine lv_aload_n hx hb dX1_times_38 rfl (lv_at hl 2 rfl) ?_
        refine k_get hx hb hts uX1_times_X1 hown hK hP 0 1 rfl rfl 0 (by decide) fX1_times_9 (.ref Bz) rfl dX1_times_39 ?_
        refine lv_iload hx hb dX1_times_42 (lv_at hl 1 rfl) ?_
        refine lv_lload_n hx hb dX1_times_44 rfl (lv_at hl 0 rfl) ?_
        refine lv_ldc2 (v := 2147483647) hx hb hown (hts _ fX1_times_21) dX1_times_45 ?_
        refine lv_land hx hb dX1_times_48 ?_
        refine lv_l2i (v := (i2_12 &&& 2147483647).toInt32) hx hb dX1_times_49 rfl ?_
        obtain ⟨hin, hw⟩ := hw
        refine k_iast hx hb hK hP hD hS 1 rfl hin (w' := fun g => (wX1 cI cJ Az Bz g nz)) (fun _ => rfl) dX1_times_50 (fun lz_13 elz_13 H locs hP hD hS => ?_)
        have hw := hw lz_13 elz_13
        refine lv_lload_n hx hb dX1_times_51 rfl (lv_at hl 0 rfl) ?_
        refine lv_bipush (v := 31) hx hb dX1_times_52 (by decide) ?_
        refine lv_lshr (v := i2_12 >>> ((31 : Int32).toInt64 &&& 63)) hx hb dX1_times_54 rfl ?_
        refine lv_topl (fun i2_14 ei2_14 => ?_)
        have hw := hw i2_14 ei2_14
        refine lv_lstore_n (lv' := [(2, .long i2_14), (4, .int i4_1), (0, .ref Az), (1, .int p0)]) hx hb dX1_times_55 rfl hl (by decide) rfl (fun ls hl => ?_)
        obtain ⟨i4_15, ei4_15⟩ : ∃ y : Int32, y = i4_1 + 1 := ⟨_, rfl⟩
        have hw := hw i4_15 ei4_15
        refine lv_iinc (v := i4_15) (lv' := [(4, .int i4_15), (2, .long i2_14), (0, .ref Az), (1, .int p0)]) hx hb dX1_times_56 hl (k := 1) rfl (by rw [ei4_15]; rfl) (by decide) rfl (fun ls hl => ?_)
        refine lv_goto (tgt := 5) hx hb dX1_times_59 (by decide) ?_
        exact ihI5_4 _ (by rw [← hNI5_4]; exact hw.2) i4_15 i2_14 lz_13 rfl hw.1 _ _ _ hP hD hS (lv_sub hl [0, 1, 2, 3] rfl)
theorem fX1_plusTimes_13 : Cond.fieldLink RX1 13 "PrivateCounts$Natural" "size" "I" ∈ wsX1_plusTimes := by decide +kernel
theorem uX1_plusTimes_X1 : ∀ w ∈ u_ws RX1 TX1 2, w ∈ wsX1_plusTimes := by decide +kernel
theorem fX1_plusTimes_9 : Cond.fieldLink RX1 9 "PrivateCounts$Natural" "limbs" "[I" ∈ wsX1_plusTimes := by decide +kernel
theorem fX1_plusTimes_21 : Cond.constantLong RX1 21 (2147483647) ∈ wsX1_plusTimes := by decide +kernel
set_option maxHeartbeats 4000000 in
set_option maxRecDepth 100000 in
theorem M_X1_plusTimes (l : Launch) (G : va_G) (cI cJ : ClassId) (Az Bz Ao Bo : Nat) (lz : Nat → Int32) (nz : Int32) (lo : Nat → Int32) (no : Int32) (p1 : Int32) (Q : (Nat → Int32) → Int32 → Prop) (hw : w_X1_plusTimes lz nz lo no p1 Q) : Kv l yX1_plusTimes wsX1_plusTimes rm_X1_plusTimes G cI cJ [.ref Az, .ref Ao, .int p1] (wX1X1 cI cJ Az Bz Ao Bo lz nz lo no) (fun (u : (Nat → Int32) × (Int32)) => Q u.1 u.2) (fun u => (wX1X1 cI cJ Az Bz Ao Bo u.1 u.2 lo no)) := by
  refine kv_intro (cc := cX1_plusTimes) (maxL := 7) rfl rfl (by decide) rfl (Nat.le_of_ble_eq_true rfl) ?_
  intro p e s m args below meth c A Z ls hx hb hml hts hown hP hK hD hS hA hl hret
  have hl : lv_has ls 7 [(0, .ref Az), (1, .ref Ao), (2, .int p1)] := hl
  unfold w_X1_plusTimes at hw
  refine lv_aload_n hx hb dX1_plusTimes_0 rfl (lv_at hl 0 rfl) ?_
  refine k_get hx hb hts uX1_plusTimes_X1 hown hK hP 0 1 rfl rfl 1 (by decide) fX1_plusTimes_13 (.int nz) rfl dX1_plusTimes_1 ?_
  refine lv_aload_n hx hb dX1_plusTimes_4 rfl (lv_at hl 1 rfl) ?_
  refine k_get hx hb hts uX1_plusTimes_X1 hown hK hP 2 1 rfl rfl 1 (by decide) fX1_plusTimes_13 (.int no) rfl dX1_plusTimes_5 ?_
  obtain ⟨J22_2, hw, hR⟩ := hw
  have hJ22_2 : ∀ (t_1 : Int32) (_ : J22_2 t_1) (H : Heap) (locs : List Loc) (ls : Array Slot), va_P G vwCl (wX1X1 cI cJ Az Bz Ao Bo lz nz lo no) H → va_D A (wX1X1 cI cJ Az Bz Ao Bo lz nz lo no) → va_S A s.heap H locs → lv_has ls 7 [(0, .ref Az), (1, .ref Ao), (2, .int p1)] → W p l e rm_X1_plusTimes s m args below meth c H locs 0 0 Z (F0 m 22 ls [.int t_1]) := by
    intro t_1 hw H locs ls hP hD hS hl
    have hw := hR _ hw
    refine lv_istore_n (lv' := [(3, .int t_1), (0, .ref Az), (1, .ref Ao), (2, .int p1)]) hx hb dX1_plusTimes_22 rfl hl (by decide) rfl (fun ls hl => ?_)
    refine lv_lconst (v := 0) hx hb dX1_plusTimes_23 (by decide) ?_
    refine lv_lstore (lv' := [(4, .long 0), (3, .int t_1), (0, .ref Az), (1, .ref Ao), (2, .int p1)]) hx hb dX1_plusTimes_24 hl (by decide) rfl (fun ls hl => ?_)
    refine lv_iconst (v := 0) hx hb dX1_plusTimes_26 (by decide) ?_
    refine lv_istore (lv' := [(6, .int 0), (4, .long 0), (3, .int t_1), (0, .ref Az), (1, .ref Ao), (2, .int p1)]) hx hb dX1_plusTimes_27 hl (by decide) rfl (fun ls hl => ?_)
    obtain ⟨I29_7, μ29_7, hi, hw⟩ := hw
    suffices hLI29_7 : ∀ (N : Nat) (i6_4 : Int32) (i4_5 : Int64) (lz_6 : Nat → Int32) (_ : μ29_7 i6_4 i4_5 lz_6 = N) (_ : I29_7 i6_4 i4_5 lz_6) (H : Heap) (locs : List Loc) (ls : Array Slot), va_P G vwCl (wX1X1 cI cJ Az Bz Ao Bo lz_6 nz lo no) H → va_D A (wX1X1 cI cJ Az Bz Ao Bo lz_6 nz lo no) → va_S A s.heap H locs → lv_has ls 7 [(6, .int i6_4), (4, .long i4_5), (3, .int t_1), (0, .ref Az), (1, .ref Ao), (2, .int p1)] → W p l e rm_X1_plusTimes s m args below meth c H locs 0 0 Z (F0 m 29 ls []) from
      hLI29_7 _ (0 : Int32) (0 : Int64) lz rfl hi _ _ _ hP hD hS (lv_sub hl [0, 1, 2, 3, 4, 5] rfl)
    clear hi hP hD hS hl
    intro N
    induction N using Nat.strongRecOn with
    | ind N ihI29_7 =>
      intro i6_4 i4_5 lz_6 hNI29_7 hi H locs ls hP hD hS hl
      have hw := hw i6_4 i4_5 lz_6 hi
      refine lv_iload hx hb dX1_plusTimes_29 (lv_at hl 0 rfl) ?_
      refine lv_iload_n hx hb dX1_plusTimes_31 rfl (lv_at hl 2 rfl) ?_
      refine lv_icmp_ge (tgt := 95) hx hb dX1_plusTimes_32 (by decide) (fun c_22 => ?_) (fun c_22 => ?_)
      · have hw := hw.1 c_22
        refine lv_aload_n hx hb dX1_plusTimes_95 rfl (lv_at hl 3 rfl) ?_
        refine lv_iload_n hx hb dX1_plusTimes_96 rfl (lv_at hl 2 rfl) ?_
        refine k_put hx hb hts uX1_plusTimes_X1 tyX1 tyX1_ok nmX1 hown hK hP hD hS 0 1 rfl rfl 1 (by decide) fX1_plusTimes_13 rfl rfl rfl (Nat.le_of_ble_eq_true rfl) (w' := (wX1X1 cI cJ Az Bz Ao Bo lz_6 t_1 lo no)) rfl dX1_plusTimes_97 (fun H locs hP hD hS => ?_)
        refine lv_aload_n hx hb dX1_plusTimes_100 rfl (lv_at hl 3 rfl) ?_
        refine lv_lload hx hb dX1_plusTimes_101 (lv_at hl 1 rfl) ?_
        refine k_Vv (M_X1_append l G cI cJ Az Bz lz_6 t_1 i4_5 _ hw) ⟨hx, hb, hml, hown, hts⟩ (cwV 1 hts gX1_plusTimes_X1_append rfl rfl rfl (by decide +kernel) ⟨Nat.le_of_ble_eq_true rfl, Nat.le_of_ble_eq_true rfl⟩) hK hP hD hS hA [0, 1] [2, 3] [2, 3, 0, 1] (wr := [(Ao, .inr (1, [.ref Bo, .int no])), (Bo, .inl (cI, 64, .inl lo))]) (wn := fun u : (Nat → Int32) × (Int32) => (wX1X1 cI cJ Az Bz Ao Bo u.1 u.2 lo no)) rfl rfl (by decide) (by decide) (by decide) (by decide) (fun _ => rfl) (rest := []) (q0 := 0) rfl rfl rfl hl.1 rfl (Nat.le_of_ble_eq_true rfl) (Nat.zero_le _) (Nat.zero_le _) dX1_plusTimes_103 (fun u H locs hw hP hD hS => ?_)
        obtain ⟨lz_8, nz_9⟩ := u
        have hP : va_P G vwCl (wX1X1 cI cJ Az Bz Ao Bo lz_8 nz_9 lo no) H := hP
        have hD : va_D A (wX1X1 cI cJ Az Bz Ao Bo lz_8 nz_9 lo no) := hD
        refine lv_aload_n hx hb dX1_plusTimes_106 rfl (lv_at hl 3 rfl) ?_
        refine k_Vv (M_X1_trim l G cI cJ Az Bz lz_8 nz_9 _ hw) ⟨hx, hb, hml, hown, hts⟩ (cwV 0 hts gX1_plusTimes_X1_trim rfl rfl rfl (by decide +kernel) ⟨Nat.le_of_ble_eq_true rfl, Nat.le_of_ble_eq_true rfl⟩) hK hP hD hS hA [0, 1] [2, 3] [2, 3, 0, 1] (wr := [(Ao, .inr (1, [.ref Bo, .int no])), (Bo, .inl (cI, 64, .inl lo))]) (wn := fun u : (Int32) => (wX1X1 cI cJ Az Bz Ao Bo lz_8 u lo no)) rfl rfl (by decide) (by decide) (by decide) (by decide) (fun _ => rfl) (rest := []) (q0 := 0) rfl rfl rfl hl.1 rfl (Nat.le_of_ble_eq_true rfl) (Nat.zero_le _) (Nat.zero_le _) dX1_plusTimes_107 (fun u H locs hw hP hD hS => ?_)
        obtain ⟨nz_10, rfl⟩ : ∃ z, z = u := ⟨_, rfl⟩
        have hP : va_P G vwCl (wX1X1 cI cJ Az Bz Ao Bo lz_8 nz_10 lo no) H := hP
        have hD : va_D A (wX1X1 cI cJ Az Bz Ao Bo lz_8 nz_10 lo no) := hD
        exact hret (lz_8, nz_10) _ _ _ _ hw hP hD hS dX1_plusTimes_110
      · have hw := hw.2 c_22
        refine lv_iload hx hb dX1_plusTimes_35 (lv_at hl 0 rfl) ?_
        refine lv_aload_n hx hb dX1_plusTimes_37 rfl (lv_at hl 3 rfl) ?_
        refine k_get hx hb hts uX1_plusTimes_X1 hown hK hP 0 1 rfl rfl 0 (by decide) fX1_plusTimes_9 (.ref Bz) rfl dX1_plusTimes_38 ?_
        refine k_alen hx hb hK hP 1 rfl 64 rfl dX1_plusTimes_41 ?_
        refine lv_icmp_ge (tgt := 95) hx hb dX1_plusTimes_42 (by decide) (fun c_21 => ?_) (fun c_21 => ?_)
        · have hw := hw.1 c_21
          refine lv_aload_n hx hb dX1_plusTimes_95 rfl (lv_at hl 3 rfl) ?_
          refine lv_iload_n hx hb dX1_plusTimes_96 rfl (lv_at hl 2 rfl) ?_
          refine k_put hx hb hts uX1_plusTimes_X1 tyX1 tyX1_ok nmX1 hown hK hP hD hS 0 1 rfl rfl 1 (by decide) fX1_plusTimes_13 rfl rfl rfl (Nat.le_of_ble_eq_true rfl) (w' := (wX1X1 cI cJ Az Bz Ao Bo lz_6 t_1 lo no)) rfl dX1_plusTimes_97 (fun H locs hP hD hS => ?_)
          refine lv_aload_n hx hb dX1_plusTimes_100 rfl (lv_at hl 3 rfl) ?_
          refine lv_lload hx hb dX1_plusTimes_101 (lv_at hl 1 rfl) ?_
          refine k_Vv (M_X1_append l G cI cJ Az Bz lz_6 t_1 i4_5 _ hw) ⟨hx, hb, hml, hown, hts⟩ (cwV 1 hts gX1_plusTimes_X1_append rfl rfl rfl (by decide +kernel) ⟨Nat.le_of_ble_eq_true rfl, Nat.le_of_ble_eq_true rfl⟩) hK hP hD hS hA [0, 1] [2, 3] [2, 3, 0, 1] (wr := [(Ao, .inr (1, [.ref Bo, .int no])), (Bo, .inl (cI, 64, .inl lo))]) (wn := fun u : (Nat → Int32) × (Int32) => (wX1X1 cI cJ Az Bz Ao Bo u.1 u.2 lo no)) rfl rfl (by decide) (by decide) (by decide) (by decide) (fun _ => rfl) (rest := []) (q0 := 0) rfl rfl rfl hl.1 rfl (Nat.le_of_ble_eq_true rfl) (Nat.zero_le _) (Nat.zero_le _) dX1_plusTimes_103 (fun u H locs hw hP hD hS => ?_)
          obtain ⟨lz_11, nz_12⟩ := u
          have hP : va_P G vwCl (wX1X1 cI cJ Az Bz Ao Bo lz_11 nz_12 lo no) H := hP
          have hD : va_D A (wX1X1 cI cJ Az Bz Ao Bo lz_11 nz_12 lo no) := hD
          refine lv_aload_n hx hb dX1_plusTimes_106 rfl (lv_at hl 3 rfl) ?_
          refine k_Vv (M_X1_trim l G cI cJ Az Bz lz_11 nz_12 _ hw) ⟨hx, hb, hml, hown, hts⟩ (cwV 0 hts gX1_plusTimes_X1_trim rfl rfl rfl (by decide +kernel) ⟨Nat.le_of_ble_eq_true rfl, Nat.le_of_ble_eq_true rfl⟩) hK hP hD hS hA [0, 1] [2, 3] [2, 3, 0, 1] (wr := [(Ao, .inr (1, [.ref Bo, .int no])), (Bo, .inl (cI, 64, .inl lo))]) (wn := fun u : (Int32) => (wX1X1 cI cJ Az Bz Ao Bo lz_11 u lo no)) rfl rfl (by decide) (by decide) (by decide) (by decide) (fun _ => rfl) (rest := []) (q0 := 0) rfl rfl rfl hl.1 rfl (Nat.le_of_ble_eq_true rfl) (Nat.zero_le _) (Nat.zero_le _) dX1_plusTimes_107 (fun u H locs hw hP hD hS => ?_)
          obtain ⟨nz_13, rfl⟩ : ∃ z, z = u := ⟨_, rfl⟩
          have hP : va_P G vwCl (wX1X1 cI cJ Az Bz Ao Bo lz_11 nz_13 lo no) H := hP
          have hD : va_D A (wX1X1 cI cJ Az Bz Ao Bo lz_11 nz_13 lo no) := hD
          exact hret (lz_11, nz_13) _ _ _ _ hw hP hD hS dX1_plusTimes_110
        · have hw := hw.2 c_21
          refine lv_lload hx hb dX1_plusTimes_45 (lv_at hl 1 rfl) ?_
          refine lv_aload_n hx hb dX1_plusTimes_47 rfl (lv_at hl 3 rfl) ?_
          refine lv_iload hx hb dX1_plusTimes_48 (lv_at hl 0 rfl) ?_
          refine k_Vi (M_X1_limbAt l G cI cJ Az Bz lz_6 nz i6_4 _ hw) ⟨hx, hb, hml, hown, hts⟩ (cwV 1 hts gX1_plusTimes_X1_limbAt rfl rfl rfl (by decide +kernel) ⟨Nat.le_of_ble_eq_true rfl, Nat.le_of_ble_eq_true rfl⟩) hK hP hD hS hA [0, 1] [2, 3] [2, 3, 0, 1] (wr := [(Ao, .inr (1, [.ref Bo, .int no])), (Bo, .inl (cI, 64, .inl lo))]) (wn := fun u : Unit => (wX1X1 cI cJ Az Bz Ao Bo lz_6 nz lo no)) rfl rfl (by decide) (by decide) (by decide) (by decide) (fun _ => rfl) (rest := [.long i4_5]) (q0 := 0) rfl rfl rfl hl.1 rfl (Nat.le_of_ble_eq_true rfl) (Nat.zero_le _) (Nat.zero_le _) dX1_plusTimes_50 (fun r_14 u H locs hw hP hD hS => ?_)
          refine lv_i2l (v := r_14.toInt64) hx hb dX1_plusTimes_53 rfl ?_
          refine lv_aload_n hx hb dX1_plusTimes_54 rfl (lv_at hl 4 rfl) ?_
          refine lv_iload hx hb dX1_plusTimes_55 (lv_at hl 0 rfl) ?_
          refine k_Vi (M_X1_limbAt l G cI cJ Ao Bo lo no i6_4 _ hw) ⟨hx, hb, hml, hown, hts⟩ (cwV 1 hts gX1_plusTimes_X1_limbAt rfl rfl rfl (by decide +kernel) ⟨Nat.le_of_ble_eq_true rfl, Nat.le_of_ble_eq_true rfl⟩) hK hP hD hS hA [2, 3] [0, 1] [0, 1, 2, 3] (wr := [(Az, .inr (1, [.ref Bz, .int nz])), (Bz, .inl (cI, 64, .inl lz_6))]) (wn := fun u : Unit => (wX1X1 cI cJ Az Bz Ao Bo lz_6 nz lo no)) rfl rfl (by decide) (by decide) (by decide) (by decide) (fun _ => rfl) (rest := [.long r_14.toInt64, .long i4_5]) (q0 := 0) rfl rfl rfl hl.1 rfl (Nat.le_of_ble_eq_true rfl) (Nat.zero_le _) (Nat.zero_le _) dX1_plusTimes_57 (fun r_15 u H locs hw hP hD hS => ?_)
          refine lv_i2l (v := r_15.toInt64) hx hb dX1_plusTimes_60 rfl ?_
          refine lv_iload_n hx hb dX1_plusTimes_61 rfl (lv_at hl 5 rfl) ?_
          refine lv_i2l (v := p1.toInt64) hx hb dX1_plusTimes_62 rfl ?_
          refine lv_lmul hx hb dX1_plusTimes_63 ?_
          refine lv_ladd hx hb dX1_plusTimes_64 ?_
          refine lv_topl (fun v_16 ev_16 => ?_)
          have hw := hw v_16 ev_16
          refine lv_ladd hx hb dX1_plusTimes_65 ?_
          refine lv_topl (fun i4_17 ei4_17 => ?_)
          have hw := hw i4_17 ei4_17
          refine lv_lstore (lv' := [(4, .long i4_17), (6, .int i6_4), (3, .int t_1), (0, .ref Az), (1, .ref Ao), (2, .int p1)]) hx hb dX1_plusTimes_66 hl (by decide) rfl (fun ls hl => ?_)
          refine lv_aload_n hx hb dX1_plusTimes_68 rfl (lv_at hl 3 rfl) ?_
          refine k_get hx hb hts uX1_plusTimes_X1 hown hK hP 0 1 rfl rfl 0 (by decide) fX1_plusTimes_9 (.ref Bz) rfl dX1_plusTimes_69 ?_
          refine lv_iload hx hb dX1_plusTimes_72 (lv_at hl 1 rfl) ?_
          refine lv_lload hx hb dX1_plusTimes_74 (lv_at hl 0 rfl) ?_
          refine lv_ldc2 (v := 2147483647) hx hb hown (hts _ fX1_plusTimes_21) dX1_plusTimes_76 ?_
          refine lv_land hx hb dX1_plusTimes_79 ?_
          refine lv_l2i (v := (i4_17 &&& 2147483647).toInt32) hx hb dX1_plusTimes_80 rfl ?_
          obtain ⟨hin, hw⟩ := hw
          refine k_iast hx hb hK hP hD hS 1 rfl hin (w' := fun g => (wX1X1 cI cJ Az Bz Ao Bo g nz lo no)) (fun _ => rfl) dX1_plusTimes_81 (fun lz_18 elz_18 H locs hP hD hS => ?_)
          have hw := hw lz_18 elz_18
          refine lv_lload hx hb dX1_plusTimes_82 (lv_at hl 0 rfl) ?_
          refine lv_bipush (v := 31) hx hb dX1_plusTimes_84 (by decide) ?_
          refine lv_lshr (v := i4_17 >>> ((31 : Int32).toInt64 &&& 63)) hx hb dX1_plusTimes_86 rfl ?_
          refine lv_topl (fun i4_19 ei4_19 => ?_)
          have hw := hw i4_19 ei4_19
          refine lv_lstore (lv' := [(4, .long i4_19), (6, .int i6_4), (3, .int t_1), (0, .ref Az), (1, .ref Ao), (2, .int p1)]) hx hb dX1_plusTimes_87 hl (by decide) rfl (fun ls hl => ?_)
          obtain ⟨i6_20, ei6_20⟩ : ∃ y : Int32, y = i6_4 + 1 := ⟨_, rfl⟩
          have hw := hw i6_20 ei6_20
          refine lv_iinc (v := i6_20) (lv' := [(6, .int i6_20), (4, .long i4_19), (3, .int t_1), (0, .ref Az), (1, .ref Ao), (2, .int p1)]) hx hb dX1_plusTimes_89 hl (k := 1) rfl (by rw [ei6_20]; rfl) (by decide) rfl (fun ls hl => ?_)
          refine lv_goto (tgt := 29) hx hb dX1_plusTimes_92 (by decide) ?_
          exact ihI29_7 _ (by rw [← hNI29_7]; exact hw.2) i6_20 i4_19 lz_18 rfl hw.1 _ _ _ hP hD hS (lv_sub hl [0, 1, 2, 3, 4, 5] rfl)
  clear hR
  refine lv_icmp_le (tgt := 18) hx hb dX1_plusTimes_8 (by decide) (fun c_3 => ?_) (fun c_3 => ?_)
  · have hw := hw.1 c_3
    refine lv_aload_n hx hb dX1_plusTimes_18 rfl (lv_at hl 1 rfl) ?_
    refine k_get hx hb hts uX1_plusTimes_X1 hown hK hP 2 1 rfl rfl 1 (by decide) fX1_plusTimes_13 (.int no) rfl dX1_plusTimes_19 ?_
    exact hJ22_2 no hw _ _ _ hP hD hS (lv_sub hl [0, 1, 2] rfl)
  · have hw := hw.2 c_3
    refine lv_aload_n hx hb dX1_plusTimes_11 rfl (lv_at hl 0 rfl) ?_
    refine k_get hx hb hts uX1_plusTimes_X1 hown hK hP 0 1 rfl rfl 1 (by decide) fX1_plusTimes_13 (.int nz) rfl dX1_plusTimes_12 ?_
    refine lv_goto (tgt := 22) hx hb dX1_plusTimes_15 (by decide) ?_
    exact hJ22_2 nz hw _ _ _ hP hD hS (lv_sub hl [0, 1, 2] rfl)
theorem fX1_divideBy_13 : Cond.fieldLink RX1 13 "PrivateCounts$Natural" "size" "I" ∈ wsX1_divideBy := by decide +kernel
theorem uX1_divideBy_X1 : ∀ w ∈ u_ws RX1 TX1 2, w ∈ wsX1_divideBy := by decide +kernel
theorem fX1_divideBy_9 : Cond.fieldLink RX1 9 "PrivateCounts$Natural" "limbs" "[I" ∈ wsX1_divideBy := by decide +kernel
set_option maxHeartbeats 4000000 in
set_option maxRecDepth 100000 in
theorem M_X1_divideBy (l : Launch) (G : va_G) (cI cJ : ClassId) (Az Bz : Nat) (lz : Nat → Int32) (nz : Int32) (p0 : Int32) (Q : (Nat → Int32) → Int32 → Prop) (hw : w_X1_divideBy lz nz p0 Q) : Kv l yX1_divideBy wsX1_divideBy rm_X1_divideBy G cI cJ [.ref Az, .int p0] (wX1 cI cJ Az Bz lz nz) (fun (u : (Nat → Int32) × (Int32)) => Q u.1 u.2) (fun u => (wX1 cI cJ Az Bz u.1 u.2)) := by
  refine kv_intro (cc := cX1_divideBy) (maxL := 5) rfl rfl (by decide) rfl (Nat.le_of_ble_eq_true rfl) ?_
  intro p e s m args below meth c A Z ls hx hb hml hts hown hP hK hD hS hA hl hret
  have hl : lv_has ls 5 [(0, .ref Az), (1, .int p0)] := hl
  unfold w_X1_divideBy at hw
  refine lv_iload_n hx hb dX1_divideBy_0 rfl (lv_at hl 1 rfl) ?_
  refine lv_iconst (v := 1) hx hb dX1_divideBy_1 (by decide) ?_
  refine lv_icmp_ge (tgt := 6) hx hb dX1_divideBy_2 (by decide) (fun c_15 => ?_) (fun c_15 => ?_)
  · have hw := hw.1 c_15
    refine lv_lconst (v := 0) hx hb dX1_divideBy_6 (by decide) ?_
    refine lv_lstore_n (lv' := [(2, .long 0), (0, .ref Az), (1, .int p0)]) hx hb dX1_divideBy_7 rfl hl (by decide) rfl (fun ls hl => ?_)
    refine lv_aload_n hx hb dX1_divideBy_8 rfl (lv_at hl 1 rfl) ?_
    refine k_get hx hb hts uX1_divideBy_X1 hown hK hP 0 1 rfl rfl 1 (by decide) fX1_divideBy_13 (.int nz) rfl dX1_divideBy_9 ?_
    refine lv_iconst (v := 1) hx hb dX1_divideBy_12 (by decide) ?_
    refine lv_isub hx hb dX1_divideBy_13 ?_
    refine lv_topi (fun i4_1 ei4_1 => ?_)
    have hw := hw i4_1 ei4_1
    refine lv_istore (lv' := [(4, .int i4_1), (2, .long 0), (0, .ref Az), (1, .int p0)]) hx hb dX1_divideBy_14 hl (by decide) rfl (fun ls hl => ?_)
    obtain ⟨I16_5, μ16_5, hi, hw⟩ := hw
    suffices hLI16_5 : ∀ (N : Nat) (i4_2 : Int32) (i2_3 : Int64) (lz_4 : Nat → Int32) (_ : μ16_5 i4_2 i2_3 lz_4 = N) (_ : I16_5 i4_2 i2_3 lz_4) (H : Heap) (locs : List Loc) (ls : Array Slot), va_P G vwCl (wX1 cI cJ Az Bz lz_4 nz) H → va_D A (wX1 cI cJ Az Bz lz_4 nz) → va_S A s.heap H locs → lv_has ls 5 [(4, .int i4_2), (2, .long i2_3), (0, .ref Az), (1, .int p0)] → W p l e rm_X1_divideBy s m args below meth c H locs 0 0 Z (F0 m 16 ls []) from
      hLI16_5 _ i4_1 (0 : Int64) lz rfl hi _ _ _ hP hD hS (lv_sub hl [0, 1, 2, 3] rfl)
    clear hi hP hD hS hl
    intro N
    induction N using Nat.strongRecOn with
    | ind N ihI16_5 =>
      intro i4_2 i2_3 lz_4 hNI16_5 hi H locs ls hP hD hS hl
      have hw := hw i4_2 i2_3 lz_4 hi
      refine lv_iload hx hb dX1_divideBy_16 (lv_at hl 0 rfl) ?_
      refine lv_if_lt (tgt := 68) hx hb dX1_divideBy_18 (by decide) (fun c_14 => ?_) (fun c_14 => ?_)
      · have hw := hw.1 c_14
        refine lv_aload_n hx hb dX1_divideBy_68 rfl (lv_at hl 2 rfl) ?_
        refine k_Vv (M_X1_trim l G cI cJ Az Bz lz_4 nz _ hw) ⟨hx, hb, hml, hown, hts⟩ (cwV 0 hts gX1_divideBy_X1_trim rfl rfl rfl (by decide +kernel) ⟨Nat.le_of_ble_eq_true rfl, Nat.le_of_ble_eq_true rfl⟩) hK hP hD hS hA [0, 1] [] [0, 1] (wr := []) (wn := fun u : (Int32) => (wX1 cI cJ Az Bz lz_4 u)) rfl rfl (by decide) (by decide) (by decide) (by decide) (fun _ => rfl) (rest := []) (q0 := 0) rfl rfl rfl hl.1 rfl (Nat.le_of_ble_eq_true rfl) (Nat.zero_le _) (Nat.zero_le _) dX1_divideBy_69 (fun u H locs hw hP hD hS => ?_)
        obtain ⟨nz_6, rfl⟩ : ∃ z, z = u := ⟨_, rfl⟩
        have hP : va_P G vwCl (wX1 cI cJ Az Bz lz_4 nz_6) H := hP
        have hD : va_D A (wX1 cI cJ Az Bz lz_4 nz_6) := hD
        exact hret (lz_4, nz_6) _ _ _ _ hw hP hD hS dX1_divideBy_72
      · have hw := hw.2 c_14
        refine lv_iload hx hb dX1_divideBy_21 (lv_at hl 0 rfl) ?_
        refine lv_aload_n hx hb dX1_divideBy_23 rfl (lv_at hl 2 rfl) ?_
        refine k_get hx hb hts uX1_divideBy_X1 hown hK hP 0 1 rfl rfl 0 (by decide) fX1_divideBy_9 (.ref Bz) rfl dX1_divideBy_24 ?_
        refine k_alen hx hb hK hP 1 rfl 64 rfl dX1_divideBy_27 ?_
        refine lv_icmp_ge (tgt := 68) hx hb dX1_divideBy_28 (by decide) (fun c_13 => ?_) (fun c_13 => ?_)
        · have hw := hw.1 c_13
          refine lv_aload_n hx hb dX1_divideBy_68 rfl (lv_at hl 2 rfl) ?_
          refine k_Vv (M_X1_trim l G cI cJ Az Bz lz_4 nz _ hw) ⟨hx, hb, hml, hown, hts⟩ (cwV 0 hts gX1_divideBy_X1_trim rfl rfl rfl (by decide +kernel) ⟨Nat.le_of_ble_eq_true rfl, Nat.le_of_ble_eq_true rfl⟩) hK hP hD hS hA [0, 1] [] [0, 1] (wr := []) (wn := fun u : (Int32) => (wX1 cI cJ Az Bz lz_4 u)) rfl rfl (by decide) (by decide) (by decide) (by decide) (fun _ => rfl) (rest := []) (q0 := 0) rfl rfl rfl hl.1 rfl (Nat.le_of_ble_eq_true rfl) (Nat.zero_le _) (Nat.zero_le _) dX1_divideBy_69 (fun u H locs hw hP hD hS => ?_)
          obtain ⟨nz_7, rfl⟩ : ∃ z, z = u := ⟨_, rfl⟩
          have hP : va_P G vwCl (wX1 cI cJ Az Bz lz_4 nz_7) H := hP
          have hD : va_D A (wX1 cI cJ Az Bz lz_4 nz_7) := hD
          exact hret (lz_4, nz_7) _ _ _ _ hw hP hD hS dX1_divideBy_72
        · have hw := hw.2 c_13
          refine lv_lload_n hx hb dX1_divideBy_31 rfl (lv_at hl 1 rfl) ?_
          refine lv_bipush (v := 31) hx hb dX1_divideBy_32 (by decide) ?_
          refine lv_lshl (v := i2_3 <<< ((31 : Int32).toInt64 &&& 63)) hx hb dX1_divideBy_34 rfl ?_
          refine lv_aload_n hx hb dX1_divideBy_35 rfl (lv_at hl 2 rfl) ?_
          refine k_get hx hb hts uX1_divideBy_X1 hown hK hP 0 1 rfl rfl 0 (by decide) fX1_divideBy_9 (.ref Bz) rfl dX1_divideBy_36 ?_
          refine lv_iload hx hb dX1_divideBy_39 (lv_at hl 0 rfl) ?_
          obtain ⟨hin, hw⟩ := hw
          refine k_iald hx hb hK hP 1 rfl hin dX1_divideBy_41 ?_
          refine lv_i2l (v := (lz_4 i4_2.toNatClampNeg).toInt64) hx hb dX1_divideBy_42 rfl ?_
          refine lv_ladd hx hb dX1_divideBy_43 ?_
          refine lv_topl (fun v_8 ev_8 => ?_)
          have hw := hw v_8 ev_8
          refine lv_lstore_n (lv' := [(2, .long v_8), (4, .int i4_2), (0, .ref Az), (1, .int p0)]) hx hb dX1_divideBy_44 rfl hl (by decide) rfl (fun ls hl => ?_)
          refine lv_aload_n hx hb dX1_divideBy_45 rfl (lv_at hl 2 rfl) ?_
          refine k_get hx hb hts uX1_divideBy_X1 hown hK hP 0 1 rfl rfl 0 (by decide) fX1_divideBy_9 (.ref Bz) rfl dX1_divideBy_46 ?_
          refine lv_iload hx hb dX1_divideBy_49 (lv_at hl 1 rfl) ?_
          refine lv_lload_n hx hb dX1_divideBy_51 rfl (lv_at hl 0 rfl) ?_
          refine lv_iload_n hx hb dX1_divideBy_52 rfl (lv_at hl 3 rfl) ?_
          refine lv_i2l (v := p0.toInt64) hx hb dX1_divideBy_53 rfl ?_
          obtain ⟨hne, hw⟩ := hw
          refine lv_ldiv hx hb dX1_divideBy_54 hne ?_
          refine lv_topl (fun v_9 ev_9 => ?_)
          have hw := hw v_9 ev_9
          refine lv_l2i (v := v_9.toInt32) hx hb dX1_divideBy_55 rfl ?_
          obtain ⟨hin, hw⟩ := hw
          refine k_iast hx hb hK hP hD hS 1 rfl hin (w' := fun g => (wX1 cI cJ Az Bz g nz)) (fun _ => rfl) dX1_divideBy_56 (fun lz_10 elz_10 H locs hP hD hS => ?_)
          have hw := hw lz_10 elz_10
          refine lv_lload_n hx hb dX1_divideBy_57 rfl (lv_at hl 0 rfl) ?_
          refine lv_iload_n hx hb dX1_divideBy_58 rfl (lv_at hl 3 rfl) ?_
          refine lv_i2l (v := p0.toInt64) hx hb dX1_divideBy_59 rfl ?_
          obtain ⟨hne, hw⟩ := hw
          refine lv_lrem hx hb dX1_divideBy_60 hne ?_
          refine lv_topl (fun v_11 ev_11 => ?_)
          have hw := hw v_11 ev_11
          refine lv_lstore_n (lv' := [(2, .long v_11), (4, .int i4_2), (0, .ref Az), (1, .int p0)]) hx hb dX1_divideBy_61 rfl hl (by decide) rfl (fun ls hl => ?_)
          obtain ⟨i4_12, ei4_12⟩ : ∃ y : Int32, y = i4_2 + (-1) := ⟨_, rfl⟩
          have hw := hw i4_12 ei4_12
          refine lv_iinc (v := i4_12) (lv' := [(4, .int i4_12), (2, .long v_11), (0, .ref Az), (1, .int p0)]) hx hb dX1_divideBy_62 hl (k := 1) rfl (by rw [ei4_12]; rfl) (by decide) rfl (fun ls hl => ?_)
          refine lv_goto (tgt := 16) hx hb dX1_divideBy_65 (by decide) ?_
          exact ihI16_5 _ (by rw [← hNI16_5]; exact hw.2) i4_12 v_11 lz_10 rfl hw.1 _ _ _ hP hD hS (lv_sub hl [0, 1, 2, 3] rfl)
  · have hw := hw.2 c_15
    exact hret (lz, nz) _ _ _ _ hw hP hD hS dX1_divideBy_5
theorem fX1_restBy_13 : Cond.fieldLink RX1 13 "PrivateCounts$Natural" "size" "I" ∈ wsX1_restBy := by decide +kernel
theorem uX1_restBy_X1 : ∀ w ∈ u_ws RX1 TX1 2, w ∈ wsX1_restBy := by decide +kernel
set_option maxHeartbeats 4000000 in
set_option maxRecDepth 100000 in
theorem M_X1_restBy (l : Launch) (G : va_G) (cI cJ : ClassId) (Az Bz : Nat) (lz : Nat → Int32) (nz : Int32) (p0 : Int32) (Q : Int32 → Prop) (hw : w_X1_restBy lz nz p0 Q) : Ki l yX1_restBy wsX1_restBy rm_X1_restBy G cI cJ [.ref Az, .int p0] (wX1 cI cJ Az Bz lz nz) (fun (r : Int32) (u : Unit) => Q r) (fun u => (wX1 cI cJ Az Bz lz nz)) := by
  refine ki_intro (cc := cX1_restBy) (maxL := 5) rfl rfl (by decide) rfl (Nat.le_of_ble_eq_true rfl) ?_
  intro p e s m args below meth c A Z ls hx hb hml hts hown hP hK hD hS hA hl hret
  have hl : lv_has ls 5 [(0, .ref Az), (1, .int p0)] := hl
  unfold w_X1_restBy at hw
  refine lv_iload_n hx hb dX1_restBy_0 rfl (lv_at hl 1 rfl) ?_
  refine lv_iconst (v := 1) hx hb dX1_restBy_1 (by decide) ?_
  refine lv_icmp_ge (tgt := 7) hx hb dX1_restBy_2 (by decide) (fun c_10 => ?_) (fun c_10 => ?_)
  · have hw := hw.1 c_10
    refine lv_lconst (v := 0) hx hb dX1_restBy_7 (by decide) ?_
    refine lv_lstore_n (lv' := [(2, .long 0), (0, .ref Az), (1, .int p0)]) hx hb dX1_restBy_8 rfl hl (by decide) rfl (fun ls hl => ?_)
    refine lv_aload_n hx hb dX1_restBy_9 rfl (lv_at hl 1 rfl) ?_
    refine k_get hx hb hts uX1_restBy_X1 hown hK hP 0 1 rfl rfl 1 (by decide) fX1_restBy_13 (.int nz) rfl dX1_restBy_10 ?_
    refine lv_iconst (v := 1) hx hb dX1_restBy_13 (by decide) ?_
    refine lv_isub hx hb dX1_restBy_14 ?_
    refine lv_topi (fun i4_1 ei4_1 => ?_)
    have hw := hw i4_1 ei4_1
    refine lv_istore (lv' := [(4, .int i4_1), (2, .long 0), (0, .ref Az), (1, .int p0)]) hx hb dX1_restBy_15 hl (by decide) rfl (fun ls hl => ?_)
    obtain ⟨I17_4, μ17_4, hi, hw⟩ := hw
    suffices hLI17_4 : ∀ (N : Nat) (i4_2 : Int32) (i2_3 : Int64) (_ : μ17_4 i4_2 i2_3 = N) (_ : I17_4 i4_2 i2_3) (H : Heap) (locs : List Loc) (ls : Array Slot), va_P G vwCl (wX1 cI cJ Az Bz lz nz) H → va_D A (wX1 cI cJ Az Bz lz nz) → va_S A s.heap H locs → lv_has ls 5 [(4, .int i4_2), (2, .long i2_3), (0, .ref Az), (1, .int p0)] → W p l e rm_X1_restBy s m args below meth c H locs 0 0 Z (F0 m 17 ls []) from
      hLI17_4 _ i4_1 (0 : Int64) rfl hi _ _ _ hP hD hS (lv_sub hl [0, 1, 2, 3] rfl)
    clear hi hP hD hS hl
    intro N
    induction N using Nat.strongRecOn with
    | ind N ihI17_4 =>
      intro i4_2 i2_3 hNI17_4 hi H locs ls hP hD hS hl
      have hw := hw i4_2 i2_3 hi
      refine lv_iload hx hb dX1_restBy_17 (lv_at hl 0 rfl) ?_
      refine lv_if_lt (tgt := 44) hx hb dX1_restBy_19 (by decide) (fun c_9 => ?_) (fun c_9 => ?_)
      · have hw := hw.1 c_9
        refine lv_lload_n hx hb dX1_restBy_44 rfl (lv_at hl 1 rfl) ?_
        refine lv_l2i (v := i2_3.toInt32) hx hb dX1_restBy_45 rfl ?_
        exact hret _ () _ _ _ _ hw hP hD hS dX1_restBy_46
      · have hw := hw.2 c_9
        refine lv_lload_n hx hb dX1_restBy_22 rfl (lv_at hl 1 rfl) ?_
        refine lv_bipush (v := 31) hx hb dX1_restBy_23 (by decide) ?_
        refine lv_lshl (v := i2_3 <<< ((31 : Int32).toInt64 &&& 63)) hx hb dX1_restBy_25 rfl ?_
        refine lv_aload_n hx hb dX1_restBy_26 rfl (lv_at hl 2 rfl) ?_
        refine lv_iload hx hb dX1_restBy_27 (lv_at hl 0 rfl) ?_
        refine k_Vi (M_X1_limbAt l G cI cJ Az Bz lz nz i4_2 _ hw) ⟨hx, hb, hml, hown, hts⟩ (cwV 1 hts gX1_restBy_X1_limbAt rfl rfl rfl (by decide +kernel) ⟨Nat.le_of_ble_eq_true rfl, Nat.le_of_ble_eq_true rfl⟩) hK hP hD hS hA [0, 1] [] [0, 1] (wr := []) (wn := fun u : Unit => (wX1 cI cJ Az Bz lz nz)) rfl rfl (by decide) (by decide) (by decide) (by decide) (fun _ => rfl) (rest := [.long (i2_3 <<< ((31 : Int32).toInt64 &&& 63))]) (q0 := 0) rfl rfl rfl hl.1 rfl (Nat.le_of_ble_eq_true rfl) (Nat.zero_le _) (Nat.zero_le _) dX1_restBy_29 (fun r_5 u H locs hw hP hD hS => ?_)
        refine lv_i2l (v := r_5.toInt64) hx hb dX1_restBy_32 rfl ?_
        refine lv_ladd hx hb dX1_restBy_33 ?_
        refine lv_topl (fun v_6 ev_6 => ?_)
        have hw := hw v_6 ev_6
        refine lv_iload_n hx hb dX1_restBy_34 rfl (lv_at hl 3 rfl) ?_
        refine lv_i2l (v := p0.toInt64) hx hb dX1_restBy_35 rfl ?_
        obtain ⟨hne, hw⟩ := hw
        refine lv_lrem hx hb dX1_restBy_36 hne ?_
        refine lv_topl (fun v_7 ev_7 => ?_)
        have hw := hw v_7 ev_7
        refine lv_lstore_n (lv' := [(2, .long v_7), (4, .int i4_2), (0, .ref Az), (1, .int p0)]) hx hb dX1_restBy_37 rfl hl (by decide) rfl (fun ls hl => ?_)
        obtain ⟨i4_8, ei4_8⟩ : ∃ y : Int32, y = i4_2 + (-1) := ⟨_, rfl⟩
        have hw := hw i4_8 ei4_8
        refine lv_iinc (v := i4_8) (lv' := [(4, .int i4_8), (2, .long v_7), (0, .ref Az), (1, .int p0)]) hx hb dX1_restBy_38 hl (k := 1) rfl (by rw [ei4_8]; rfl) (by decide) rfl (fun ls hl => ?_)
        refine lv_goto (tgt := 17) hx hb dX1_restBy_41 (by decide) ?_
        exact ihI17_4 _ (by rw [← hNI17_4]; exact hw.2) i4_8 v_7 rfl hw.1 _ _ _ hP hD hS (lv_sub hl [0, 1, 2, 3] rfl)
  · have hw := hw.2 c_10
    refine lv_iconst (v := 0) hx hb dX1_restBy_5 (by decide) ?_
    exact hret _ () _ _ _ _ hw hP hD hS dX1_restBy_6
theorem fX1_isLess_13 : Cond.fieldLink RX1 13 "PrivateCounts$Natural" "size" "I" ∈ wsX1_isLess := by decide +kernel
theorem uX1_isLess_X1 : ∀ w ∈ u_ws RX1 TX1 2, w ∈ wsX1_isLess := by decide +kernel
set_option maxHeartbeats 4000000 in
set_option maxRecDepth 100000 in
theorem M_X1_isLess (l : Launch) (G : va_G) (cI cJ : ClassId) (Az Bz Ao Bo : Nat) (lz : Nat → Int32) (nz : Int32) (lo : Nat → Int32) (no : Int32) (p1 : Int32) (p3 : Int32) (Q : Int32 → Prop) (hw : w_X1_isLess lz nz lo no p1 p3 Q) : Ki l yX1_isLess wsX1_isLess rm_X1_isLess G cI cJ [.ref Az, .int p1, .ref Ao, .int p3] (wX1X1 cI cJ Az Bz Ao Bo lz nz lo no) (fun (r : Int32) (u : Unit) => wB r ∧ Q r) (fun u => (wX1X1 cI cJ Az Bz Ao Bo lz nz lo no)) := by
  refine kz_intro (cc := cX1_isLess) (maxL := 8) rfl rfl (by decide) rfl (Nat.le_of_ble_eq_true rfl) ?_
  intro p e s m args below meth c A Z ls hx hb hml hts hown hP hK hD hS hA hl hret
  have hl : lv_has ls 8 [(0, .ref Az), (1, .int p1), (2, .ref Ao), (3, .int p3)] := hl
  unfold w_X1_isLess at hw
  refine lv_aload_n hx hb dX1_isLess_0 rfl (lv_at hl 0 rfl) ?_
  refine k_get hx hb hts uX1_isLess_X1 hown hK hP 0 1 rfl rfl 1 (by decide) fX1_isLess_13 (.int nz) rfl dX1_isLess_1 ?_
  refine lv_aload_n hx hb dX1_isLess_4 rfl (lv_at hl 2 rfl) ?_
  refine k_get hx hb hts uX1_isLess_X1 hown hK hP 2 1 rfl rfl 1 (by decide) fX1_isLess_13 (.int no) rfl dX1_isLess_5 ?_
  obtain ⟨J22_2, hw, hR⟩ := hw
  have hJ22_2 : ∀ (t_1 : Int32) (_ : J22_2 t_1) (H : Heap) (locs : List Loc) (ls : Array Slot), va_P G vwCl (wX1X1 cI cJ Az Bz Ao Bo lz nz lo no) H → va_D A (wX1X1 cI cJ Az Bz Ao Bo lz nz lo no) → va_S A s.heap H locs → lv_has ls 8 [(0, .ref Az), (1, .int p1), (2, .ref Ao), (3, .int p3)] → W p l e rm_X1_isLess s m args below meth c H locs 0 0 Z (F0 m 22 ls [.int t_1]) := by
    intro t_1 hw H locs ls hP hD hS hl
    have hw := hR _ hw
    refine lv_istore (lv' := [(4, .int t_1), (0, .ref Az), (1, .int p1), (2, .ref Ao), (3, .int p3)]) hx hb dX1_isLess_22 hl (by decide) rfl (fun ls hl => ?_)
    refine lv_lconst (v := 0) hx hb dX1_isLess_24 (by decide) ?_
    refine lv_lstore (lv' := [(5, .long 0), (4, .int t_1), (0, .ref Az), (1, .int p1), (2, .ref Ao), (3, .int p3)]) hx hb dX1_isLess_25 hl (by decide) rfl (fun ls hl => ?_)
    refine lv_iconst (v := 0) hx hb dX1_isLess_27 (by decide) ?_
    refine lv_istore (lv' := [(7, .int 0), (5, .long 0), (4, .int t_1), (0, .ref Az), (1, .int p1), (2, .ref Ao), (3, .int p3)]) hx hb dX1_isLess_28 hl (by decide) rfl (fun ls hl => ?_)
    obtain ⟨I30_6, μ30_6, hi, hw⟩ := hw
    suffices hLI30_6 : ∀ (N : Nat) (i7_4 : Int32) (i5_5 : Int64) (_ : μ30_6 i7_4 i5_5 = N) (_ : I30_6 i7_4 i5_5) (H : Heap) (locs : List Loc) (ls : Array Slot), va_P G vwCl (wX1X1 cI cJ Az Bz Ao Bo lz nz lo no) H → va_D A (wX1X1 cI cJ Az Bz Ao Bo lz nz lo no) → va_S A s.heap H locs → lv_has ls 8 [(7, .int i7_4), (5, .long i5_5), (4, .int t_1), (0, .ref Az), (1, .int p1), (2, .ref Ao), (3, .int p3)] → W p l e rm_X1_isLess s m args below meth c H locs 0 0 Z (F0 m 30 ls []) from
      hLI30_6 _ (0 : Int32) (0 : Int64) rfl hi _ _ _ hP hD hS (lv_sub hl [0, 1, 2, 3, 4, 5, 6] rfl)
    clear hi hP hD hS hl
    intro N
    induction N using Nat.strongRecOn with
    | ind N ihI30_6 =>
      intro i7_4 i5_5 hNI30_6 hi H locs ls hP hD hS hl
      have hw := hw i7_4 i5_5 hi
      refine lv_iload hx hb dX1_isLess_30 (lv_at hl 0 rfl) ?_
      refine lv_iload hx hb dX1_isLess_32 (lv_at hl 2 rfl) ?_
      refine lv_icmp_ge (tgt := 76) hx hb dX1_isLess_34 (by decide) (fun c_14 => ?_) (fun c_14 => ?_)
      · have hw := hw.1 c_14
        refine lv_lload hx hb dX1_isLess_76 (lv_at hl 1 rfl) ?_
        refine lv_lconst (v := 0) hx hb dX1_isLess_78 (by decide) ?_
        refine k_lif_ge (tgt := 87) hx hb dX1_isLess_79 dX1_isLess_80 (by decide) (fun c_7 => ?_) (fun c_7 => ?_)
        · have hw := hw.1 c_7
          refine lv_iconst (v := 0) hx hb dX1_isLess_87 (by decide) ?_
          exact hret _ () _ _ _ _ (Or.inl rfl) hw hP hD hS dX1_isLess_88
        · have hw := hw.2 c_7
          refine lv_iconst (v := 1) hx hb dX1_isLess_83 (by decide) ?_
          refine lv_goto (tgt := 88) hx hb dX1_isLess_84 (by decide) ?_
          exact hret _ () _ _ _ _ (Or.inr rfl) hw hP hD hS dX1_isLess_88
      · have hw := hw.2 c_14
        refine lv_lload hx hb dX1_isLess_37 (lv_at hl 1 rfl) ?_
        refine lv_aload_n hx hb dX1_isLess_39 rfl (lv_at hl 3 rfl) ?_
        refine lv_iload hx hb dX1_isLess_40 (lv_at hl 0 rfl) ?_
        refine k_Vi (M_X1_limbAt l G cI cJ Az Bz lz nz i7_4 _ hw) ⟨hx, hb, hml, hown, hts⟩ (cwV 1 hts gX1_isLess_X1_limbAt rfl rfl rfl (by decide +kernel) ⟨Nat.le_of_ble_eq_true rfl, Nat.le_of_ble_eq_true rfl⟩) hK hP hD hS hA [0, 1] [2, 3] [2, 3, 0, 1] (wr := [(Ao, .inr (1, [.ref Bo, .int no])), (Bo, .inl (cI, 64, .inl lo))]) (wn := fun u : Unit => (wX1X1 cI cJ Az Bz Ao Bo lz nz lo no)) rfl rfl (by decide) (by decide) (by decide) (by decide) (fun _ => rfl) (rest := [.long i5_5]) (q0 := 0) rfl rfl rfl hl.1 rfl (Nat.le_of_ble_eq_true rfl) (Nat.zero_le _) (Nat.zero_le _) dX1_isLess_42 (fun r_8 u H locs hw hP hD hS => ?_)
        refine lv_i2l (v := r_8.toInt64) hx hb dX1_isLess_45 rfl ?_
        refine lv_iload_n hx hb dX1_isLess_46 rfl (lv_at hl 4 rfl) ?_
        refine lv_i2l (v := p1.toInt64) hx hb dX1_isLess_47 rfl ?_
        refine lv_lmul hx hb dX1_isLess_48 ?_
        refine lv_aload_n hx hb dX1_isLess_49 rfl (lv_at hl 5 rfl) ?_
        refine lv_iload hx hb dX1_isLess_50 (lv_at hl 0 rfl) ?_
        refine k_Vi (M_X1_limbAt l G cI cJ Ao Bo lo no i7_4 _ hw) ⟨hx, hb, hml, hown, hts⟩ (cwV 1 hts gX1_isLess_X1_limbAt rfl rfl rfl (by decide +kernel) ⟨Nat.le_of_ble_eq_true rfl, Nat.le_of_ble_eq_true rfl⟩) hK hP hD hS hA [2, 3] [0, 1] [0, 1, 2, 3] (wr := [(Az, .inr (1, [.ref Bz, .int nz])), (Bz, .inl (cI, 64, .inl lz))]) (wn := fun u : Unit => (wX1X1 cI cJ Az Bz Ao Bo lz nz lo no)) rfl rfl (by decide) (by decide) (by decide) (by decide) (fun _ => rfl) (rest := [.long (r_8.toInt64 * p1.toInt64), .long i5_5]) (q0 := 0) rfl rfl rfl hl.1 rfl (Nat.le_of_ble_eq_true rfl) (Nat.zero_le _) (Nat.zero_le _) dX1_isLess_52 (fun r_9 u H locs hw hP hD hS => ?_)
        refine lv_i2l (v := r_9.toInt64) hx hb dX1_isLess_55 rfl ?_
        refine lv_iload_n hx hb dX1_isLess_56 rfl (lv_at hl 6 rfl) ?_
        refine lv_i2l (v := p3.toInt64) hx hb dX1_isLess_57 rfl ?_
        refine lv_lmul hx hb dX1_isLess_58 ?_
        refine lv_lsub hx hb dX1_isLess_59 ?_
        refine lv_topl (fun v_10 ev_10 => ?_)
        have hw := hw v_10 ev_10
        refine lv_ladd hx hb dX1_isLess_60 ?_
        refine lv_topl (fun i5_11 ei5_11 => ?_)
        have hw := hw i5_11 ei5_11
        refine lv_lstore (lv' := [(5, .long i5_11), (7, .int i7_4), (4, .int t_1), (0, .ref Az), (1, .int p1), (2, .ref Ao), (3, .int p3)]) hx hb dX1_isLess_61 hl (by decide) rfl (fun ls hl => ?_)
        refine lv_lload hx hb dX1_isLess_63 (lv_at hl 0 rfl) ?_
        refine lv_bipush (v := 31) hx hb dX1_isLess_65 (by decide) ?_
        refine lv_lshr (v := i5_11 >>> ((31 : Int32).toInt64 &&& 63)) hx hb dX1_isLess_67 rfl ?_
        refine lv_topl (fun i5_12 ei5_12 => ?_)
        have hw := hw i5_12 ei5_12
        refine lv_lstore (lv' := [(5, .long i5_12), (7, .int i7_4), (4, .int t_1), (0, .ref Az), (1, .int p1), (2, .ref Ao), (3, .int p3)]) hx hb dX1_isLess_68 hl (by decide) rfl (fun ls hl => ?_)
        obtain ⟨i7_13, ei7_13⟩ : ∃ y : Int32, y = i7_4 + 1 := ⟨_, rfl⟩
        have hw := hw i7_13 ei7_13
        refine lv_iinc (v := i7_13) (lv' := [(7, .int i7_13), (5, .long i5_12), (4, .int t_1), (0, .ref Az), (1, .int p1), (2, .ref Ao), (3, .int p3)]) hx hb dX1_isLess_70 hl (k := 1) rfl (by rw [ei7_13]; rfl) (by decide) rfl (fun ls hl => ?_)
        refine lv_goto (tgt := 30) hx hb dX1_isLess_73 (by decide) ?_
        exact ihI30_6 _ (by rw [← hNI30_6]; exact hw.2) i7_13 i5_12 rfl hw.1 _ _ _ hP hD hS (lv_sub hl [0, 1, 2, 3, 4, 5, 6] rfl)
  clear hR
  refine lv_icmp_le (tgt := 18) hx hb dX1_isLess_8 (by decide) (fun c_3 => ?_) (fun c_3 => ?_)
  · have hw := hw.1 c_3
    refine lv_aload_n hx hb dX1_isLess_18 rfl (lv_at hl 2 rfl) ?_
    refine k_get hx hb hts uX1_isLess_X1 hown hK hP 2 1 rfl rfl 1 (by decide) fX1_isLess_13 (.int no) rfl dX1_isLess_19 ?_
    exact hJ22_2 no hw _ _ _ hP hD hS (lv_sub hl [0, 1, 2, 3] rfl)
  · have hw := hw.2 c_3
    refine lv_aload_n hx hb dX1_isLess_11 rfl (lv_at hl 0 rfl) ?_
    refine k_get hx hb hts uX1_isLess_X1 hown hK hP 0 1 rfl rfl 1 (by decide) fX1_isLess_13 (.int nz) rfl dX1_isLess_12 ?_
    refine lv_goto (tgt := 22) hx hb dX1_isLess_15 (by decide) ?_
    exact hJ22_2 nz hw _ _ _ hP hD hS (lv_sub hl [0, 1, 2, 3] rfl)
end
section
/-! Fraction and Series: predicates and walks (laid by wip/whole/gen.py) -/
def w0 (cI cJ : ClassId) : va_W := []
def wX0 (cI cJ : ClassId) (Ak Aku Bku Akd Bkd : Nat) (lku : Nat → Int32) (nku : Int32) (lkd : Nat → Int32) (nkd : Int32) : va_W := [(Ak, .inr (0, [.ref Aku, .ref Akd])), (Aku, .inr (1, [.ref Bku, .int nku])), (Bku, .inl (cI, 64, .inl lku)), (Akd, .inr (1, [.ref Bkd, .int nkd])), (Bkd, .inl (cI, 64, .inl lkd))]
def wX2X3 (cI cJ : ClassId) (As Asm Bsm Ast Bst Aw : Nat) (lsm : Nat → Int32) (nsm : Int32) (lst : Nat → Int32) (nst : Int32) (wa : Int32) (wb : Int32) (wlo : Int32) (whi : Int32) (wtot : Int64) : va_W := [(As, .inr (2, [.ref Asm, .ref Ast])), (Asm, .inr (1, [.ref Bsm, .int nsm])), (Bsm, .inl (cI, 64, .inl lsm)), (Ast, .inr (1, [.ref Bst, .int nst])), (Bst, .inl (cI, 64, .inl lst)), (Aw, .inr (3, [.int wa, .int wb, .int wlo, .int whi, .long wtot]))]
abbrev rm_X0_commonDivisor : Room := { frames := 0, cells := 0, slots := 0, locals := 0 }
abbrev rm_X0_become : Room := { frames := 3, cells := 0, slots := 0, locals := 65 }
abbrev rm_X0_quotient : Room := { frames := 0, cells := 0, slots := 0, locals := 0 }
abbrev rm_X0_change : Room := { frames := 3, cells := 0, slots := 0, locals := 67 }
abbrev rm_X0_increase : Room := { frames := 4, cells := 0, slots := 0, locals := 95 }
abbrev rm_X0_decrease : Room := { frames := 4, cells := 0, slots := 0, locals := 95 }
abbrev rm_X0_isLessThan : Room := { frames := 2, cells := 0, slots := 0, locals := 48 }
abbrev rm_X2_reaches : Room := { frames := 3, cells := 0, slots := 0, locals := 67 }
def w_X0_commonDivisor (p0 : Int32) (p1 : Int32) (Q : Int32 → Prop) : Prop :=
  ∃ (I7_4 : Int32 → Int32 → Int32 → Prop) (μ7_4 : Int32 → Int32 → Int32 → Nat), I7_4 (0 : Int32) p1 p0 ∧ ∀ (i4_1 : Int32) (i3_2 : Int32) (i2_3 : Int32), I7_4 i4_1 i3_2 i2_3 →
    ((64 ≤ i4_1 →
      Q i2_3
     ) ∧ (¬ 64 ≤ i4_1 →
      ((i3_2 ≤ 0 →
        Q i2_3
       ) ∧ (¬ i3_2 ≤ 0 →
        ¬ i3_2 = 0 ∧
        ∀ (v_5 : Int32), v_5 = i2_3 - i2_3 / i3_2 * i3_2 →
        ∀ (i4_6 : Int32), i4_6 = i4_1 + 1 →
        I7_4 i4_6 v_5 i3_2 ∧ μ7_4 i4_6 v_5 i3_2 < μ7_4 i4_1 i3_2 i2_3
       ))
     ))

def w_X0_become (lku : Nat → Int32) (nku : Int32) (lkd : Nat → Int32) (nkd : Int32) (p0 : Int32) (p1 : Int32) (Q : (Nat → Int32) → Int32 → (Nat → Int32) → Int32 → Prop) : Prop :=
  w_X0_commonDivisor p0 p1 (fun (r_1 : Int32) =>
  w_X1_become lku nku p0 (fun (lku_2 : Nat → Int32) (nku_3 : Int32) =>
  w_X1_divideBy lku_2 nku_3 r_1 (fun (lku_4 : Nat → Int32) (nku_5 : Int32) =>
  w_X1_become lkd nkd p1 (fun (lkd_6 : Nat → Int32) (nkd_7 : Int32) =>
  w_X1_divideBy lkd_6 nkd_7 r_1 (fun (lkd_8 : Nat → Int32) (nkd_9 : Int32) =>
  Q lku_4 nku_5 lkd_8 nkd_9)))))

def w_X0_quotient (p0 : Int32) (p1 : Int32) (Q : Int32 → Prop) : Prop :=
  ((1 ≤ p1 →
    ¬ p1 = 0 ∧
    ∀ (v_1 : Int32), v_1 = p0 / p1 →
    Q v_1
   ) ∧ (¬ 1 ≤ p1 →
    Q p0
   ))

def w_X0_change (lku : Nat → Int32) (nku : Int32) (lkd : Nat → Int32) (nkd : Int32) (p0 : Int32) (p1 : Int32) (p2 : Int32) (Q : (Nat → Int32) → Int32 → (Nat → Int32) → Int32 → Prop) : Prop :=
  w_X0_commonDivisor p0 p1 (fun (r_1 : Int32) =>
  w_X0_quotient p0 r_1 (fun (r_2 : Int32) =>
  w_X0_quotient p1 r_1 (fun (r_3 : Int32) =>
  w_X1_restBy lkd nkd r_3 (fun (r_4 : Int32) =>
  w_X0_commonDivisor r_4 r_3 (fun (r_5 : Int32) =>
  w_X1_divideBy lkd nkd r_5 (fun (lkd_6 : Nat → Int32) (nkd_7 : Int32) =>
  w_X0_quotient r_3 r_5 (fun (r_8 : Int32) =>
  w_X1_times lku nku r_8 (fun (lku_9 : Nat → Int32) (nku_10 : Int32) =>
  w_X1_plusTimes lku_9 nku_10 lkd_6 nkd_7 (p2 * r_2) (fun (lku_11 : Nat → Int32) (nku_12 : Int32) =>
  w_X1_restBy lku_11 nku_12 r_5 (fun (r_13 : Int32) =>
  w_X0_commonDivisor r_13 r_5 (fun (r_14 : Int32) =>
  w_X1_divideBy lku_11 nku_12 r_14 (fun (lku_15 : Nat → Int32) (nku_16 : Int32) =>
  w_X0_quotient r_3 r_14 (fun (r_17 : Int32) =>
  w_X1_times lkd_6 nkd_7 r_17 (fun (lkd_18 : Nat → Int32) (nkd_19 : Int32) =>
  Q lku_15 nku_16 lkd_18 nkd_19))))))))))))))

def w_X0_increase (lku : Nat → Int32) (nku : Int32) (lkd : Nat → Int32) (nkd : Int32) (p0 : Int32) (p1 : Int32) (Q : (Nat → Int32) → Int32 → (Nat → Int32) → Int32 → Prop) : Prop :=
  w_X0_change lku nku lkd nkd p0 p1 (1 : Int32) (fun (lku_1 : Nat → Int32) (nku_2 : Int32) (lkd_3 : Nat → Int32) (nkd_4 : Int32) =>
  Q lku_1 nku_2 lkd_3 nkd_4)

def w_X0_decrease (lku : Nat → Int32) (nku : Int32) (lkd : Nat → Int32) (nkd : Int32) (p0 : Int32) (p1 : Int32) (Q : (Nat → Int32) → Int32 → (Nat → Int32) → Int32 → Prop) : Prop :=
  w_X0_change lku nku lkd nkd p0 p1 ((-1) : Int32) (fun (lku_1 : Nat → Int32) (nku_2 : Int32) (lkd_3 : Nat → Int32) (nkd_4 : Int32) =>
  Q lku_1 nku_2 lkd_3 nkd_4)

def w_X0_isLessThan (lku : Nat → Int32) (nku : Int32) (lkd : Nat → Int32) (nkd : Int32) (p0 : Int32) (p1 : Int32) (Q : Int32 → Prop) : Prop :=
  w_X1_isLess lku nku lkd nkd p1 p0 (fun (r_1 : Int32) =>
  Q r_1)

def w_X2_reaches (lsm : Nat → Int32) (nsm : Int32) (lst : Nat → Int32) (nst : Int32) (wa : Int32) (wb : Int32) (p1 : Int32) (p2 : Int32) (Q : Int32 → (Nat → Int32) → Int32 → (Nat → Int32) → Int32 → Prop) : Prop :=
  w_X1_become lsm nsm (wb - wa) (fun (lsm_1 : Nat → Int32) (nsm_2 : Int32) =>
  w_X1_become lst nst wa (fun (lst_3 : Nat → Int32) (nst_4 : Int32) =>
  ∃ (I30_10 : Int32 → (Nat → Int32) → Int32 → (Nat → Int32) → Int32 → Prop) (μ30_10 : Int32 → (Nat → Int32) → Int32 → (Nat → Int32) → Int32 → Nat), I30_10 (1 : Int32) lsm_1 nsm_2 lst_3 nst_4 ∧ ∀ (i4_5 : Int32) (lsm_6 : Nat → Int32) (nsm_7 : Int32) (lst_8 : Nat → Int32) (nst_9 : Int32), I30_10 i4_5 lsm_6 nsm_7 lst_8 nst_9 →
    ((60 < i4_5 →
      Q (0 : Int32) lsm_6 nsm_7 lst_8 nst_9
     ) ∧ (¬ 60 < i4_5 →
      w_X1_times lsm_6 nsm_7 (p2 * i4_5) (fun (lsm_11 : Nat → Int32) (nsm_12 : Int32) =>
      w_X1_times lst_8 nst_9 p1 (fun (lst_13 : Nat → Int32) (nst_14 : Int32) =>
      w_X1_isLess lst_13 nst_14 lsm_11 nsm_12 (1 : Int32) (1 : Int32) (fun (r_15 : Int32) =>
      ((¬ r_15 = 0 →
        w_X1_plusTimes lsm_11 nsm_12 lst_13 nst_14 ((-1) : Int32) (fun (lsm_16 : Nat → Int32) (nsm_17 : Int32) =>
        ∀ (v_18 : Int32), v_18 = (i4_5 + 1) * p2 →
        ∃ (J103_20 : Int32 → Prop), (
          ((v_18 < (2 * p1) →
            J103_20 0
           ) ∧ (¬ v_18 < (2 * p1) →
            J103_20 1
           ))
         ) ∧ (∀ (t_19 : Int32), J103_20 t_19 →
          ((t_19 = 0 →
            ∀ (i4_22 : Int32), i4_22 = i4_5 + 1 →
            I30_10 i4_22 lsm_16 nsm_17 lst_13 nst_14 ∧ μ30_10 i4_22 lsm_16 nsm_17 lst_13 nst_14 < μ30_10 i4_5 lsm_6 nsm_7 lst_8 nst_9
           ) ∧ (¬ t_19 = 0 →
            w_X1_isLess lsm_16 nsm_17 lst_13 nst_14 (1 : Int32) (1 : Int32) (fun (r_23 : Int32) =>
            ((¬ r_23 = 0 →
              ∀ (i4_24 : Int32), i4_24 = i4_5 + 1 →
              I30_10 i4_24 lsm_16 nsm_17 lst_13 nst_14 ∧ μ30_10 i4_24 lsm_16 nsm_17 lst_13 nst_14 < μ30_10 i4_5 lsm_6 nsm_7 lst_8 nst_9
             ) ∧ (r_23 = 0 →
              Q (0 : Int32) lsm_16 nsm_17 lst_13 nst_14
             )))
           ))
         ))
       ) ∧ (r_15 = 0 →
        Q (1 : Int32) lsm_11 nsm_12 lst_13 nst_14
       )))))
     ))))

set_option maxHeartbeats 4000000 in
set_option maxRecDepth 100000 in
theorem M_X0_commonDivisor (l : Launch) (G : va_G) (cI cJ : ClassId) (p0 : Int32) (p1 : Int32) (Q : Int32 → Prop) (hw : w_X0_commonDivisor p0 p1 Q) : Ki l yX0_commonDivisor wsX0_commonDivisor rm_X0_commonDivisor G cI cJ [.int p0, .int p1] (w0 cI cJ) (fun (r : Int32) (u : Unit) => Q r) (fun u => (w0 cI cJ)) := by
  refine ki_intro (cc := cX0_commonDivisor) (maxL := 6) rfl rfl (by decide) rfl (Nat.le_of_ble_eq_true rfl) ?_
  intro p e s m args below meth c A Z ls hx hb hml hts hown hP hK hD hS hA hl hret
  have hl : lv_has ls 6 [(0, .int p0), (1, .int p1)] := hl
  unfold w_X0_commonDivisor at hw
  refine lv_iload_n hx hb dX0_commonDivisor_0 rfl (lv_at hl 0 rfl) ?_
  refine lv_istore_n (lv' := [(2, .int p0), (0, .int p0), (1, .int p1)]) hx hb dX0_commonDivisor_1 rfl hl (by decide) rfl (fun ls hl => ?_)
  refine lv_iload_n hx hb dX0_commonDivisor_2 rfl (lv_at hl 2 rfl) ?_
  refine lv_istore_n (lv' := [(3, .int p1), (2, .int p0), (0, .int p0), (1, .int p1)]) hx hb dX0_commonDivisor_3 rfl hl (by decide) rfl (fun ls hl => ?_)
  refine lv_iconst (v := 0) hx hb dX0_commonDivisor_4 (by decide) ?_
  refine lv_istore (lv' := [(4, .int 0), (3, .int p1), (2, .int p0), (0, .int p0), (1, .int p1)]) hx hb dX0_commonDivisor_5 hl (by decide) rfl (fun ls hl => ?_)
  obtain ⟨I7_4, μ7_4, hi, hw⟩ := hw
  suffices hLI7_4 : ∀ (N : Nat) (i4_1 : Int32) (i3_2 : Int32) (i2_3 : Int32) (_ : μ7_4 i4_1 i3_2 i2_3 = N) (_ : I7_4 i4_1 i3_2 i2_3) (H : Heap) (locs : List Loc) (ls : Array Slot), va_P G vwCl (w0 cI cJ) H → va_D A (w0 cI cJ) → va_S A s.heap H locs → lv_has ls 6 [(4, .int i4_1), (3, .int i3_2), (2, .int i2_3)] → W p l e rm_X0_commonDivisor s m args below meth c H locs 0 0 Z (F0 m 7 ls []) from
    hLI7_4 _ (0 : Int32) p1 p0 rfl hi _ _ _ hP hD hS (lv_sub hl [0, 1, 2] rfl)
  clear hi hP hD hS hl
  intro N
  induction N using Nat.strongRecOn with
  | ind N ihI7_4 =>
    intro i4_1 i3_2 i2_3 hNI7_4 hi H locs ls hP hD hS hl
    have hw := hw i4_1 i3_2 i2_3 hi
    refine lv_iload hx hb dX0_commonDivisor_7 (lv_at hl 0 rfl) ?_
    refine lv_bipush (v := 64) hx hb dX0_commonDivisor_9 (by decide) ?_
    refine lv_icmp_ge (tgt := 34) hx hb dX0_commonDivisor_11 (by decide) (fun c_8 => ?_) (fun c_8 => ?_)
    · have hw := hw.1 c_8
      refine lv_iload_n hx hb dX0_commonDivisor_34 rfl (lv_at hl 2 rfl) ?_
      exact hret _ () _ _ _ _ hw hP hD hS dX0_commonDivisor_35
    · have hw := hw.2 c_8
      refine lv_iload_n hx hb dX0_commonDivisor_14 rfl (lv_at hl 1 rfl) ?_
      refine lv_if_le (tgt := 34) hx hb dX0_commonDivisor_15 (by decide) (fun c_7 => ?_) (fun c_7 => ?_)
      · have hw := hw.1 c_7
        refine lv_iload_n hx hb dX0_commonDivisor_34 rfl (lv_at hl 2 rfl) ?_
        exact hret _ () _ _ _ _ hw hP hD hS dX0_commonDivisor_35
      · have hw := hw.2 c_7
        refine lv_iload_n hx hb dX0_commonDivisor_18 rfl (lv_at hl 2 rfl) ?_
        refine lv_iload_n hx hb dX0_commonDivisor_19 rfl (lv_at hl 1 rfl) ?_
        obtain ⟨hne, hw⟩ := hw
        refine lv_irem hx hb dX0_commonDivisor_20 hne ?_
        refine lv_topi (fun v_5 ev_5 => ?_)
        have hw := hw v_5 ev_5
        refine lv_istore (lv' := [(5, .int v_5), (4, .int i4_1), (3, .int i3_2), (2, .int i2_3)]) hx hb dX0_commonDivisor_21 hl (by decide) rfl (fun ls hl => ?_)
        refine lv_iload_n hx hb dX0_commonDivisor_23 rfl (lv_at hl 2 rfl) ?_
        refine lv_istore_n (lv' := [(2, .int i3_2), (5, .int v_5), (4, .int i4_1), (3, .int i3_2)]) hx hb dX0_commonDivisor_24 rfl hl (by decide) rfl (fun ls hl => ?_)
        refine lv_iload hx hb dX0_commonDivisor_25 (lv_at hl 1 rfl) ?_
        refine lv_istore_n (lv' := [(3, .int v_5), (2, .int i3_2), (5, .int v_5), (4, .int i4_1)]) hx hb dX0_commonDivisor_27 rfl hl (by decide) rfl (fun ls hl => ?_)
        obtain ⟨i4_6, ei4_6⟩ : ∃ y : Int32, y = i4_1 + 1 := ⟨_, rfl⟩
        have hw := hw i4_6 ei4_6
        refine lv_iinc (v := i4_6) (lv' := [(4, .int i4_6), (3, .int v_5), (2, .int i3_2), (5, .int v_5)]) hx hb dX0_commonDivisor_28 hl (k := 3) rfl (by rw [ei4_6]; rfl) (by decide) rfl (fun ls hl => ?_)
        refine lv_goto (tgt := 7) hx hb dX0_commonDivisor_31 (by decide) ?_
        exact ihI7_4 _ (by rw [← hNI7_4]; exact hw.2) i4_6 v_5 i3_2 rfl hw.1 _ _ _ hP hD hS (lv_sub hl [0, 1, 2] rfl)
theorem fX0_become_10 : Cond.fieldLink RX0 10 "PrivateCounts$Fraction" "numerator" "LPrivateCounts$Natural;" ∈ wsX0_become := by decide +kernel
theorem uX0_become_X0 : ∀ w ∈ u_ws RX0 TX0 2, w ∈ wsX0_become := by decide +kernel
theorem fX0_become_16 : Cond.fieldLink RX0 16 "PrivateCounts$Fraction" "denominator" "LPrivateCounts$Natural;" ∈ wsX0_become := by decide +kernel
set_option maxHeartbeats 4000000 in
set_option maxRecDepth 100000 in
theorem M_X0_become (l : Launch) (G : va_G) (cI cJ : ClassId) (Ak Aku Bku Akd Bkd : Nat) (lku : Nat → Int32) (nku : Int32) (lkd : Nat → Int32) (nkd : Int32) (p0 : Int32) (p1 : Int32) (Q : (Nat → Int32) → Int32 → (Nat → Int32) → Int32 → Prop) (hw : w_X0_become lku nku lkd nkd p0 p1 Q) : Kv l yX0_become wsX0_become rm_X0_become G cI cJ [.ref Ak, .int p0, .int p1] (wX0 cI cJ Ak Aku Bku Akd Bkd lku nku lkd nkd) (fun (u : (Nat → Int32) × (Int32) × (Nat → Int32) × (Int32)) => Q u.1 u.2.1 u.2.2.1 u.2.2.2) (fun u => (wX0 cI cJ Ak Aku Bku Akd Bkd u.1 u.2.1 u.2.2.1 u.2.2.2)) := by
  refine kv_intro (cc := cX0_become) (maxL := 4) rfl rfl (by decide) rfl (Nat.le_of_ble_eq_true rfl) ?_
  intro p e s m args below meth c A Z ls hx hb hml hts hown hP hK hD hS hA hl hret
  have hl : lv_has ls 4 [(0, .ref Ak), (1, .int p0), (2, .int p1)] := hl
  unfold w_X0_become at hw
  refine lv_iload_n hx hb dX0_become_0 rfl (lv_at hl 1 rfl) ?_
  refine lv_iload_n hx hb dX0_become_1 rfl (lv_at hl 2 rfl) ?_
  refine k_Si (M_X0_commonDivisor l G cI cJ p0 p1 _ hw) ⟨hx, hb, hml, hown, hts⟩ (va_cwS 2 hts gX0_become_X0_commonDivisor rfl rfl rfl (by decide +kernel) ⟨Nat.le_of_ble_eq_true rfl, Nat.le_of_ble_eq_true rfl⟩) hK hP hD hS hA [] [0, 1, 2, 3, 4] [0, 1, 2, 3, 4] (wr := [(Ak, .inr (0, [.ref Aku, .ref Akd])), (Aku, .inr (1, [.ref Bku, .int nku])), (Bku, .inl (cI, 64, .inl lku)), (Akd, .inr (1, [.ref Bkd, .int nkd])), (Bkd, .inl (cI, 64, .inl lkd))]) (wn := fun u : Unit => (wX0 cI cJ Ak Aku Bku Akd Bkd lku nku lkd nkd)) rfl rfl (by decide) (by decide) (by decide) (by decide) (fun _ => rfl) (rest := []) rfl hl.1 rfl (Nat.le_of_ble_eq_true rfl) (Nat.zero_le _) (Nat.zero_le _) dX0_become_2 (fun r_1 u H locs hw hP hD hS => ?_)
  refine lv_istore_n (lv' := [(3, .int r_1), (0, .ref Ak), (1, .int p0), (2, .int p1)]) hx hb dX0_become_5 rfl hl (by decide) rfl (fun ls hl => ?_)
  refine lv_aload_n hx hb dX0_become_6 rfl (lv_at hl 1 rfl) ?_
  refine k_get hx hb hts uX0_become_X0 hown hK hP 0 0 rfl rfl 0 (by decide) fX0_become_10 (.ref Aku) rfl dX0_become_7 ?_
  refine lv_iload_n hx hb dX0_become_10 rfl (lv_at hl 2 rfl) ?_
  refine k_Vv (M_X1_become l G cI cJ Aku Bku lku nku p0 _ hw) ⟨hx, hb, hml, hown, hts⟩ (cwV 1 hts gX0_become_X1_become rfl rfl rfl (by decide +kernel) ⟨Nat.le_of_ble_eq_true rfl, Nat.le_of_ble_eq_true rfl⟩) hK hP hD hS hA [1, 2] [0, 3, 4] [0, 3, 4, 1, 2] (wr := [(Ak, .inr (0, [.ref Aku, .ref Akd])), (Akd, .inr (1, [.ref Bkd, .int nkd])), (Bkd, .inl (cI, 64, .inl lkd))]) (wn := fun u : (Nat → Int32) × (Int32) => (wX0 cI cJ Ak Aku Bku Akd Bkd u.1 u.2 lkd nkd)) rfl rfl (by decide) (by decide) (by decide) (by decide) (fun _ => rfl) (rest := []) (q0 := 0) rfl rfl rfl hl.1 rfl (Nat.le_of_ble_eq_true rfl) (Nat.zero_le _) (Nat.zero_le _) dX0_become_11 (fun u H locs hw hP hD hS => ?_)
  obtain ⟨lku_2, nku_3⟩ := u
  have hP : va_P G vwCl (wX0 cI cJ Ak Aku Bku Akd Bkd lku_2 nku_3 lkd nkd) H := hP
  have hD : va_D A (wX0 cI cJ Ak Aku Bku Akd Bkd lku_2 nku_3 lkd nkd) := hD
  refine lv_aload_n hx hb dX0_become_14 rfl (lv_at hl 1 rfl) ?_
  refine k_get hx hb hts uX0_become_X0 hown hK hP 0 0 rfl rfl 0 (by decide) fX0_become_10 (.ref Aku) rfl dX0_become_15 ?_
  refine lv_iload_n hx hb dX0_become_18 rfl (lv_at hl 0 rfl) ?_
  refine k_Vv (M_X1_divideBy l G cI cJ Aku Bku lku_2 nku_3 r_1 _ hw) ⟨hx, hb, hml, hown, hts⟩ (cwV 1 hts gX0_become_X1_divideBy rfl rfl rfl (by decide +kernel) ⟨Nat.le_of_ble_eq_true rfl, Nat.le_of_ble_eq_true rfl⟩) hK hP hD hS hA [1, 2] [0, 3, 4] [0, 3, 4, 1, 2] (wr := [(Ak, .inr (0, [.ref Aku, .ref Akd])), (Akd, .inr (1, [.ref Bkd, .int nkd])), (Bkd, .inl (cI, 64, .inl lkd))]) (wn := fun u : (Nat → Int32) × (Int32) => (wX0 cI cJ Ak Aku Bku Akd Bkd u.1 u.2 lkd nkd)) rfl rfl (by decide) (by decide) (by decide) (by decide) (fun _ => rfl) (rest := []) (q0 := 0) rfl rfl rfl hl.1 rfl (Nat.le_of_ble_eq_true rfl) (Nat.zero_le _) (Nat.zero_le _) dX0_become_19 (fun u H locs hw hP hD hS => ?_)
  obtain ⟨lku_4, nku_5⟩ := u
  have hP : va_P G vwCl (wX0 cI cJ Ak Aku Bku Akd Bkd lku_4 nku_5 lkd nkd) H := hP
  have hD : va_D A (wX0 cI cJ Ak Aku Bku Akd Bkd lku_4 nku_5 lkd nkd) := hD
  refine lv_aload_n hx hb dX0_become_22 rfl (lv_at hl 1 rfl) ?_
  refine k_get hx hb hts uX0_become_X0 hown hK hP 0 0 rfl rfl 1 (by decide) fX0_become_16 (.ref Akd) rfl dX0_become_23 ?_
  refine lv_iload_n hx hb dX0_become_26 rfl (lv_at hl 3 rfl) ?_
  refine k_Vv (M_X1_become l G cI cJ Akd Bkd lkd nkd p1 _ hw) ⟨hx, hb, hml, hown, hts⟩ (cwV 1 hts gX0_become_X1_become rfl rfl rfl (by decide +kernel) ⟨Nat.le_of_ble_eq_true rfl, Nat.le_of_ble_eq_true rfl⟩) hK hP hD hS hA [3, 4] [0, 1, 2] [0, 1, 2, 3, 4] (wr := [(Ak, .inr (0, [.ref Aku, .ref Akd])), (Aku, .inr (1, [.ref Bku, .int nku_5])), (Bku, .inl (cI, 64, .inl lku_4))]) (wn := fun u : (Nat → Int32) × (Int32) => (wX0 cI cJ Ak Aku Bku Akd Bkd lku_4 nku_5 u.1 u.2)) rfl rfl (by decide) (by decide) (by decide) (by decide) (fun _ => rfl) (rest := []) (q0 := 0) rfl rfl rfl hl.1 rfl (Nat.le_of_ble_eq_true rfl) (Nat.zero_le _) (Nat.zero_le _) dX0_become_27 (fun u H locs hw hP hD hS => ?_)
  obtain ⟨lkd_6, nkd_7⟩ := u
  have hP : va_P G vwCl (wX0 cI cJ Ak Aku Bku Akd Bkd lku_4 nku_5 lkd_6 nkd_7) H := hP
  have hD : va_D A (wX0 cI cJ Ak Aku Bku Akd Bkd lku_4 nku_5 lkd_6 nkd_7) := hD
  refine lv_aload_n hx hb dX0_become_30 rfl (lv_at hl 1 rfl) ?_
  refine k_get hx hb hts uX0_become_X0 hown hK hP 0 0 rfl rfl 1 (by decide) fX0_become_16 (.ref Akd) rfl dX0_become_31 ?_
  refine lv_iload_n hx hb dX0_become_34 rfl (lv_at hl 0 rfl) ?_
  refine k_Vv (M_X1_divideBy l G cI cJ Akd Bkd lkd_6 nkd_7 r_1 _ hw) ⟨hx, hb, hml, hown, hts⟩ (cwV 1 hts gX0_become_X1_divideBy rfl rfl rfl (by decide +kernel) ⟨Nat.le_of_ble_eq_true rfl, Nat.le_of_ble_eq_true rfl⟩) hK hP hD hS hA [3, 4] [0, 1, 2] [0, 1, 2, 3, 4] (wr := [(Ak, .inr (0, [.ref Aku, .ref Akd])), (Aku, .inr (1, [.ref Bku, .int nku_5])), (Bku, .inl (cI, 64, .inl lku_4))]) (wn := fun u : (Nat → Int32) × (Int32) => (wX0 cI cJ Ak Aku Bku Akd Bkd lku_4 nku_5 u.1 u.2)) rfl rfl (by decide) (by decide) (by decide) (by decide) (fun _ => rfl) (rest := []) (q0 := 0) rfl rfl rfl hl.1 rfl (Nat.le_of_ble_eq_true rfl) (Nat.zero_le _) (Nat.zero_le _) dX0_become_35 (fun u H locs hw hP hD hS => ?_)
  obtain ⟨lkd_8, nkd_9⟩ := u
  have hP : va_P G vwCl (wX0 cI cJ Ak Aku Bku Akd Bkd lku_4 nku_5 lkd_8 nkd_9) H := hP
  have hD : va_D A (wX0 cI cJ Ak Aku Bku Akd Bkd lku_4 nku_5 lkd_8 nkd_9) := hD
  exact hret (lku_4, nku_5, lkd_8, nkd_9) _ _ _ _ hw hP hD hS dX0_become_38
set_option maxHeartbeats 4000000 in
set_option maxRecDepth 100000 in
theorem M_X0_quotient (l : Launch) (G : va_G) (cI cJ : ClassId) (p0 : Int32) (p1 : Int32) (Q : Int32 → Prop) (hw : w_X0_quotient p0 p1 Q) : Ki l yX0_quotient wsX0_quotient rm_X0_quotient G cI cJ [.int p0, .int p1] (w0 cI cJ) (fun (r : Int32) (u : Unit) => Q r) (fun u => (w0 cI cJ)) := by
  refine ki_intro (cc := cX0_quotient) (maxL := 2) rfl rfl (by decide) rfl (Nat.le_of_ble_eq_true rfl) ?_
  intro p e s m args below meth c A Z ls hx hb hml hts hown hP hK hD hS hA hl hret
  have hl : lv_has ls 2 [(0, .int p0), (1, .int p1)] := hl
  unfold w_X0_quotient at hw
  refine lv_iload_n hx hb dX0_quotient_0 rfl (lv_at hl 1 rfl) ?_
  refine lv_iconst (v := 1) hx hb dX0_quotient_1 (by decide) ?_
  refine lv_icmp_ge (tgt := 9) hx hb dX0_quotient_2 (by decide) (fun c_2 => ?_) (fun c_2 => ?_)
  · have hw := hw.1 c_2
    refine lv_iload_n hx hb dX0_quotient_9 rfl (lv_at hl 0 rfl) ?_
    refine lv_iload_n hx hb dX0_quotient_10 rfl (lv_at hl 1 rfl) ?_
    obtain ⟨hne, hw⟩ := hw
    refine lv_idiv hx hb dX0_quotient_11 hne ?_
    refine lv_topi (fun v_1 ev_1 => ?_)
    have hw := hw v_1 ev_1
    exact hret _ () _ _ _ _ hw hP hD hS dX0_quotient_12
  · have hw := hw.2 c_2
    refine lv_iload_n hx hb dX0_quotient_5 rfl (lv_at hl 0 rfl) ?_
    refine lv_goto (tgt := 12) hx hb dX0_quotient_6 (by decide) ?_
    exact hret _ () _ _ _ _ hw hP hD hS dX0_quotient_12
theorem fX0_change_16 : Cond.fieldLink RX0 16 "PrivateCounts$Fraction" "denominator" "LPrivateCounts$Natural;" ∈ wsX0_change := by decide +kernel
theorem uX0_change_X0 : ∀ w ∈ u_ws RX0 TX0 2, w ∈ wsX0_change := by decide +kernel
theorem fX0_change_10 : Cond.fieldLink RX0 10 "PrivateCounts$Fraction" "numerator" "LPrivateCounts$Natural;" ∈ wsX0_change := by decide +kernel
set_option maxHeartbeats 4000000 in
set_option maxRecDepth 100000 in
theorem M_X0_change (l : Launch) (G : va_G) (cI cJ : ClassId) (Ak Aku Bku Akd Bkd : Nat) (lku : Nat → Int32) (nku : Int32) (lkd : Nat → Int32) (nkd : Int32) (p0 : Int32) (p1 : Int32) (p2 : Int32) (Q : (Nat → Int32) → Int32 → (Nat → Int32) → Int32 → Prop) (hw : w_X0_change lku nku lkd nkd p0 p1 p2 Q) : Kv l yX0_change wsX0_change rm_X0_change G cI cJ [.ref Ak, .int p0, .int p1, .int p2] (wX0 cI cJ Ak Aku Bku Akd Bkd lku nku lkd nkd) (fun (u : (Nat → Int32) × (Int32) × (Nat → Int32) × (Int32)) => Q u.1 u.2.1 u.2.2.1 u.2.2.2) (fun u => (wX0 cI cJ Ak Aku Bku Akd Bkd u.1 u.2.1 u.2.2.1 u.2.2.2)) := by
  refine kv_intro (cc := cX0_change) (maxL := 9) rfl rfl (by decide) rfl (Nat.le_of_ble_eq_true rfl) ?_
  intro p e s m args below meth c A Z ls hx hb hml hts hown hP hK hD hS hA hl hret
  have hl : lv_has ls 9 [(0, .ref Ak), (1, .int p0), (2, .int p1), (3, .int p2)] := hl
  unfold w_X0_change at hw
  refine lv_iload_n hx hb dX0_change_0 rfl (lv_at hl 1 rfl) ?_
  refine lv_iload_n hx hb dX0_change_1 rfl (lv_at hl 2 rfl) ?_
  refine k_Si (M_X0_commonDivisor l G cI cJ p0 p1 _ hw) ⟨hx, hb, hml, hown, hts⟩ (va_cwS 2 hts gX0_change_X0_commonDivisor rfl rfl rfl (by decide +kernel) ⟨Nat.le_of_ble_eq_true rfl, Nat.le_of_ble_eq_true rfl⟩) hK hP hD hS hA [] [0, 1, 2, 3, 4] [0, 1, 2, 3, 4] (wr := [(Ak, .inr (0, [.ref Aku, .ref Akd])), (Aku, .inr (1, [.ref Bku, .int nku])), (Bku, .inl (cI, 64, .inl lku)), (Akd, .inr (1, [.ref Bkd, .int nkd])), (Bkd, .inl (cI, 64, .inl lkd))]) (wn := fun u : Unit => (wX0 cI cJ Ak Aku Bku Akd Bkd lku nku lkd nkd)) rfl rfl (by decide) (by decide) (by decide) (by decide) (fun _ => rfl) (rest := []) rfl hl.1 rfl (Nat.le_of_ble_eq_true rfl) (Nat.zero_le _) (Nat.zero_le _) dX0_change_2 (fun r_1 u H locs hw hP hD hS => ?_)
  refine lv_istore (lv' := [(4, .int r_1), (0, .ref Ak), (1, .int p0), (2, .int p1), (3, .int p2)]) hx hb dX0_change_5 hl (by decide) rfl (fun ls hl => ?_)
  refine lv_iload_n hx hb dX0_change_7 rfl (lv_at hl 2 rfl) ?_
  refine lv_iload hx hb dX0_change_8 (lv_at hl 0 rfl) ?_
  refine k_Si (M_X0_quotient l G cI cJ p0 r_1 _ hw) ⟨hx, hb, hml, hown, hts⟩ (va_cwS 2 hts gX0_change_X0_quotient rfl rfl rfl (by decide +kernel) ⟨Nat.le_of_ble_eq_true rfl, Nat.le_of_ble_eq_true rfl⟩) hK hP hD hS hA [] [0, 1, 2, 3, 4] [0, 1, 2, 3, 4] (wr := [(Ak, .inr (0, [.ref Aku, .ref Akd])), (Aku, .inr (1, [.ref Bku, .int nku])), (Bku, .inl (cI, 64, .inl lku)), (Akd, .inr (1, [.ref Bkd, .int nkd])), (Bkd, .inl (cI, 64, .inl lkd))]) (wn := fun u : Unit => (wX0 cI cJ Ak Aku Bku Akd Bkd lku nku lkd nkd)) rfl rfl (by decide) (by decide) (by decide) (by decide) (fun _ => rfl) (rest := []) rfl hl.1 rfl (Nat.le_of_ble_eq_true rfl) (Nat.zero_le _) (Nat.zero_le _) dX0_change_10 (fun r_2 u H locs hw hP hD hS => ?_)
  refine lv_istore (lv' := [(5, .int r_2), (4, .int r_1), (0, .ref Ak), (1, .int p0), (2, .int p1), (3, .int p2)]) hx hb dX0_change_13 hl (by decide) rfl (fun ls hl => ?_)
  refine lv_iload_n hx hb dX0_change_15 rfl (lv_at hl 4 rfl) ?_
  refine lv_iload hx hb dX0_change_16 (lv_at hl 1 rfl) ?_
  refine k_Si (M_X0_quotient l G cI cJ p1 r_1 _ hw) ⟨hx, hb, hml, hown, hts⟩ (va_cwS 2 hts gX0_change_X0_quotient rfl rfl rfl (by decide +kernel) ⟨Nat.le_of_ble_eq_true rfl, Nat.le_of_ble_eq_true rfl⟩) hK hP hD hS hA [] [0, 1, 2, 3, 4] [0, 1, 2, 3, 4] (wr := [(Ak, .inr (0, [.ref Aku, .ref Akd])), (Aku, .inr (1, [.ref Bku, .int nku])), (Bku, .inl (cI, 64, .inl lku)), (Akd, .inr (1, [.ref Bkd, .int nkd])), (Bkd, .inl (cI, 64, .inl lkd))]) (wn := fun u : Unit => (wX0 cI cJ Ak Aku Bku Akd Bkd lku nku lkd nkd)) rfl rfl (by decide) (by decide) (by decide) (by decide) (fun _ => rfl) (rest := []) rfl hl.1 rfl (Nat.le_of_ble_eq_true rfl) (Nat.zero_le _) (Nat.zero_le _) dX0_change_18 (fun r_3 u H locs hw hP hD hS => ?_)
  refine lv_istore (lv' := [(6, .int r_3), (5, .int r_2), (4, .int r_1), (0, .ref Ak), (1, .int p0), (2, .int p1), (3, .int p2)]) hx hb dX0_change_21 hl (by decide) rfl (fun ls hl => ?_)
  refine lv_aload_n hx hb dX0_change_23 rfl (lv_at hl 3 rfl) ?_
  refine k_get hx hb hts uX0_change_X0 hown hK hP 0 0 rfl rfl 1 (by decide) fX0_change_16 (.ref Akd) rfl dX0_change_24 ?_
  refine lv_iload hx hb dX0_change_27 (lv_at hl 0 rfl) ?_
  refine k_Vi (M_X1_restBy l G cI cJ Akd Bkd lkd nkd r_3 _ hw) ⟨hx, hb, hml, hown, hts⟩ (cwV 1 hts gX0_change_X1_restBy rfl rfl rfl (by decide +kernel) ⟨Nat.le_of_ble_eq_true rfl, Nat.le_of_ble_eq_true rfl⟩) hK hP hD hS hA [3, 4] [0, 1, 2] [0, 1, 2, 3, 4] (wr := [(Ak, .inr (0, [.ref Aku, .ref Akd])), (Aku, .inr (1, [.ref Bku, .int nku])), (Bku, .inl (cI, 64, .inl lku))]) (wn := fun u : Unit => (wX0 cI cJ Ak Aku Bku Akd Bkd lku nku lkd nkd)) rfl rfl (by decide) (by decide) (by decide) (by decide) (fun _ => rfl) (rest := []) (q0 := 0) rfl rfl rfl hl.1 rfl (Nat.le_of_ble_eq_true rfl) (Nat.zero_le _) (Nat.zero_le _) dX0_change_29 (fun r_4 u H locs hw hP hD hS => ?_)
  refine lv_iload hx hb dX0_change_32 (lv_at hl 0 rfl) ?_
  refine k_Si (M_X0_commonDivisor l G cI cJ r_4 r_3 _ hw) ⟨hx, hb, hml, hown, hts⟩ (va_cwS 2 hts gX0_change_X0_commonDivisor rfl rfl rfl (by decide +kernel) ⟨Nat.le_of_ble_eq_true rfl, Nat.le_of_ble_eq_true rfl⟩) hK hP hD hS hA [] [0, 1, 2, 3, 4] [0, 1, 2, 3, 4] (wr := [(Ak, .inr (0, [.ref Aku, .ref Akd])), (Aku, .inr (1, [.ref Bku, .int nku])), (Bku, .inl (cI, 64, .inl lku)), (Akd, .inr (1, [.ref Bkd, .int nkd])), (Bkd, .inl (cI, 64, .inl lkd))]) (wn := fun u : Unit => (wX0 cI cJ Ak Aku Bku Akd Bkd lku nku lkd nkd)) rfl rfl (by decide) (by decide) (by decide) (by decide) (fun _ => rfl) (rest := []) rfl hl.1 rfl (Nat.le_of_ble_eq_true rfl) (Nat.zero_le _) (Nat.zero_le _) dX0_change_34 (fun r_5 u H locs hw hP hD hS => ?_)
  refine lv_istore (lv' := [(7, .int r_5), (6, .int r_3), (5, .int r_2), (4, .int r_1), (0, .ref Ak), (1, .int p0), (2, .int p1), (3, .int p2)]) hx hb dX0_change_37 hl (by decide) rfl (fun ls hl => ?_)
  refine lv_aload_n hx hb dX0_change_39 rfl (lv_at hl 4 rfl) ?_
  refine k_get hx hb hts uX0_change_X0 hown hK hP 0 0 rfl rfl 1 (by decide) fX0_change_16 (.ref Akd) rfl dX0_change_40 ?_
  refine lv_iload hx hb dX0_change_43 (lv_at hl 0 rfl) ?_
  refine k_Vv (M_X1_divideBy l G cI cJ Akd Bkd lkd nkd r_5 _ hw) ⟨hx, hb, hml, hown, hts⟩ (cwV 1 hts gX0_change_X1_divideBy rfl rfl rfl (by decide +kernel) ⟨Nat.le_of_ble_eq_true rfl, Nat.le_of_ble_eq_true rfl⟩) hK hP hD hS hA [3, 4] [0, 1, 2] [0, 1, 2, 3, 4] (wr := [(Ak, .inr (0, [.ref Aku, .ref Akd])), (Aku, .inr (1, [.ref Bku, .int nku])), (Bku, .inl (cI, 64, .inl lku))]) (wn := fun u : (Nat → Int32) × (Int32) => (wX0 cI cJ Ak Aku Bku Akd Bkd lku nku u.1 u.2)) rfl rfl (by decide) (by decide) (by decide) (by decide) (fun _ => rfl) (rest := []) (q0 := 0) rfl rfl rfl hl.1 rfl (Nat.le_of_ble_eq_true rfl) (Nat.zero_le _) (Nat.zero_le _) dX0_change_45 (fun u H locs hw hP hD hS => ?_)
  obtain ⟨lkd_6, nkd_7⟩ := u
  have hP : va_P G vwCl (wX0 cI cJ Ak Aku Bku Akd Bkd lku nku lkd_6 nkd_7) H := hP
  have hD : va_D A (wX0 cI cJ Ak Aku Bku Akd Bkd lku nku lkd_6 nkd_7) := hD
  refine lv_aload_n hx hb dX0_change_48 rfl (lv_at hl 4 rfl) ?_
  refine k_get hx hb hts uX0_change_X0 hown hK hP 0 0 rfl rfl 0 (by decide) fX0_change_10 (.ref Aku) rfl dX0_change_49 ?_
  refine lv_iload hx hb dX0_change_52 (lv_at hl 1 rfl) ?_
  refine lv_iload hx hb dX0_change_54 (lv_at hl 0 rfl) ?_
  refine k_Si (M_X0_quotient l G cI cJ r_3 r_5 _ hw) ⟨hx, hb, hml, hown, hts⟩ (va_cwS 2 hts gX0_change_X0_quotient rfl rfl rfl (by decide +kernel) ⟨Nat.le_of_ble_eq_true rfl, Nat.le_of_ble_eq_true rfl⟩) hK hP hD hS hA [] [0, 1, 2, 3, 4] [0, 1, 2, 3, 4] (wr := [(Ak, .inr (0, [.ref Aku, .ref Akd])), (Aku, .inr (1, [.ref Bku, .int nku])), (Bku, .inl (cI, 64, .inl lku)), (Akd, .inr (1, [.ref Bkd, .int nkd_7])), (Bkd, .inl (cI, 64, .inl lkd_6))]) (wn := fun u : Unit => (wX0 cI cJ Ak Aku Bku Akd Bkd lku nku lkd_6 nkd_7)) rfl rfl (by decide) (by decide) (by decide) (by decide) (fun _ => rfl) (rest := [.ref Aku]) rfl hl.1 rfl (Nat.le_of_ble_eq_true rfl) (Nat.zero_le _) (Nat.zero_le _) dX0_change_56 (fun r_8 u H locs hw hP hD hS => ?_)
  refine k_Vv (M_X1_times l G cI cJ Aku Bku lku nku r_8 _ hw) ⟨hx, hb, hml, hown, hts⟩ (cwV 1 hts gX0_change_X1_times rfl rfl rfl (by decide +kernel) ⟨Nat.le_of_ble_eq_true rfl, Nat.le_of_ble_eq_true rfl⟩) hK hP hD hS hA [1, 2] [0, 3, 4] [0, 3, 4, 1, 2] (wr := [(Ak, .inr (0, [.ref Aku, .ref Akd])), (Akd, .inr (1, [.ref Bkd, .int nkd_7])), (Bkd, .inl (cI, 64, .inl lkd_6))]) (wn := fun u : (Nat → Int32) × (Int32) => (wX0 cI cJ Ak Aku Bku Akd Bkd u.1 u.2 lkd_6 nkd_7)) rfl rfl (by decide) (by decide) (by decide) (by decide) (fun _ => rfl) (rest := []) (q0 := 0) rfl rfl rfl hl.1 rfl (Nat.le_of_ble_eq_true rfl) (Nat.zero_le _) (Nat.zero_le _) dX0_change_59 (fun u H locs hw hP hD hS => ?_)
  obtain ⟨lku_9, nku_10⟩ := u
  have hP : va_P G vwCl (wX0 cI cJ Ak Aku Bku Akd Bkd lku_9 nku_10 lkd_6 nkd_7) H := hP
  have hD : va_D A (wX0 cI cJ Ak Aku Bku Akd Bkd lku_9 nku_10 lkd_6 nkd_7) := hD
  refine lv_aload_n hx hb dX0_change_62 rfl (lv_at hl 4 rfl) ?_
  refine k_get hx hb hts uX0_change_X0 hown hK hP 0 0 rfl rfl 0 (by decide) fX0_change_10 (.ref Aku) rfl dX0_change_63 ?_
  refine lv_aload_n hx hb dX0_change_66 rfl (lv_at hl 4 rfl) ?_
  refine k_get hx hb hts uX0_change_X0 hown hK hP 0 0 rfl rfl 1 (by decide) fX0_change_16 (.ref Akd) rfl dX0_change_67 ?_
  refine lv_iload_n hx hb dX0_change_70 rfl (lv_at hl 7 rfl) ?_
  refine lv_iload hx hb dX0_change_71 (lv_at hl 2 rfl) ?_
  refine lv_imul hx hb dX0_change_73 ?_
  refine k_Vv (M_X1_plusTimes l G cI cJ Aku Bku Akd Bkd lku_9 nku_10 lkd_6 nkd_7 (p2 * r_2) _ hw) ⟨hx, hb, hml, hown, hts⟩ (cwV 2 hts gX0_change_X1_plusTimes rfl rfl rfl (by decide +kernel) ⟨Nat.le_of_ble_eq_true rfl, Nat.le_of_ble_eq_true rfl⟩) hK hP hD hS hA [1, 2, 3, 4] [0] [0, 1, 2, 3, 4] (wr := [(Ak, .inr (0, [.ref Aku, .ref Akd]))]) (wn := fun u : (Nat → Int32) × (Int32) => (wX0 cI cJ Ak Aku Bku Akd Bkd u.1 u.2 lkd_6 nkd_7)) rfl rfl (by decide) (by decide) (by decide) (by decide) (fun _ => rfl) (rest := []) (q0 := 0) rfl rfl rfl hl.1 rfl (Nat.le_of_ble_eq_true rfl) (Nat.zero_le _) (Nat.zero_le _) dX0_change_74 (fun u H locs hw hP hD hS => ?_)
  obtain ⟨lku_11, nku_12⟩ := u
  have hP : va_P G vwCl (wX0 cI cJ Ak Aku Bku Akd Bkd lku_11 nku_12 lkd_6 nkd_7) H := hP
  have hD : va_D A (wX0 cI cJ Ak Aku Bku Akd Bkd lku_11 nku_12 lkd_6 nkd_7) := hD
  refine lv_aload_n hx hb dX0_change_77 rfl (lv_at hl 4 rfl) ?_
  refine k_get hx hb hts uX0_change_X0 hown hK hP 0 0 rfl rfl 0 (by decide) fX0_change_10 (.ref Aku) rfl dX0_change_78 ?_
  refine lv_iload hx hb dX0_change_81 (lv_at hl 0 rfl) ?_
  refine k_Vi (M_X1_restBy l G cI cJ Aku Bku lku_11 nku_12 r_5 _ hw) ⟨hx, hb, hml, hown, hts⟩ (cwV 1 hts gX0_change_X1_restBy rfl rfl rfl (by decide +kernel) ⟨Nat.le_of_ble_eq_true rfl, Nat.le_of_ble_eq_true rfl⟩) hK hP hD hS hA [1, 2] [0, 3, 4] [0, 3, 4, 1, 2] (wr := [(Ak, .inr (0, [.ref Aku, .ref Akd])), (Akd, .inr (1, [.ref Bkd, .int nkd_7])), (Bkd, .inl (cI, 64, .inl lkd_6))]) (wn := fun u : Unit => (wX0 cI cJ Ak Aku Bku Akd Bkd lku_11 nku_12 lkd_6 nkd_7)) rfl rfl (by decide) (by decide) (by decide) (by decide) (fun _ => rfl) (rest := []) (q0 := 0) rfl rfl rfl hl.1 rfl (Nat.le_of_ble_eq_true rfl) (Nat.zero_le _) (Nat.zero_le _) dX0_change_83 (fun r_13 u H locs hw hP hD hS => ?_)
  refine lv_iload hx hb dX0_change_86 (lv_at hl 0 rfl) ?_
  refine k_Si (M_X0_commonDivisor l G cI cJ r_13 r_5 _ hw) ⟨hx, hb, hml, hown, hts⟩ (va_cwS 2 hts gX0_change_X0_commonDivisor rfl rfl rfl (by decide +kernel) ⟨Nat.le_of_ble_eq_true rfl, Nat.le_of_ble_eq_true rfl⟩) hK hP hD hS hA [] [0, 1, 2, 3, 4] [0, 1, 2, 3, 4] (wr := [(Ak, .inr (0, [.ref Aku, .ref Akd])), (Aku, .inr (1, [.ref Bku, .int nku_12])), (Bku, .inl (cI, 64, .inl lku_11)), (Akd, .inr (1, [.ref Bkd, .int nkd_7])), (Bkd, .inl (cI, 64, .inl lkd_6))]) (wn := fun u : Unit => (wX0 cI cJ Ak Aku Bku Akd Bkd lku_11 nku_12 lkd_6 nkd_7)) rfl rfl (by decide) (by decide) (by decide) (by decide) (fun _ => rfl) (rest := []) rfl hl.1 rfl (Nat.le_of_ble_eq_true rfl) (Nat.zero_le _) (Nat.zero_le _) dX0_change_88 (fun r_14 u H locs hw hP hD hS => ?_)
  refine lv_istore (lv' := [(8, .int r_14), (7, .int r_5), (6, .int r_3), (5, .int r_2), (4, .int r_1), (0, .ref Ak), (1, .int p0), (2, .int p1), (3, .int p2)]) hx hb dX0_change_91 hl (by decide) rfl (fun ls hl => ?_)
  refine lv_aload_n hx hb dX0_change_93 rfl (lv_at hl 5 rfl) ?_
  refine k_get hx hb hts uX0_change_X0 hown hK hP 0 0 rfl rfl 0 (by decide) fX0_change_10 (.ref Aku) rfl dX0_change_94 ?_
  refine lv_iload hx hb dX0_change_97 (lv_at hl 0 rfl) ?_
  refine k_Vv (M_X1_divideBy l G cI cJ Aku Bku lku_11 nku_12 r_14 _ hw) ⟨hx, hb, hml, hown, hts⟩ (cwV 1 hts gX0_change_X1_divideBy rfl rfl rfl (by decide +kernel) ⟨Nat.le_of_ble_eq_true rfl, Nat.le_of_ble_eq_true rfl⟩) hK hP hD hS hA [1, 2] [0, 3, 4] [0, 3, 4, 1, 2] (wr := [(Ak, .inr (0, [.ref Aku, .ref Akd])), (Akd, .inr (1, [.ref Bkd, .int nkd_7])), (Bkd, .inl (cI, 64, .inl lkd_6))]) (wn := fun u : (Nat → Int32) × (Int32) => (wX0 cI cJ Ak Aku Bku Akd Bkd u.1 u.2 lkd_6 nkd_7)) rfl rfl (by decide) (by decide) (by decide) (by decide) (fun _ => rfl) (rest := []) (q0 := 0) rfl rfl rfl hl.1 rfl (Nat.le_of_ble_eq_true rfl) (Nat.zero_le _) (Nat.zero_le _) dX0_change_99 (fun u H locs hw hP hD hS => ?_)
  obtain ⟨lku_15, nku_16⟩ := u
  have hP : va_P G vwCl (wX0 cI cJ Ak Aku Bku Akd Bkd lku_15 nku_16 lkd_6 nkd_7) H := hP
  have hD : va_D A (wX0 cI cJ Ak Aku Bku Akd Bkd lku_15 nku_16 lkd_6 nkd_7) := hD
  refine lv_aload_n hx hb dX0_change_102 rfl (lv_at hl 5 rfl) ?_
  refine k_get hx hb hts uX0_change_X0 hown hK hP 0 0 rfl rfl 1 (by decide) fX0_change_16 (.ref Akd) rfl dX0_change_103 ?_
  refine lv_iload hx hb dX0_change_106 (lv_at hl 2 rfl) ?_
  refine lv_iload hx hb dX0_change_108 (lv_at hl 0 rfl) ?_
  refine k_Si (M_X0_quotient l G cI cJ r_3 r_14 _ hw) ⟨hx, hb, hml, hown, hts⟩ (va_cwS 2 hts gX0_change_X0_quotient rfl rfl rfl (by decide +kernel) ⟨Nat.le_of_ble_eq_true rfl, Nat.le_of_ble_eq_true rfl⟩) hK hP hD hS hA [] [0, 1, 2, 3, 4] [0, 1, 2, 3, 4] (wr := [(Ak, .inr (0, [.ref Aku, .ref Akd])), (Aku, .inr (1, [.ref Bku, .int nku_16])), (Bku, .inl (cI, 64, .inl lku_15)), (Akd, .inr (1, [.ref Bkd, .int nkd_7])), (Bkd, .inl (cI, 64, .inl lkd_6))]) (wn := fun u : Unit => (wX0 cI cJ Ak Aku Bku Akd Bkd lku_15 nku_16 lkd_6 nkd_7)) rfl rfl (by decide) (by decide) (by decide) (by decide) (fun _ => rfl) (rest := [.ref Akd]) rfl hl.1 rfl (Nat.le_of_ble_eq_true rfl) (Nat.zero_le _) (Nat.zero_le _) dX0_change_110 (fun r_17 u H locs hw hP hD hS => ?_)
  refine k_Vv (M_X1_times l G cI cJ Akd Bkd lkd_6 nkd_7 r_17 _ hw) ⟨hx, hb, hml, hown, hts⟩ (cwV 1 hts gX0_change_X1_times rfl rfl rfl (by decide +kernel) ⟨Nat.le_of_ble_eq_true rfl, Nat.le_of_ble_eq_true rfl⟩) hK hP hD hS hA [3, 4] [0, 1, 2] [0, 1, 2, 3, 4] (wr := [(Ak, .inr (0, [.ref Aku, .ref Akd])), (Aku, .inr (1, [.ref Bku, .int nku_16])), (Bku, .inl (cI, 64, .inl lku_15))]) (wn := fun u : (Nat → Int32) × (Int32) => (wX0 cI cJ Ak Aku Bku Akd Bkd lku_15 nku_16 u.1 u.2)) rfl rfl (by decide) (by decide) (by decide) (by decide) (fun _ => rfl) (rest := []) (q0 := 0) rfl rfl rfl hl.1 rfl (Nat.le_of_ble_eq_true rfl) (Nat.zero_le _) (Nat.zero_le _) dX0_change_113 (fun u H locs hw hP hD hS => ?_)
  obtain ⟨lkd_18, nkd_19⟩ := u
  have hP : va_P G vwCl (wX0 cI cJ Ak Aku Bku Akd Bkd lku_15 nku_16 lkd_18 nkd_19) H := hP
  have hD : va_D A (wX0 cI cJ Ak Aku Bku Akd Bkd lku_15 nku_16 lkd_18 nkd_19) := hD
  exact hret (lku_15, nku_16, lkd_18, nkd_19) _ _ _ _ hw hP hD hS dX0_change_116
set_option maxHeartbeats 4000000 in
set_option maxRecDepth 100000 in
theorem M_X0_increase (l : Launch) (G : va_G) (cI cJ : ClassId) (Ak Aku Bku Akd Bkd : Nat) (lku : Nat → Int32) (nku : Int32) (lkd : Nat → Int32) (nkd : Int32) (p0 : Int32) (p1 : Int32) (Q : (Nat → Int32) → Int32 → (Nat → Int32) → Int32 → Prop) (hw : w_X0_increase lku nku lkd nkd p0 p1 Q) : Kv l yX0_increase wsX0_increase rm_X0_increase G cI cJ [.ref Ak, .int p0, .int p1] (wX0 cI cJ Ak Aku Bku Akd Bkd lku nku lkd nkd) (fun (u : (Nat → Int32) × (Int32) × (Nat → Int32) × (Int32)) => Q u.1 u.2.1 u.2.2.1 u.2.2.2) (fun u => (wX0 cI cJ Ak Aku Bku Akd Bkd u.1 u.2.1 u.2.2.1 u.2.2.2)) := by
  refine kv_intro (cc := cX0_increase) (maxL := 3) rfl rfl (by decide) rfl (Nat.le_of_ble_eq_true rfl) ?_
  intro p e s m args below meth c A Z ls hx hb hml hts hown hP hK hD hS hA hl hret
  have hl : lv_has ls 3 [(0, .ref Ak), (1, .int p0), (2, .int p1)] := hl
  unfold w_X0_increase at hw
  refine lv_aload_n hx hb dX0_increase_0 rfl (lv_at hl 0 rfl) ?_
  refine lv_iload_n hx hb dX0_increase_1 rfl (lv_at hl 1 rfl) ?_
  refine lv_iload_n hx hb dX0_increase_2 rfl (lv_at hl 2 rfl) ?_
  refine lv_iconst (v := 1) hx hb dX0_increase_3 (by decide) ?_
  refine k_Vv (M_X0_change l G cI cJ Ak Aku Bku Akd Bkd lku nku lkd nkd p0 p1 (1 : Int32) _ hw) ⟨hx, hb, hml, hown, hts⟩ (cwV 3 hts gX0_increase_X0_change rfl rfl rfl (by decide +kernel) ⟨Nat.le_of_ble_eq_true rfl, Nat.le_of_ble_eq_true rfl⟩) hK hP hD hS hA [0, 1, 2, 3, 4] [] [0, 1, 2, 3, 4] (wr := []) (wn := fun u : (Nat → Int32) × (Int32) × (Nat → Int32) × (Int32) => (wX0 cI cJ Ak Aku Bku Akd Bkd u.1 u.2.1 u.2.2.1 u.2.2.2)) rfl rfl (by decide) (by decide) (by decide) (by decide) (fun _ => rfl) (rest := []) (q0 := 0) rfl rfl rfl hl.1 rfl (Nat.le_of_ble_eq_true rfl) (Nat.zero_le _) (Nat.zero_le _) dX0_increase_4 (fun u H locs hw hP hD hS => ?_)
  obtain ⟨lku_1, nku_2, lkd_3, nkd_4⟩ := u
  have hP : va_P G vwCl (wX0 cI cJ Ak Aku Bku Akd Bkd lku_1 nku_2 lkd_3 nkd_4) H := hP
  have hD : va_D A (wX0 cI cJ Ak Aku Bku Akd Bkd lku_1 nku_2 lkd_3 nkd_4) := hD
  exact hret (lku_1, nku_2, lkd_3, nkd_4) _ _ _ _ hw hP hD hS dX0_increase_7
set_option maxHeartbeats 4000000 in
set_option maxRecDepth 100000 in
theorem M_X0_decrease (l : Launch) (G : va_G) (cI cJ : ClassId) (Ak Aku Bku Akd Bkd : Nat) (lku : Nat → Int32) (nku : Int32) (lkd : Nat → Int32) (nkd : Int32) (p0 : Int32) (p1 : Int32) (Q : (Nat → Int32) → Int32 → (Nat → Int32) → Int32 → Prop) (hw : w_X0_decrease lku nku lkd nkd p0 p1 Q) : Kv l yX0_decrease wsX0_decrease rm_X0_decrease G cI cJ [.ref Ak, .int p0, .int p1] (wX0 cI cJ Ak Aku Bku Akd Bkd lku nku lkd nkd) (fun (u : (Nat → Int32) × (Int32) × (Nat → Int32) × (Int32)) => Q u.1 u.2.1 u.2.2.1 u.2.2.2) (fun u => (wX0 cI cJ Ak Aku Bku Akd Bkd u.1 u.2.1 u.2.2.1 u.2.2.2)) := by
  refine kv_intro (cc := cX0_decrease) (maxL := 3) rfl rfl (by decide) rfl (Nat.le_of_ble_eq_true rfl) ?_
  intro p e s m args below meth c A Z ls hx hb hml hts hown hP hK hD hS hA hl hret
  have hl : lv_has ls 3 [(0, .ref Ak), (1, .int p0), (2, .int p1)] := hl
  unfold w_X0_decrease at hw
  refine lv_aload_n hx hb dX0_decrease_0 rfl (lv_at hl 0 rfl) ?_
  refine lv_iload_n hx hb dX0_decrease_1 rfl (lv_at hl 1 rfl) ?_
  refine lv_iload_n hx hb dX0_decrease_2 rfl (lv_at hl 2 rfl) ?_
  refine lv_iconst (v := (-1)) hx hb dX0_decrease_3 (by decide) ?_
  refine k_Vv (M_X0_change l G cI cJ Ak Aku Bku Akd Bkd lku nku lkd nkd p0 p1 ((-1) : Int32) _ hw) ⟨hx, hb, hml, hown, hts⟩ (cwV 3 hts gX0_decrease_X0_change rfl rfl rfl (by decide +kernel) ⟨Nat.le_of_ble_eq_true rfl, Nat.le_of_ble_eq_true rfl⟩) hK hP hD hS hA [0, 1, 2, 3, 4] [] [0, 1, 2, 3, 4] (wr := []) (wn := fun u : (Nat → Int32) × (Int32) × (Nat → Int32) × (Int32) => (wX0 cI cJ Ak Aku Bku Akd Bkd u.1 u.2.1 u.2.2.1 u.2.2.2)) rfl rfl (by decide) (by decide) (by decide) (by decide) (fun _ => rfl) (rest := []) (q0 := 0) rfl rfl rfl hl.1 rfl (Nat.le_of_ble_eq_true rfl) (Nat.zero_le _) (Nat.zero_le _) dX0_decrease_4 (fun u H locs hw hP hD hS => ?_)
  obtain ⟨lku_1, nku_2, lkd_3, nkd_4⟩ := u
  have hP : va_P G vwCl (wX0 cI cJ Ak Aku Bku Akd Bkd lku_1 nku_2 lkd_3 nkd_4) H := hP
  have hD : va_D A (wX0 cI cJ Ak Aku Bku Akd Bkd lku_1 nku_2 lkd_3 nkd_4) := hD
  exact hret (lku_1, nku_2, lkd_3, nkd_4) _ _ _ _ hw hP hD hS dX0_decrease_7
theorem fX0_isLessThan_10 : Cond.fieldLink RX0 10 "PrivateCounts$Fraction" "numerator" "LPrivateCounts$Natural;" ∈ wsX0_isLessThan := by decide +kernel
theorem uX0_isLessThan_X0 : ∀ w ∈ u_ws RX0 TX0 2, w ∈ wsX0_isLessThan := by decide +kernel
theorem fX0_isLessThan_16 : Cond.fieldLink RX0 16 "PrivateCounts$Fraction" "denominator" "LPrivateCounts$Natural;" ∈ wsX0_isLessThan := by decide +kernel
set_option maxHeartbeats 4000000 in
set_option maxRecDepth 100000 in
theorem M_X0_isLessThan (l : Launch) (G : va_G) (cI cJ : ClassId) (Ak Aku Bku Akd Bkd : Nat) (lku : Nat → Int32) (nku : Int32) (lkd : Nat → Int32) (nkd : Int32) (p0 : Int32) (p1 : Int32) (Q : Int32 → Prop) (hw : w_X0_isLessThan lku nku lkd nkd p0 p1 Q) : Ki l yX0_isLessThan wsX0_isLessThan rm_X0_isLessThan G cI cJ [.ref Ak, .int p0, .int p1] (wX0 cI cJ Ak Aku Bku Akd Bkd lku nku lkd nkd) (fun (r : Int32) (u : Unit) => wB r ∧ Q r) (fun u => (wX0 cI cJ Ak Aku Bku Akd Bkd lku nku lkd nkd)) := by
  refine kz_intro (cc := cX0_isLessThan) (maxL := 3) rfl rfl (by decide) rfl (Nat.le_of_ble_eq_true rfl) ?_
  intro p e s m args below meth c A Z ls hx hb hml hts hown hP hK hD hS hA hl hret
  have hl : lv_has ls 3 [(0, .ref Ak), (1, .int p0), (2, .int p1)] := hl
  unfold w_X0_isLessThan at hw
  refine lv_aload_n hx hb dX0_isLessThan_0 rfl (lv_at hl 0 rfl) ?_
  refine k_get hx hb hts uX0_isLessThan_X0 hown hK hP 0 0 rfl rfl 0 (by decide) fX0_isLessThan_10 (.ref Aku) rfl dX0_isLessThan_1 ?_
  refine lv_iload_n hx hb dX0_isLessThan_4 rfl (lv_at hl 2 rfl) ?_
  refine lv_aload_n hx hb dX0_isLessThan_5 rfl (lv_at hl 0 rfl) ?_
  refine k_get hx hb hts uX0_isLessThan_X0 hown hK hP 0 0 rfl rfl 1 (by decide) fX0_isLessThan_16 (.ref Akd) rfl dX0_isLessThan_6 ?_
  refine lv_iload_n hx hb dX0_isLessThan_9 rfl (lv_at hl 1 rfl) ?_
  refine k_Si (M_X1_isLess l G cI cJ Aku Bku Akd Bkd lku nku lkd nkd p1 p0 _ hw) ⟨hx, hb, hml, hown, hts⟩ (va_cwS 4 hts gX0_isLessThan_X1_isLess rfl rfl rfl (by decide +kernel) ⟨Nat.le_of_ble_eq_true rfl, Nat.le_of_ble_eq_true rfl⟩) hK hP hD hS hA [1, 2, 3, 4] [0] [0, 1, 2, 3, 4] (wr := [(Ak, .inr (0, [.ref Aku, .ref Akd]))]) (wn := fun u : Unit => (wX0 cI cJ Ak Aku Bku Akd Bkd lku nku lkd nkd)) rfl rfl (by decide) (by decide) (by decide) (by decide) (fun _ => rfl) (rest := []) rfl hl.1 rfl (Nat.le_of_ble_eq_true rfl) (Nat.zero_le _) (Nat.zero_le _) dX0_isLessThan_10 (fun r_1 u H locs hw hP hD hS => ?_)
  obtain ⟨hzr_1, hw⟩ := hw
  exact hret _ () _ _ _ _ hzr_1 hw hP hD hS dX0_isLessThan_13
theorem fX2_reaches_10 : Cond.fieldLink RX2 10 "PrivateCounts$Series" "missing" "LPrivateCounts$Natural;" ∈ wsX2_reaches := by decide +kernel
theorem uX2_reaches_X2 : ∀ w ∈ u_ws RX2 TX2 2, w ∈ wsX2_reaches := by decide +kernel
theorem fX2_reaches_19 : Cond.fieldLink RX2 19 "PrivateCounts$Table" "b" "I" ∈ wsX2_reaches := by decide +kernel
theorem uX2_reaches_X3 : ∀ w ∈ u_ws RX3 TX3 5, w ∈ wsX2_reaches := by decide +kernel
theorem fX2_reaches_25 : Cond.fieldLink RX2 25 "PrivateCounts$Table" "a" "I" ∈ wsX2_reaches := by decide +kernel
theorem fX2_reaches_16 : Cond.fieldLink RX2 16 "PrivateCounts$Series" "term" "LPrivateCounts$Natural;" ∈ wsX2_reaches := by decide +kernel
set_option maxHeartbeats 4000000 in
set_option maxRecDepth 100000 in
theorem M_X2_reaches (l : Launch) (G : va_G) (cI cJ : ClassId) (As Asm Bsm Ast Bst Aw : Nat) (lsm : Nat → Int32) (nsm : Int32) (lst : Nat → Int32) (nst : Int32) (wa : Int32) (wb : Int32) (wlo : Int32) (whi : Int32) (wtot : Int64) (p1 : Int32) (p2 : Int32) (Q : Int32 → (Nat → Int32) → Int32 → (Nat → Int32) → Int32 → Prop) (hw : w_X2_reaches lsm nsm lst nst wa wb p1 p2 Q) : Ki l yX2_reaches wsX2_reaches rm_X2_reaches G cI cJ [.ref As, .ref Aw, .int p1, .int p2] (wX2X3 cI cJ As Asm Bsm Ast Bst Aw lsm nsm lst nst wa wb wlo whi wtot) (fun (r : Int32) (u : (Nat → Int32) × (Int32) × (Nat → Int32) × (Int32)) => wB r ∧ Q r u.1 u.2.1 u.2.2.1 u.2.2.2) (fun u => (wX2X3 cI cJ As Asm Bsm Ast Bst Aw u.1 u.2.1 u.2.2.1 u.2.2.2 wa wb wlo whi wtot)) := by
  refine kz_intro (cc := cX2_reaches) (maxL := 6) rfl rfl (by decide) rfl (Nat.le_of_ble_eq_true rfl) ?_
  intro p e s m args below meth c A Z ls hx hb hml hts hown hP hK hD hS hA hl hret
  have hl : lv_has ls 6 [(0, .ref As), (1, .ref Aw), (2, .int p1), (3, .int p2)] := hl
  unfold w_X2_reaches at hw
  refine lv_aload_n hx hb dX2_reaches_0 rfl (lv_at hl 0 rfl) ?_
  refine k_get hx hb hts uX2_reaches_X2 hown hK hP 0 2 rfl rfl 0 (by decide) fX2_reaches_10 (.ref Asm) rfl dX2_reaches_1 ?_
  refine lv_aload_n hx hb dX2_reaches_4 rfl (lv_at hl 1 rfl) ?_
  refine k_get hx hb hts uX2_reaches_X3 hown hK hP 5 3 rfl rfl 1 (by decide) fX2_reaches_19 (.int wb) rfl dX2_reaches_5 ?_
  refine lv_aload_n hx hb dX2_reaches_8 rfl (lv_at hl 1 rfl) ?_
  refine k_get hx hb hts uX2_reaches_X3 hown hK hP 5 3 rfl rfl 0 (by decide) fX2_reaches_25 (.int wa) rfl dX2_reaches_9 ?_
  refine lv_isub hx hb dX2_reaches_12 ?_
  refine k_Vv (M_X1_become l G cI cJ Asm Bsm lsm nsm (wb - wa) _ hw) ⟨hx, hb, hml, hown, hts⟩ (cwV 1 hts gX2_reaches_X1_become rfl rfl rfl (by decide +kernel) ⟨Nat.le_of_ble_eq_true rfl, Nat.le_of_ble_eq_true rfl⟩) hK hP hD hS hA [1, 2] [0, 3, 4, 5] [0, 4, 5, 1, 2, 3] (wr := [(As, .inr (2, [.ref Asm, .ref Ast])), (Ast, .inr (1, [.ref Bst, .int nst])), (Bst, .inl (cI, 64, .inl lst)), (Aw, .inr (3, [.int wa, .int wb, .int wlo, .int whi, .long wtot]))]) (wn := fun u : (Nat → Int32) × (Int32) => (wX2X3 cI cJ As Asm Bsm Ast Bst Aw u.1 u.2 lst nst wa wb wlo whi wtot)) rfl rfl (by decide) (by decide) (by decide) (by decide) (fun _ => rfl) (rest := []) (q0 := 0) rfl rfl rfl hl.1 rfl (Nat.le_of_ble_eq_true rfl) (Nat.zero_le _) (Nat.zero_le _) dX2_reaches_13 (fun u H locs hw hP hD hS => ?_)
  obtain ⟨lsm_1, nsm_2⟩ := u
  have hP : va_P G vwCl (wX2X3 cI cJ As Asm Bsm Ast Bst Aw lsm_1 nsm_2 lst nst wa wb wlo whi wtot) H := hP
  have hD : va_D A (wX2X3 cI cJ As Asm Bsm Ast Bst Aw lsm_1 nsm_2 lst nst wa wb wlo whi wtot) := hD
  refine lv_aload_n hx hb dX2_reaches_16 rfl (lv_at hl 0 rfl) ?_
  refine k_get hx hb hts uX2_reaches_X2 hown hK hP 0 2 rfl rfl 1 (by decide) fX2_reaches_16 (.ref Ast) rfl dX2_reaches_17 ?_
  refine lv_aload_n hx hb dX2_reaches_20 rfl (lv_at hl 1 rfl) ?_
  refine k_get hx hb hts uX2_reaches_X3 hown hK hP 5 3 rfl rfl 0 (by decide) fX2_reaches_25 (.int wa) rfl dX2_reaches_21 ?_
  refine k_Vv (M_X1_become l G cI cJ Ast Bst lst nst wa _ hw) ⟨hx, hb, hml, hown, hts⟩ (cwV 1 hts gX2_reaches_X1_become rfl rfl rfl (by decide +kernel) ⟨Nat.le_of_ble_eq_true rfl, Nat.le_of_ble_eq_true rfl⟩) hK hP hD hS hA [3, 4] [0, 1, 2, 5] [0, 1, 2, 4, 5, 3] (wr := [(As, .inr (2, [.ref Asm, .ref Ast])), (Asm, .inr (1, [.ref Bsm, .int nsm_2])), (Bsm, .inl (cI, 64, .inl lsm_1)), (Aw, .inr (3, [.int wa, .int wb, .int wlo, .int whi, .long wtot]))]) (wn := fun u : (Nat → Int32) × (Int32) => (wX2X3 cI cJ As Asm Bsm Ast Bst Aw lsm_1 nsm_2 u.1 u.2 wa wb wlo whi wtot)) rfl rfl (by decide) (by decide) (by decide) (by decide) (fun _ => rfl) (rest := []) (q0 := 0) rfl rfl rfl hl.1 rfl (Nat.le_of_ble_eq_true rfl) (Nat.zero_le _) (Nat.zero_le _) dX2_reaches_24 (fun u H locs hw hP hD hS => ?_)
  obtain ⟨lst_3, nst_4⟩ := u
  have hP : va_P G vwCl (wX2X3 cI cJ As Asm Bsm Ast Bst Aw lsm_1 nsm_2 lst_3 nst_4 wa wb wlo whi wtot) H := hP
  have hD : va_D A (wX2X3 cI cJ As Asm Bsm Ast Bst Aw lsm_1 nsm_2 lst_3 nst_4 wa wb wlo whi wtot) := hD
  refine lv_iconst (v := 1) hx hb dX2_reaches_27 (by decide) ?_
  refine lv_istore (lv' := [(4, .int 1), (0, .ref As), (1, .ref Aw), (2, .int p1), (3, .int p2)]) hx hb dX2_reaches_28 hl (by decide) rfl (fun ls hl => ?_)
  obtain ⟨I30_10, μ30_10, hi, hw⟩ := hw
  suffices hLI30_10 : ∀ (N : Nat) (i4_5 : Int32) (lsm_6 : Nat → Int32) (nsm_7 : Int32) (lst_8 : Nat → Int32) (nst_9 : Int32) (_ : μ30_10 i4_5 lsm_6 nsm_7 lst_8 nst_9 = N) (_ : I30_10 i4_5 lsm_6 nsm_7 lst_8 nst_9) (H : Heap) (locs : List Loc) (ls : Array Slot), va_P G vwCl (wX2X3 cI cJ As Asm Bsm Ast Bst Aw lsm_6 nsm_7 lst_8 nst_9 wa wb wlo whi wtot) H → va_D A (wX2X3 cI cJ As Asm Bsm Ast Bst Aw lsm_6 nsm_7 lst_8 nst_9 wa wb wlo whi wtot) → va_S A s.heap H locs → lv_has ls 6 [(4, .int i4_5), (0, .ref As), (2, .int p1), (3, .int p2)] → W p l e rm_X2_reaches s m args below meth c H locs 0 0 Z (F0 m 30 ls []) from
    hLI30_10 _ (1 : Int32) lsm_1 nsm_2 lst_3 nst_4 rfl hi _ _ _ hP hD hS (lv_sub hl [0, 1, 3, 4] rfl)
  clear hi hP hD hS hl
  intro N
  induction N using Nat.strongRecOn with
  | ind N ihI30_10 =>
    intro i4_5 lsm_6 nsm_7 lst_8 nst_9 hNI30_10 hi H locs ls hP hD hS hl
    have hw := hw i4_5 lsm_6 nsm_7 lst_8 nst_9 hi
    refine lv_iload hx hb dX2_reaches_30 (lv_at hl 0 rfl) ?_
    refine lv_bipush (v := 60) hx hb dX2_reaches_32 (by decide) ?_
    refine lv_icmp_gt (tgt := 134) hx hb dX2_reaches_34 (by decide) (fun c_28 => ?_) (fun c_28 => ?_)
    · have hw := hw.1 c_28
      refine lv_iconst (v := 0) hx hb dX2_reaches_134 (by decide) ?_
      exact hret _ (lsm_6, nsm_7, lst_8, nst_9) _ _ _ _ (Or.inl rfl) hw hP hD hS dX2_reaches_135
    · have hw := hw.2 c_28
      refine lv_aload_n hx hb dX2_reaches_37 rfl (lv_at hl 1 rfl) ?_
      refine k_get hx hb hts uX2_reaches_X2 hown hK hP 0 2 rfl rfl 0 (by decide) fX2_reaches_10 (.ref Asm) rfl dX2_reaches_38 ?_
      refine lv_iload_n hx hb dX2_reaches_41 rfl (lv_at hl 3 rfl) ?_
      refine lv_iload hx hb dX2_reaches_42 (lv_at hl 0 rfl) ?_
      refine lv_imul hx hb dX2_reaches_44 ?_
      refine k_Vv (M_X1_times l G cI cJ Asm Bsm lsm_6 nsm_7 (p2 * i4_5) _ hw) ⟨hx, hb, hml, hown, hts⟩ (cwV 1 hts gX2_reaches_X1_times rfl rfl rfl (by decide +kernel) ⟨Nat.le_of_ble_eq_true rfl, Nat.le_of_ble_eq_true rfl⟩) hK hP hD hS hA [1, 2] [0, 3, 4, 5] [0, 4, 5, 1, 2, 3] (wr := [(As, .inr (2, [.ref Asm, .ref Ast])), (Ast, .inr (1, [.ref Bst, .int nst_9])), (Bst, .inl (cI, 64, .inl lst_8)), (Aw, .inr (3, [.int wa, .int wb, .int wlo, .int whi, .long wtot]))]) (wn := fun u : (Nat → Int32) × (Int32) => (wX2X3 cI cJ As Asm Bsm Ast Bst Aw u.1 u.2 lst_8 nst_9 wa wb wlo whi wtot)) rfl rfl (by decide) (by decide) (by decide) (by decide) (fun _ => rfl) (rest := []) (q0 := 0) rfl rfl rfl hl.1 rfl (Nat.le_of_ble_eq_true rfl) (Nat.zero_le _) (Nat.zero_le _) dX2_reaches_45 (fun u H locs hw hP hD hS => ?_)
      obtain ⟨lsm_11, nsm_12⟩ := u
      have hP : va_P G vwCl (wX2X3 cI cJ As Asm Bsm Ast Bst Aw lsm_11 nsm_12 lst_8 nst_9 wa wb wlo whi wtot) H := hP
      have hD : va_D A (wX2X3 cI cJ As Asm Bsm Ast Bst Aw lsm_11 nsm_12 lst_8 nst_9 wa wb wlo whi wtot) := hD
      refine lv_aload_n hx hb dX2_reaches_48 rfl (lv_at hl 1 rfl) ?_
      refine k_get hx hb hts uX2_reaches_X2 hown hK hP 0 2 rfl rfl 1 (by decide) fX2_reaches_16 (.ref Ast) rfl dX2_reaches_49 ?_
      refine lv_iload_n hx hb dX2_reaches_52 rfl (lv_at hl 2 rfl) ?_
      refine k_Vv (M_X1_times l G cI cJ Ast Bst lst_8 nst_9 p1 _ hw) ⟨hx, hb, hml, hown, hts⟩ (cwV 1 hts gX2_reaches_X1_times rfl rfl rfl (by decide +kernel) ⟨Nat.le_of_ble_eq_true rfl, Nat.le_of_ble_eq_true rfl⟩) hK hP hD hS hA [3, 4] [0, 1, 2, 5] [0, 1, 2, 4, 5, 3] (wr := [(As, .inr (2, [.ref Asm, .ref Ast])), (Asm, .inr (1, [.ref Bsm, .int nsm_12])), (Bsm, .inl (cI, 64, .inl lsm_11)), (Aw, .inr (3, [.int wa, .int wb, .int wlo, .int whi, .long wtot]))]) (wn := fun u : (Nat → Int32) × (Int32) => (wX2X3 cI cJ As Asm Bsm Ast Bst Aw lsm_11 nsm_12 u.1 u.2 wa wb wlo whi wtot)) rfl rfl (by decide) (by decide) (by decide) (by decide) (fun _ => rfl) (rest := []) (q0 := 0) rfl rfl rfl hl.1 rfl (Nat.le_of_ble_eq_true rfl) (Nat.zero_le _) (Nat.zero_le _) dX2_reaches_53 (fun u H locs hw hP hD hS => ?_)
      obtain ⟨lst_13, nst_14⟩ := u
      have hP : va_P G vwCl (wX2X3 cI cJ As Asm Bsm Ast Bst Aw lsm_11 nsm_12 lst_13 nst_14 wa wb wlo whi wtot) H := hP
      have hD : va_D A (wX2X3 cI cJ As Asm Bsm Ast Bst Aw lsm_11 nsm_12 lst_13 nst_14 wa wb wlo whi wtot) := hD
      refine lv_aload_n hx hb dX2_reaches_56 rfl (lv_at hl 1 rfl) ?_
      refine k_get hx hb hts uX2_reaches_X2 hown hK hP 0 2 rfl rfl 1 (by decide) fX2_reaches_16 (.ref Ast) rfl dX2_reaches_57 ?_
      refine lv_iconst (v := 1) hx hb dX2_reaches_60 (by decide) ?_
      refine lv_aload_n hx hb dX2_reaches_61 rfl (lv_at hl 1 rfl) ?_
      refine k_get hx hb hts uX2_reaches_X2 hown hK hP 0 2 rfl rfl 0 (by decide) fX2_reaches_10 (.ref Asm) rfl dX2_reaches_62 ?_
      refine lv_iconst (v := 1) hx hb dX2_reaches_65 (by decide) ?_
      refine k_Si (M_X1_isLess l G cI cJ Ast Bst Asm Bsm lst_13 nst_14 lsm_11 nsm_12 (1 : Int32) (1 : Int32) _ hw) ⟨hx, hb, hml, hown, hts⟩ (va_cwS 4 hts gX2_reaches_X1_isLess rfl rfl rfl (by decide +kernel) ⟨Nat.le_of_ble_eq_true rfl, Nat.le_of_ble_eq_true rfl⟩) hK hP hD hS hA [3, 4, 1, 2] [0, 5] [0, 4, 5, 2, 3, 1] (wr := [(As, .inr (2, [.ref Asm, .ref Ast])), (Aw, .inr (3, [.int wa, .int wb, .int wlo, .int whi, .long wtot]))]) (wn := fun u : Unit => (wX2X3 cI cJ As Asm Bsm Ast Bst Aw lsm_11 nsm_12 lst_13 nst_14 wa wb wlo whi wtot)) rfl rfl (by decide) (by decide) (by decide) (by decide) (fun _ => rfl) (rest := []) rfl hl.1 rfl (Nat.le_of_ble_eq_true rfl) (Nat.zero_le _) (Nat.zero_le _) dX2_reaches_66 (fun r_15 u H locs hw hP hD hS => ?_)
      obtain ⟨hzr_15, hw⟩ := hw
      refine lv_if_ne (tgt := 74) hx hb dX2_reaches_69 (by decide) (fun c_27 => ?_) (fun c_27 => ?_)
      · have hw := hw.1 c_27
        refine lv_aload_n hx hb dX2_reaches_74 rfl (lv_at hl 1 rfl) ?_
        refine k_get hx hb hts uX2_reaches_X2 hown hK hP 0 2 rfl rfl 0 (by decide) fX2_reaches_10 (.ref Asm) rfl dX2_reaches_75 ?_
        refine lv_aload_n hx hb dX2_reaches_78 rfl (lv_at hl 1 rfl) ?_
        refine k_get hx hb hts uX2_reaches_X2 hown hK hP 0 2 rfl rfl 1 (by decide) fX2_reaches_16 (.ref Ast) rfl dX2_reaches_79 ?_
        refine lv_iconst (v := (-1)) hx hb dX2_reaches_82 (by decide) ?_
        refine k_Vv (M_X1_plusTimes l G cI cJ Asm Bsm Ast Bst lsm_11 nsm_12 lst_13 nst_14 ((-1) : Int32) _ hw) ⟨hx, hb, hml, hown, hts⟩ (cwV 2 hts gX2_reaches_X1_plusTimes rfl rfl rfl (by decide +kernel) ⟨Nat.le_of_ble_eq_true rfl, Nat.le_of_ble_eq_true rfl⟩) hK hP hD hS hA [1, 2, 3, 4] [0, 5] [0, 2, 3, 4, 5, 1] (wr := [(As, .inr (2, [.ref Asm, .ref Ast])), (Aw, .inr (3, [.int wa, .int wb, .int wlo, .int whi, .long wtot]))]) (wn := fun u : (Nat → Int32) × (Int32) => (wX2X3 cI cJ As Asm Bsm Ast Bst Aw u.1 u.2 lst_13 nst_14 wa wb wlo whi wtot)) rfl rfl (by decide) (by decide) (by decide) (by decide) (fun _ => rfl) (rest := []) (q0 := 0) rfl rfl rfl hl.1 rfl (Nat.le_of_ble_eq_true rfl) (Nat.zero_le _) (Nat.zero_le _) dX2_reaches_83 (fun u H locs hw hP hD hS => ?_)
        obtain ⟨lsm_16, nsm_17⟩ := u
        have hP : va_P G vwCl (wX2X3 cI cJ As Asm Bsm Ast Bst Aw lsm_16 nsm_17 lst_13 nst_14 wa wb wlo whi wtot) H := hP
        have hD : va_D A (wX2X3 cI cJ As Asm Bsm Ast Bst Aw lsm_16 nsm_17 lst_13 nst_14 wa wb wlo whi wtot) := hD
        refine lv_iconst (v := 2) hx hb dX2_reaches_86 (by decide) ?_
        refine lv_iload_n hx hb dX2_reaches_87 rfl (lv_at hl 2 rfl) ?_
        refine lv_imul hx hb dX2_reaches_88 ?_
        refine lv_iload hx hb dX2_reaches_89 (lv_at hl 0 rfl) ?_
        refine lv_iconst (v := 1) hx hb dX2_reaches_91 (by decide) ?_
        refine lv_iadd hx hb dX2_reaches_92 ?_
        refine lv_iload_n hx hb dX2_reaches_93 rfl (lv_at hl 3 rfl) ?_
        refine lv_imul hx hb dX2_reaches_94 ?_
        refine lv_topi (fun v_18 ev_18 => ?_)
        have hw := hw v_18 ev_18
        obtain ⟨J103_20, hw, hR⟩ := hw
        have hJ103_20 : ∀ (t_19 : Int32) (_ : J103_20 t_19) (H : Heap) (locs : List Loc) (ls : Array Slot), va_P G vwCl (wX2X3 cI cJ As Asm Bsm Ast Bst Aw lsm_16 nsm_17 lst_13 nst_14 wa wb wlo whi wtot) H → va_D A (wX2X3 cI cJ As Asm Bsm Ast Bst Aw lsm_16 nsm_17 lst_13 nst_14 wa wb wlo whi wtot) → va_S A s.heap H locs → lv_has ls 6 [(4, .int i4_5), (0, .ref As), (2, .int p1), (3, .int p2)] → W p l e rm_X2_reaches s m args below meth c H locs 0 0 Z (F0 m 103 ls [.int t_19]) := by
          intro t_19 hw H locs ls hP hD hS hl
          have hw := hR _ hw
          refine lv_istore (lv' := [(5, .int t_19), (4, .int i4_5), (0, .ref As), (2, .int p1), (3, .int p2)]) hx hb dX2_reaches_103 hl (by decide) rfl (fun ls hl => ?_)
          refine lv_iload hx hb dX2_reaches_105 (lv_at hl 0 rfl) ?_
          refine lv_if_eq (tgt := 128) hx hb dX2_reaches_107 (by decide) (fun c_26 => ?_) (fun c_26 => ?_)
          · have hw := hw.1 c_26
            obtain ⟨i4_22, ei4_22⟩ : ∃ y : Int32, y = i4_5 + 1 := ⟨_, rfl⟩
            have hw := hw i4_22 ei4_22
            refine lv_iinc (v := i4_22) (lv' := [(4, .int i4_22), (5, .int t_19), (0, .ref As), (2, .int p1), (3, .int p2)]) hx hb dX2_reaches_128 hl (k := 1) rfl (by rw [ei4_22]; rfl) (by decide) rfl (fun ls hl => ?_)
            refine lv_goto (tgt := 30) hx hb dX2_reaches_131 (by decide) ?_
            exact ihI30_10 _ (by rw [← hNI30_10]; exact hw.2) i4_22 lsm_16 nsm_17 lst_13 nst_14 rfl hw.1 _ _ _ hP hD hS (lv_sub hl [0, 2, 3, 4] rfl)
          · have hw := hw.2 c_26
            refine lv_aload_n hx hb dX2_reaches_110 rfl (lv_at hl 2 rfl) ?_
            refine k_get hx hb hts uX2_reaches_X2 hown hK hP 0 2 rfl rfl 0 (by decide) fX2_reaches_10 (.ref Asm) rfl dX2_reaches_111 ?_
            refine lv_iconst (v := 1) hx hb dX2_reaches_114 (by decide) ?_
            refine lv_aload_n hx hb dX2_reaches_115 rfl (lv_at hl 2 rfl) ?_
            refine k_get hx hb hts uX2_reaches_X2 hown hK hP 0 2 rfl rfl 1 (by decide) fX2_reaches_16 (.ref Ast) rfl dX2_reaches_116 ?_
            refine lv_iconst (v := 1) hx hb dX2_reaches_119 (by decide) ?_
            refine k_Si (M_X1_isLess l G cI cJ Asm Bsm Ast Bst lsm_16 nsm_17 lst_13 nst_14 (1 : Int32) (1 : Int32) _ hw) ⟨hx, hb, hml, hown, hts⟩ (va_cwS 4 hts gX2_reaches_X1_isLess rfl rfl rfl (by decide +kernel) ⟨Nat.le_of_ble_eq_true rfl, Nat.le_of_ble_eq_true rfl⟩) hK hP hD hS hA [1, 2, 3, 4] [0, 5] [0, 2, 3, 4, 5, 1] (wr := [(As, .inr (2, [.ref Asm, .ref Ast])), (Aw, .inr (3, [.int wa, .int wb, .int wlo, .int whi, .long wtot]))]) (wn := fun u : Unit => (wX2X3 cI cJ As Asm Bsm Ast Bst Aw lsm_16 nsm_17 lst_13 nst_14 wa wb wlo whi wtot)) rfl rfl (by decide) (by decide) (by decide) (by decide) (fun _ => rfl) (rest := []) rfl hl.1 rfl (Nat.le_of_ble_eq_true rfl) (Nat.zero_le _) (Nat.zero_le _) dX2_reaches_120 (fun r_23 u H locs hw hP hD hS => ?_)
            obtain ⟨hzr_23, hw⟩ := hw
            refine lv_if_ne (tgt := 128) hx hb dX2_reaches_123 (by decide) (fun c_25 => ?_) (fun c_25 => ?_)
            · have hw := hw.1 c_25
              obtain ⟨i4_24, ei4_24⟩ : ∃ y : Int32, y = i4_5 + 1 := ⟨_, rfl⟩
              have hw := hw i4_24 ei4_24
              refine lv_iinc (v := i4_24) (lv' := [(4, .int i4_24), (5, .int t_19), (0, .ref As), (2, .int p1), (3, .int p2)]) hx hb dX2_reaches_128 hl (k := 1) rfl (by rw [ei4_24]; rfl) (by decide) rfl (fun ls hl => ?_)
              refine lv_goto (tgt := 30) hx hb dX2_reaches_131 (by decide) ?_
              exact ihI30_10 _ (by rw [← hNI30_10]; exact hw.2) i4_24 lsm_16 nsm_17 lst_13 nst_14 rfl hw.1 _ _ _ hP hD hS (lv_sub hl [0, 2, 3, 4] rfl)
            · have hw := hw.2 c_25
              refine lv_iconst (v := 0) hx hb dX2_reaches_126 (by decide) ?_
              exact hret _ (lsm_16, nsm_17, lst_13, nst_14) _ _ _ _ (Or.inl rfl) hw hP hD hS dX2_reaches_127
        clear hR
        refine lv_icmp_gt (tgt := 102) hx hb dX2_reaches_95 (by decide) (fun c_21 => ?_) (fun c_21 => ?_)
        · have hw := hw.1 c_21
          refine lv_iconst (v := 0) hx hb dX2_reaches_102 (by decide) ?_
          exact hJ103_20 0 hw _ _ _ hP hD hS (lv_sub hl [0, 1, 2, 3] rfl)
        · have hw := hw.2 c_21
          refine lv_iconst (v := 1) hx hb dX2_reaches_98 (by decide) ?_
          refine lv_goto (tgt := 103) hx hb dX2_reaches_99 (by decide) ?_
          exact hJ103_20 1 hw _ _ _ hP hD hS (lv_sub hl [0, 1, 2, 3] rfl)
      · have hw := hw.2 c_27
        refine lv_iconst (v := 1) hx hb dX2_reaches_72 (by decide) ?_
        exact hret _ (lsm_11, nsm_12, lst_13, nst_14) _ _ _ _ (Or.inr rfl) hw hP hD hS dX2_reaches_73
end
section
set_option maxRecDepth 20000 in
theorem ggX3_init_X3_become : GoodIn wsX3_init wsX3_become := goodIn_r _ [8, 9, 10, 11, 12, 13, 14, 15, 7, 16, 17, 18, 19, 20, 21] (by decide +kernel) (by decide +kernel)
set_option maxRecDepth 20000 in
theorem gX3_init_X3_become : GoodIn wsX3_init (wsV RX3 7 RX3 yX3_become wsX3_become) := goodIn_app (goodIn_of _ (by decide +kernel)) ggX3_init_X3_become
theorem dX3_init_0 : decode cX3_init 0 = .ok (.aload_n 0, 1) := by decide +kernel
theorem dX3_init_1 : decode cX3_init 1 = .ok (.invokespecial 1, 3) := by decide +kernel
theorem dX3_init_4 : decode cX3_init 4 = .ok (.aload_n 0, 1) := by decide +kernel
theorem dX3_init_5 : decode cX3_init 5 = .ok (.iconst 1, 1) := by decide +kernel
theorem dX3_init_6 : decode cX3_init 6 = .ok (.iconst 2, 1) := by decide +kernel
theorem dX3_init_7 : decode cX3_init 7 = .ok (.iconst 0, 1) := by decide +kernel
theorem dX3_init_8 : decode cX3_init 8 = .ok (.bipush 10, 2) := by decide +kernel
theorem dX3_init_10 : decode cX3_init 10 = .ok (.invokevirtual 7, 3) := by decide +kernel
theorem dX3_init_13 : decode cX3_init 13 = .ok (.return_, 1) := by decide +kernel
theorem dX3_isAllowed_0 : decode cX3_isAllowed 0 = .ok (.iload_n 0, 1) := by decide +kernel
theorem dX3_isAllowed_1 : decode cX3_isAllowed 1 = .ok (.iconst 1, 1) := by decide +kernel
theorem dX3_isAllowed_2 : decode cX3_isAllowed 2 = .ok (.if_icmp .lt 45, 3) := by decide +kernel
theorem dX3_isAllowed_5 : decode cX3_isAllowed 5 = .ok (.iload_n 0, 1) := by decide +kernel
theorem dX3_isAllowed_6 : decode cX3_isAllowed 6 = .ok (.iload_n 1, 1) := by decide +kernel
theorem dX3_isAllowed_7 : decode cX3_isAllowed 7 = .ok (.if_icmp .ge 40, 3) := by decide +kernel
theorem dX3_isAllowed_10 : decode cX3_isAllowed 10 = .ok (.iload_n 1, 1) := by decide +kernel
theorem dX3_isAllowed_11 : decode cX3_isAllowed 11 = .ok (.bipush 10, 2) := by decide +kernel
theorem dX3_isAllowed_13 : decode cX3_isAllowed 13 = .ok (.if_icmp .gt 34, 3) := by decide +kernel
theorem dX3_isAllowed_16 : decode cX3_isAllowed 16 = .ok (.iload_n 2, 1) := by decide +kernel
theorem dX3_isAllowed_17 : decode cX3_isAllowed 17 = .ok (.sipush (-1000), 3) := by decide +kernel
theorem dX3_isAllowed_20 : decode cX3_isAllowed 20 = .ok (.if_icmp .lt 27, 3) := by decide +kernel
theorem dX3_isAllowed_23 : decode cX3_isAllowed 23 = .ok (.iload_n 3, 1) := by decide +kernel
theorem dX3_isAllowed_24 : decode cX3_isAllowed 24 = .ok (.sipush 1000, 3) := by decide +kernel
theorem dX3_isAllowed_27 : decode cX3_isAllowed 27 = .ok (.if_icmp .gt 20, 3) := by decide +kernel
theorem dX3_isAllowed_30 : decode cX3_isAllowed 30 = .ok (.iload_n 2, 1) := by decide +kernel
theorem dX3_isAllowed_31 : decode cX3_isAllowed 31 = .ok (.iload_n 3, 1) := by decide +kernel
theorem dX3_isAllowed_32 : decode cX3_isAllowed 32 = .ok (.if_icmp .gt 15, 3) := by decide +kernel
theorem dX3_isAllowed_35 : decode cX3_isAllowed 35 = .ok (.iload_n 3, 1) := by decide +kernel
theorem dX3_isAllowed_36 : decode cX3_isAllowed 36 = .ok (.iload_n 2, 1) := by decide +kernel
theorem dX3_isAllowed_37 : decode cX3_isAllowed 37 = .ok (.isub, 1) := by decide +kernel
theorem dX3_isAllowed_38 : decode cX3_isAllowed 38 = .ok (.bipush 14, 2) := by decide +kernel
theorem dX3_isAllowed_40 : decode cX3_isAllowed 40 = .ok (.if_icmp .gt 7, 3) := by decide +kernel
theorem dX3_isAllowed_43 : decode cX3_isAllowed 43 = .ok (.iconst 1, 1) := by decide +kernel
theorem dX3_isAllowed_44 : decode cX3_isAllowed 44 = .ok (.goto 4, 3) := by decide +kernel
theorem dX3_isAllowed_47 : decode cX3_isAllowed 47 = .ok (.iconst 0, 1) := by decide +kernel
theorem dX3_isAllowed_48 : decode cX3_isAllowed 48 = .ok (.ireturn, 1) := by decide +kernel
set_option maxRecDepth 20000 in
theorem ggX3_become_X3_power : GoodIn wsX3_become wsX3_power := goodIn_r _ [9] (by decide +kernel) (by decide +kernel)
set_option maxRecDepth 20000 in
theorem gX3_become_X3_power : GoodIn wsX3_become (va_wsS RX3 26 yX3_power wsX3_power) := goodIn_app (goodIn_of _ (by decide +kernel)) ggX3_become_X3_power
theorem dX3_become_0 : decode cX3_become 0 = .ok (.aload_n 0, 1) := by decide +kernel
theorem dX3_become_1 : decode cX3_become 1 = .ok (.iload_n 1, 1) := by decide +kernel
theorem dX3_become_2 : decode cX3_become 2 = .ok (.putfield 13, 3) := by decide +kernel
theorem dX3_become_5 : decode cX3_become 5 = .ok (.aload_n 0, 1) := by decide +kernel
theorem dX3_become_6 : decode cX3_become 6 = .ok (.iload_n 2, 1) := by decide +kernel
theorem dX3_become_7 : decode cX3_become 7 = .ok (.putfield 17, 3) := by decide +kernel
theorem dX3_become_10 : decode cX3_become 10 = .ok (.aload_n 0, 1) := by decide +kernel
theorem dX3_become_11 : decode cX3_become 11 = .ok (.iload_n 3, 1) := by decide +kernel
theorem dX3_become_12 : decode cX3_become 12 = .ok (.putfield 20, 3) := by decide +kernel
theorem dX3_become_15 : decode cX3_become 15 = .ok (.aload_n 0, 1) := by decide +kernel
theorem dX3_become_16 : decode cX3_become 16 = .ok (.iload 4, 2) := by decide +kernel
theorem dX3_become_18 : decode cX3_become 18 = .ok (.putfield 23, 3) := by decide +kernel
theorem dX3_become_21 : decode cX3_become 21 = .ok (.aload_n 0, 1) := by decide +kernel
theorem dX3_become_22 : decode cX3_become 22 = .ok (.iload_n 1, 1) := by decide +kernel
theorem dX3_become_23 : decode cX3_become 23 = .ok (.iload_n 2, 1) := by decide +kernel
theorem dX3_become_24 : decode cX3_become 24 = .ok (.iadd, 1) := by decide +kernel
theorem dX3_become_25 : decode cX3_become 25 = .ok (.i2l, 1) := by decide +kernel
theorem dX3_become_26 : decode cX3_become 26 = .ok (.iload_n 2, 1) := by decide +kernel
theorem dX3_become_27 : decode cX3_become 27 = .ok (.iload 4, 2) := by decide +kernel
theorem dX3_become_29 : decode cX3_become 29 = .ok (.iload_n 3, 1) := by decide +kernel
theorem dX3_become_30 : decode cX3_become 30 = .ok (.isub, 1) := by decide +kernel
theorem dX3_become_31 : decode cX3_become 31 = .ok (.invokestatic 26, 3) := by decide +kernel
theorem dX3_become_34 : decode cX3_become 34 = .ok (.lmul, 1) := by decide +kernel
theorem dX3_become_35 : decode cX3_become 35 = .ok (.putfield 30, 3) := by decide +kernel
theorem dX3_become_38 : decode cX3_become 38 = .ok (.return_, 1) := by decide +kernel
theorem dX3_holds_0 : decode cX3_holds 0 = .ok (.iload_n 1, 1) := by decide +kernel
theorem dX3_holds_1 : decode cX3_holds 1 = .ok (.aload_n 0, 1) := by decide +kernel
theorem dX3_holds_2 : decode cX3_holds 2 = .ok (.getfield 20, 3) := by decide +kernel
theorem dX3_holds_5 : decode cX3_holds 5 = .ok (.if_icmp .lt 15, 3) := by decide +kernel
theorem dX3_holds_8 : decode cX3_holds 8 = .ok (.iload_n 1, 1) := by decide +kernel
theorem dX3_holds_9 : decode cX3_holds 9 = .ok (.aload_n 0, 1) := by decide +kernel
theorem dX3_holds_10 : decode cX3_holds 10 = .ok (.getfield 23, 3) := by decide +kernel
theorem dX3_holds_13 : decode cX3_holds 13 = .ok (.if_icmp .gt 7, 3) := by decide +kernel
theorem dX3_holds_16 : decode cX3_holds 16 = .ok (.iconst 1, 1) := by decide +kernel
theorem dX3_holds_17 : decode cX3_holds 17 = .ok (.goto 4, 3) := by decide +kernel
theorem dX3_holds_20 : decode cX3_holds 20 = .ok (.iconst 0, 1) := by decide +kernel
theorem dX3_holds_21 : decode cX3_holds 21 = .ok (.ireturn, 1) := by decide +kernel
theorem dX3_hasCoin_0 : decode cX3_hasCoin 0 = .ok (.lload_n 1, 1) := by decide +kernel
theorem dX3_hasCoin_1 : decode cX3_hasCoin 1 = .ok (.lconst 0, 1) := by decide +kernel
theorem dX3_hasCoin_2 : decode cX3_hasCoin 2 = .ok (.lcmp, 1) := by decide +kernel
theorem dX3_hasCoin_3 : decode cX3_hasCoin 3 = .ok (.ifCond .lt 16, 3) := by decide +kernel
theorem dX3_hasCoin_6 : decode cX3_hasCoin 6 = .ok (.lload_n 1, 1) := by decide +kernel
theorem dX3_hasCoin_7 : decode cX3_hasCoin 7 = .ok (.aload_n 0, 1) := by decide +kernel
theorem dX3_hasCoin_8 : decode cX3_hasCoin 8 = .ok (.getfield 30, 3) := by decide +kernel
theorem dX3_hasCoin_11 : decode cX3_hasCoin 11 = .ok (.lcmp, 1) := by decide +kernel
theorem dX3_hasCoin_12 : decode cX3_hasCoin 12 = .ok (.ifCond .ge 7, 3) := by decide +kernel
theorem dX3_hasCoin_15 : decode cX3_hasCoin 15 = .ok (.iconst 1, 1) := by decide +kernel
theorem dX3_hasCoin_16 : decode cX3_hasCoin 16 = .ok (.goto 4, 3) := by decide +kernel
theorem dX3_hasCoin_19 : decode cX3_hasCoin 19 = .ok (.iconst 0, 1) := by decide +kernel
theorem dX3_hasCoin_20 : decode cX3_hasCoin 20 = .ok (.ireturn, 1) := by decide +kernel
theorem dX3_nearestTo_0 : decode cX3_nearestTo 0 = .ok (.iload_n 1, 1) := by decide +kernel
theorem dX3_nearestTo_1 : decode cX3_nearestTo 1 = .ok (.aload_n 0, 1) := by decide +kernel
theorem dX3_nearestTo_2 : decode cX3_nearestTo 2 = .ok (.getfield 20, 3) := by decide +kernel
theorem dX3_nearestTo_5 : decode cX3_nearestTo 5 = .ok (.if_icmp .ge 10, 3) := by decide +kernel
theorem dX3_nearestTo_8 : decode cX3_nearestTo 8 = .ok (.aload_n 0, 1) := by decide +kernel
theorem dX3_nearestTo_9 : decode cX3_nearestTo 9 = .ok (.getfield 20, 3) := by decide +kernel
theorem dX3_nearestTo_12 : decode cX3_nearestTo 12 = .ok (.goto 19, 3) := by decide +kernel
theorem dX3_nearestTo_15 : decode cX3_nearestTo 15 = .ok (.iload_n 1, 1) := by decide +kernel
theorem dX3_nearestTo_16 : decode cX3_nearestTo 16 = .ok (.aload_n 0, 1) := by decide +kernel
theorem dX3_nearestTo_17 : decode cX3_nearestTo 17 = .ok (.getfield 23, 3) := by decide +kernel
theorem dX3_nearestTo_20 : decode cX3_nearestTo 20 = .ok (.if_icmp .le 10, 3) := by decide +kernel
theorem dX3_nearestTo_23 : decode cX3_nearestTo 23 = .ok (.aload_n 0, 1) := by decide +kernel
theorem dX3_nearestTo_24 : decode cX3_nearestTo 24 = .ok (.getfield 23, 3) := by decide +kernel
theorem dX3_nearestTo_27 : decode cX3_nearestTo 27 = .ok (.goto 4, 3) := by decide +kernel
theorem dX3_nearestTo_30 : decode cX3_nearestTo 30 = .ok (.iload_n 1, 1) := by decide +kernel
theorem dX3_nearestTo_31 : decode cX3_nearestTo 31 = .ok (.ireturn, 1) := by decide +kernel
set_option maxRecDepth 20000 in
theorem ggX3_weightOf_X3_holds : GoodIn wsX3_weightOf wsX3_holds := goodIn_r _ [10, 1, 2, 14, 15, 16, 17, 18] (by decide +kernel) (by decide +kernel)
set_option maxRecDepth 20000 in
theorem gX3_weightOf_X3_holds : GoodIn wsX3_weightOf (wsV RX3 34 RX3 yX3_holds wsX3_holds) := goodIn_app (goodIn_of _ (by decide +kernel)) ggX3_weightOf_X3_holds
set_option maxRecDepth 20000 in
theorem ggX3_weightOf_X3_power : GoodIn wsX3_weightOf wsX3_power := goodIn_r _ [13] (by decide +kernel) (by decide +kernel)
set_option maxRecDepth 20000 in
theorem gX3_weightOf_X3_power : GoodIn wsX3_weightOf (va_wsS RX3 26 yX3_power wsX3_power) := goodIn_app (goodIn_of _ (by decide +kernel)) ggX3_weightOf_X3_power
theorem dX3_weightOf_0 : decode cX3_weightOf 0 = .ok (.aload_n 0, 1) := by decide +kernel
theorem dX3_weightOf_1 : decode cX3_weightOf 1 = .ok (.iload_n 1, 1) := by decide +kernel
theorem dX3_weightOf_2 : decode cX3_weightOf 2 = .ok (.invokevirtual 34, 3) := by decide +kernel
theorem dX3_weightOf_5 : decode cX3_weightOf 5 = .ok (.ifCond .eq 11, 3) := by decide +kernel
theorem dX3_weightOf_8 : decode cX3_weightOf 8 = .ok (.aload_n 0, 1) := by decide +kernel
theorem dX3_weightOf_9 : decode cX3_weightOf 9 = .ok (.iload_n 2, 1) := by decide +kernel
theorem dX3_weightOf_10 : decode cX3_weightOf 10 = .ok (.invokevirtual 34, 3) := by decide +kernel
theorem dX3_weightOf_13 : decode cX3_weightOf 13 = .ok (.ifCond .ne 5, 3) := by decide +kernel
theorem dX3_weightOf_16 : decode cX3_weightOf 16 = .ok (.lconst 0, 1) := by decide +kernel
theorem dX3_weightOf_17 : decode cX3_weightOf 17 = .ok (.lreturn, 1) := by decide +kernel
theorem dX3_weightOf_18 : decode cX3_weightOf 18 = .ok (.aload_n 0, 1) := by decide +kernel
theorem dX3_weightOf_19 : decode cX3_weightOf 19 = .ok (.getfield 20, 3) := by decide +kernel
theorem dX3_weightOf_22 : decode cX3_weightOf 22 = .ok (.aload_n 0, 1) := by decide +kernel
theorem dX3_weightOf_23 : decode cX3_weightOf 23 = .ok (.getfield 23, 3) := by decide +kernel
theorem dX3_weightOf_26 : decode cX3_weightOf 26 = .ok (.if_icmp .ne 8, 3) := by decide +kernel
theorem dX3_weightOf_29 : decode cX3_weightOf 29 = .ok (.aload_n 0, 1) := by decide +kernel
theorem dX3_weightOf_30 : decode cX3_weightOf 30 = .ok (.getfield 30, 3) := by decide +kernel
theorem dX3_weightOf_33 : decode cX3_weightOf 33 = .ok (.lreturn, 1) := by decide +kernel
theorem dX3_weightOf_34 : decode cX3_weightOf 34 = .ok (.aload_n 0, 1) := by decide +kernel
theorem dX3_weightOf_35 : decode cX3_weightOf 35 = .ok (.getfield 23, 3) := by decide +kernel
theorem dX3_weightOf_38 : decode cX3_weightOf 38 = .ok (.aload_n 0, 1) := by decide +kernel
theorem dX3_weightOf_39 : decode cX3_weightOf 39 = .ok (.getfield 20, 3) := by decide +kernel
theorem dX3_weightOf_42 : decode cX3_weightOf 42 = .ok (.isub, 1) := by decide +kernel
theorem dX3_weightOf_43 : decode cX3_weightOf 43 = .ok (.istore_n 3, 1) := by decide +kernel
theorem dX3_weightOf_44 : decode cX3_weightOf 44 = .ok (.iload_n 1, 1) := by decide +kernel
theorem dX3_weightOf_45 : decode cX3_weightOf 45 = .ok (.iload_n 2, 1) := by decide +kernel
theorem dX3_weightOf_46 : decode cX3_weightOf 46 = .ok (.if_icmp .ge 9, 3) := by decide +kernel
theorem dX3_weightOf_49 : decode cX3_weightOf 49 = .ok (.iload_n 2, 1) := by decide +kernel
theorem dX3_weightOf_50 : decode cX3_weightOf 50 = .ok (.iload_n 1, 1) := by decide +kernel
theorem dX3_weightOf_51 : decode cX3_weightOf 51 = .ok (.isub, 1) := by decide +kernel
theorem dX3_weightOf_52 : decode cX3_weightOf 52 = .ok (.goto 6, 3) := by decide +kernel
theorem dX3_weightOf_55 : decode cX3_weightOf 55 = .ok (.iload_n 1, 1) := by decide +kernel
theorem dX3_weightOf_56 : decode cX3_weightOf 56 = .ok (.iload_n 2, 1) := by decide +kernel
theorem dX3_weightOf_57 : decode cX3_weightOf 57 = .ok (.isub, 1) := by decide +kernel
theorem dX3_weightOf_58 : decode cX3_weightOf 58 = .ok (.istore 4, 2) := by decide +kernel
theorem dX3_weightOf_60 : decode cX3_weightOf 60 = .ok (.iload_n 2, 1) := by decide +kernel
theorem dX3_weightOf_61 : decode cX3_weightOf 61 = .ok (.aload_n 0, 1) := by decide +kernel
theorem dX3_weightOf_62 : decode cX3_weightOf 62 = .ok (.getfield 20, 3) := by decide +kernel
theorem dX3_weightOf_65 : decode cX3_weightOf 65 = .ok (.if_icmp .eq 11, 3) := by decide +kernel
theorem dX3_weightOf_68 : decode cX3_weightOf 68 = .ok (.iload_n 2, 1) := by decide +kernel
theorem dX3_weightOf_69 : decode cX3_weightOf 69 = .ok (.aload_n 0, 1) := by decide +kernel
theorem dX3_weightOf_70 : decode cX3_weightOf 70 = .ok (.getfield 23, 3) := by decide +kernel
theorem dX3_weightOf_73 : decode cX3_weightOf 73 = .ok (.if_icmp .ne 27, 3) := by decide +kernel
theorem dX3_weightOf_76 : decode cX3_weightOf 76 = .ok (.aload_n 0, 1) := by decide +kernel
theorem dX3_weightOf_77 : decode cX3_weightOf 77 = .ok (.getfield 17, 3) := by decide +kernel
theorem dX3_weightOf_80 : decode cX3_weightOf 80 = .ok (.iload_n 3, 1) := by decide +kernel
theorem dX3_weightOf_81 : decode cX3_weightOf 81 = .ok (.iconst 1, 1) := by decide +kernel
theorem dX3_weightOf_82 : decode cX3_weightOf 82 = .ok (.iadd, 1) := by decide +kernel
theorem dX3_weightOf_83 : decode cX3_weightOf 83 = .ok (.iload 4, 2) := by decide +kernel
theorem dX3_weightOf_85 : decode cX3_weightOf 85 = .ok (.isub, 1) := by decide +kernel
theorem dX3_weightOf_86 : decode cX3_weightOf 86 = .ok (.invokestatic 26, 3) := by decide +kernel
theorem dX3_weightOf_89 : decode cX3_weightOf 89 = .ok (.aload_n 0, 1) := by decide +kernel
theorem dX3_weightOf_90 : decode cX3_weightOf 90 = .ok (.getfield 13, 3) := by decide +kernel
theorem dX3_weightOf_93 : decode cX3_weightOf 93 = .ok (.iload 4, 2) := by decide +kernel
theorem dX3_weightOf_95 : decode cX3_weightOf 95 = .ok (.invokestatic 26, 3) := by decide +kernel
theorem dX3_weightOf_98 : decode cX3_weightOf 98 = .ok (.lmul, 1) := by decide +kernel
theorem dX3_weightOf_99 : decode cX3_weightOf 99 = .ok (.lreturn, 1) := by decide +kernel
theorem dX3_weightOf_100 : decode cX3_weightOf 100 = .ok (.aload_n 0, 1) := by decide +kernel
theorem dX3_weightOf_101 : decode cX3_weightOf 101 = .ok (.getfield 17, 3) := by decide +kernel
theorem dX3_weightOf_104 : decode cX3_weightOf 104 = .ok (.aload_n 0, 1) := by decide +kernel
theorem dX3_weightOf_105 : decode cX3_weightOf 105 = .ok (.getfield 13, 3) := by decide +kernel
theorem dX3_weightOf_108 : decode cX3_weightOf 108 = .ok (.isub, 1) := by decide +kernel
theorem dX3_weightOf_109 : decode cX3_weightOf 109 = .ok (.i2l, 1) := by decide +kernel
theorem dX3_weightOf_110 : decode cX3_weightOf 110 = .ok (.aload_n 0, 1) := by decide +kernel
theorem dX3_weightOf_111 : decode cX3_weightOf 111 = .ok (.getfield 17, 3) := by decide +kernel
theorem dX3_weightOf_114 : decode cX3_weightOf 114 = .ok (.iload_n 3, 1) := by decide +kernel
theorem dX3_weightOf_115 : decode cX3_weightOf 115 = .ok (.iload 4, 2) := by decide +kernel
theorem dX3_weightOf_117 : decode cX3_weightOf 117 = .ok (.isub, 1) := by decide +kernel
theorem dX3_weightOf_118 : decode cX3_weightOf 118 = .ok (.invokestatic 26, 3) := by decide +kernel
theorem dX3_weightOf_121 : decode cX3_weightOf 121 = .ok (.lmul, 1) := by decide +kernel
theorem dX3_weightOf_122 : decode cX3_weightOf 122 = .ok (.aload_n 0, 1) := by decide +kernel
theorem dX3_weightOf_123 : decode cX3_weightOf 123 = .ok (.getfield 13, 3) := by decide +kernel
theorem dX3_weightOf_126 : decode cX3_weightOf 126 = .ok (.iload 4, 2) := by decide +kernel
theorem dX3_weightOf_128 : decode cX3_weightOf 128 = .ok (.invokestatic 26, 3) := by decide +kernel
theorem dX3_weightOf_131 : decode cX3_weightOf 131 = .ok (.lmul, 1) := by decide +kernel
theorem dX3_weightOf_132 : decode cX3_weightOf 132 = .ok (.lreturn, 1) := by decide +kernel
set_option maxRecDepth 20000 in
theorem ggX3_sumTo_X3_weightOf : GoodIn wsX3_sumTo wsX3_weightOf := goodIn_r _ [7, 1, 2, 8, 9, 10, 11, 12, 13, 6, 14, 15, 16, 17, 18, 19, 20, 21, 22] (by decide +kernel) (by decide +kernel)
set_option maxRecDepth 20000 in
theorem gX3_sumTo_X3_weightOf : GoodIn wsX3_sumTo (wsV RX3 38 RX3 yX3_weightOf wsX3_weightOf) := goodIn_app (goodIn_of _ (by decide +kernel)) ggX3_sumTo_X3_weightOf
theorem dX3_sumTo_0 : decode cX3_sumTo 0 = .ok (.lconst 0, 1) := by decide +kernel
theorem dX3_sumTo_1 : decode cX3_sumTo 1 = .ok (.lstore_n 3, 1) := by decide +kernel
theorem dX3_sumTo_2 : decode cX3_sumTo 2 = .ok (.aload_n 0, 1) := by decide +kernel
theorem dX3_sumTo_3 : decode cX3_sumTo 3 = .ok (.getfield 20, 3) := by decide +kernel
theorem dX3_sumTo_6 : decode cX3_sumTo 6 = .ok (.istore 5, 2) := by decide +kernel
theorem dX3_sumTo_8 : decode cX3_sumTo 8 = .ok (.iload 5, 2) := by decide +kernel
theorem dX3_sumTo_10 : decode cX3_sumTo 10 = .ok (.aload_n 0, 1) := by decide +kernel
theorem dX3_sumTo_11 : decode cX3_sumTo 11 = .ok (.getfield 23, 3) := by decide +kernel
theorem dX3_sumTo_14 : decode cX3_sumTo 14 = .ok (.if_icmp .gt 25, 3) := by decide +kernel
theorem dX3_sumTo_17 : decode cX3_sumTo 17 = .ok (.iload 5, 2) := by decide +kernel
theorem dX3_sumTo_19 : decode cX3_sumTo 19 = .ok (.iload_n 2, 1) := by decide +kernel
theorem dX3_sumTo_20 : decode cX3_sumTo 20 = .ok (.if_icmp .gt 19, 3) := by decide +kernel
theorem dX3_sumTo_23 : decode cX3_sumTo 23 = .ok (.lload_n 3, 1) := by decide +kernel
theorem dX3_sumTo_24 : decode cX3_sumTo 24 = .ok (.aload_n 0, 1) := by decide +kernel
theorem dX3_sumTo_25 : decode cX3_sumTo 25 = .ok (.iload_n 1, 1) := by decide +kernel
theorem dX3_sumTo_26 : decode cX3_sumTo 26 = .ok (.iload 5, 2) := by decide +kernel
theorem dX3_sumTo_28 : decode cX3_sumTo 28 = .ok (.invokevirtual 38, 3) := by decide +kernel
theorem dX3_sumTo_31 : decode cX3_sumTo 31 = .ok (.ladd, 1) := by decide +kernel
theorem dX3_sumTo_32 : decode cX3_sumTo 32 = .ok (.lstore_n 3, 1) := by decide +kernel
theorem dX3_sumTo_33 : decode cX3_sumTo 33 = .ok (.iinc 5 1, 3) := by decide +kernel
theorem dX3_sumTo_36 : decode cX3_sumTo 36 = .ok (.goto (-28), 3) := by decide +kernel
theorem dX3_sumTo_39 : decode cX3_sumTo 39 = .ok (.lload_n 3, 1) := by decide +kernel
theorem dX3_sumTo_40 : decode cX3_sumTo 40 = .ok (.lreturn, 1) := by decide +kernel
set_option maxRecDepth 20000 in
theorem ggX3_outcomeOf_X3_weightOf : GoodIn wsX3_outcomeOf wsX3_weightOf := goodIn_r _ [7, 1, 2, 8, 9, 10, 11, 12, 13, 6, 14, 15, 16, 17, 18, 19, 20, 21, 22] (by decide +kernel) (by decide +kernel)
set_option maxRecDepth 20000 in
theorem gX3_outcomeOf_X3_weightOf : GoodIn wsX3_outcomeOf (wsV RX3 38 RX3 yX3_weightOf wsX3_weightOf) := goodIn_app (goodIn_of _ (by decide +kernel)) ggX3_outcomeOf_X3_weightOf
theorem dX3_outcomeOf_0 : decode cX3_outcomeOf 0 = .ok (.lconst 0, 1) := by decide +kernel
theorem dX3_outcomeOf_1 : decode cX3_outcomeOf 1 = .ok (.lstore 4, 2) := by decide +kernel
theorem dX3_outcomeOf_3 : decode cX3_outcomeOf 3 = .ok (.aload_n 0, 1) := by decide +kernel
theorem dX3_outcomeOf_4 : decode cX3_outcomeOf 4 = .ok (.getfield 20, 3) := by decide +kernel
theorem dX3_outcomeOf_7 : decode cX3_outcomeOf 7 = .ok (.istore 6, 2) := by decide +kernel
theorem dX3_outcomeOf_9 : decode cX3_outcomeOf 9 = .ok (.iload 6, 2) := by decide +kernel
theorem dX3_outcomeOf_11 : decode cX3_outcomeOf 11 = .ok (.aload_n 0, 1) := by decide +kernel
theorem dX3_outcomeOf_12 : decode cX3_outcomeOf 12 = .ok (.getfield 23, 3) := by decide +kernel
theorem dX3_outcomeOf_15 : decode cX3_outcomeOf 15 = .ok (.if_icmp .ge 31, 3) := by decide +kernel
theorem dX3_outcomeOf_18 : decode cX3_outcomeOf 18 = .ok (.lload 4, 2) := by decide +kernel
theorem dX3_outcomeOf_20 : decode cX3_outcomeOf 20 = .ok (.aload_n 0, 1) := by decide +kernel
theorem dX3_outcomeOf_21 : decode cX3_outcomeOf 21 = .ok (.iload_n 1, 1) := by decide +kernel
theorem dX3_outcomeOf_22 : decode cX3_outcomeOf 22 = .ok (.iload 6, 2) := by decide +kernel
theorem dX3_outcomeOf_24 : decode cX3_outcomeOf 24 = .ok (.invokevirtual 38, 3) := by decide +kernel
theorem dX3_outcomeOf_27 : decode cX3_outcomeOf 27 = .ok (.ladd, 1) := by decide +kernel
theorem dX3_outcomeOf_28 : decode cX3_outcomeOf 28 = .ok (.lstore 4, 2) := by decide +kernel
theorem dX3_outcomeOf_30 : decode cX3_outcomeOf 30 = .ok (.lload 4, 2) := by decide +kernel
theorem dX3_outcomeOf_32 : decode cX3_outcomeOf 32 = .ok (.lload_n 2, 1) := by decide +kernel
theorem dX3_outcomeOf_33 : decode cX3_outcomeOf 33 = .ok (.lcmp, 1) := by decide +kernel
theorem dX3_outcomeOf_34 : decode cX3_outcomeOf 34 = .ok (.ifCond .le 6, 3) := by decide +kernel
theorem dX3_outcomeOf_37 : decode cX3_outcomeOf 37 = .ok (.iload 6, 2) := by decide +kernel
theorem dX3_outcomeOf_39 : decode cX3_outcomeOf 39 = .ok (.ireturn, 1) := by decide +kernel
theorem dX3_outcomeOf_40 : decode cX3_outcomeOf 40 = .ok (.iinc 6 1, 3) := by decide +kernel
theorem dX3_outcomeOf_43 : decode cX3_outcomeOf 43 = .ok (.goto (-34), 3) := by decide +kernel
theorem dX3_outcomeOf_46 : decode cX3_outcomeOf 46 = .ok (.aload_n 0, 1) := by decide +kernel
theorem dX3_outcomeOf_47 : decode cX3_outcomeOf 47 = .ok (.getfield 23, 3) := by decide +kernel
theorem dX3_outcomeOf_50 : decode cX3_outcomeOf 50 = .ok (.ireturn, 1) := by decide +kernel
set_option maxRecDepth 20000 in
theorem ggX3_isWithinRatio_X3_weightOf : GoodIn wsX3_isWithinRatio wsX3_weightOf := goodIn_r _ [9, 1, 2, 10, 4, 3, 11, 12, 13, 8, 14, 15, 16, 17, 18, 19, 20, 21, 22] (by decide +kernel) (by decide +kernel)
set_option maxRecDepth 20000 in
theorem gX3_isWithinRatio_X3_weightOf : GoodIn wsX3_isWithinRatio (wsV RX3 38 RX3 yX3_weightOf wsX3_weightOf) := goodIn_app (goodIn_of _ (by decide +kernel)) ggX3_isWithinRatio_X3_weightOf
theorem dX3_isWithinRatio_0 : decode cX3_isWithinRatio 0 = .ok (.aload_n 0, 1) := by decide +kernel
theorem dX3_isWithinRatio_1 : decode cX3_isWithinRatio 1 = .ok (.getfield 20, 3) := by decide +kernel
theorem dX3_isWithinRatio_4 : decode cX3_isWithinRatio 4 = .ok (.istore_n 3, 1) := by decide +kernel
theorem dX3_isWithinRatio_5 : decode cX3_isWithinRatio 5 = .ok (.iload_n 3, 1) := by decide +kernel
theorem dX3_isWithinRatio_6 : decode cX3_isWithinRatio 6 = .ok (.aload_n 0, 1) := by decide +kernel
theorem dX3_isWithinRatio_7 : decode cX3_isWithinRatio 7 = .ok (.getfield 23, 3) := by decide +kernel
theorem dX3_isWithinRatio_10 : decode cX3_isWithinRatio 10 = .ok (.if_icmp .gt 39, 3) := by decide +kernel
theorem dX3_isWithinRatio_13 : decode cX3_isWithinRatio 13 = .ok (.aload_n 0, 1) := by decide +kernel
theorem dX3_isWithinRatio_14 : decode cX3_isWithinRatio 14 = .ok (.getfield 13, 3) := by decide +kernel
theorem dX3_isWithinRatio_17 : decode cX3_isWithinRatio 17 = .ok (.i2l, 1) := by decide +kernel
theorem dX3_isWithinRatio_18 : decode cX3_isWithinRatio 18 = .ok (.aload_n 0, 1) := by decide +kernel
theorem dX3_isWithinRatio_19 : decode cX3_isWithinRatio 19 = .ok (.iload_n 1, 1) := by decide +kernel
theorem dX3_isWithinRatio_20 : decode cX3_isWithinRatio 20 = .ok (.iload_n 3, 1) := by decide +kernel
theorem dX3_isWithinRatio_21 : decode cX3_isWithinRatio 21 = .ok (.invokevirtual 38, 3) := by decide +kernel
theorem dX3_isWithinRatio_24 : decode cX3_isWithinRatio 24 = .ok (.lmul, 1) := by decide +kernel
theorem dX3_isWithinRatio_25 : decode cX3_isWithinRatio 25 = .ok (.aload_n 0, 1) := by decide +kernel
theorem dX3_isWithinRatio_26 : decode cX3_isWithinRatio 26 = .ok (.getfield 17, 3) := by decide +kernel
theorem dX3_isWithinRatio_29 : decode cX3_isWithinRatio 29 = .ok (.i2l, 1) := by decide +kernel
theorem dX3_isWithinRatio_30 : decode cX3_isWithinRatio 30 = .ok (.aload_n 0, 1) := by decide +kernel
theorem dX3_isWithinRatio_31 : decode cX3_isWithinRatio 31 = .ok (.iload_n 2, 1) := by decide +kernel
theorem dX3_isWithinRatio_32 : decode cX3_isWithinRatio 32 = .ok (.iload_n 3, 1) := by decide +kernel
theorem dX3_isWithinRatio_33 : decode cX3_isWithinRatio 33 = .ok (.invokevirtual 38, 3) := by decide +kernel
theorem dX3_isWithinRatio_36 : decode cX3_isWithinRatio 36 = .ok (.lmul, 1) := by decide +kernel
theorem dX3_isWithinRatio_37 : decode cX3_isWithinRatio 37 = .ok (.lcmp, 1) := by decide +kernel
theorem dX3_isWithinRatio_38 : decode cX3_isWithinRatio 38 = .ok (.ifCond .le 5, 3) := by decide +kernel
theorem dX3_isWithinRatio_41 : decode cX3_isWithinRatio 41 = .ok (.iconst 0, 1) := by decide +kernel
theorem dX3_isWithinRatio_42 : decode cX3_isWithinRatio 42 = .ok (.ireturn, 1) := by decide +kernel
theorem dX3_isWithinRatio_43 : decode cX3_isWithinRatio 43 = .ok (.iinc 3 1, 3) := by decide +kernel
theorem dX3_isWithinRatio_46 : decode cX3_isWithinRatio 46 = .ok (.goto (-41), 3) := by decide +kernel
theorem dX3_isWithinRatio_49 : decode cX3_isWithinRatio 49 = .ok (.iconst 1, 1) := by decide +kernel
theorem dX3_isWithinRatio_50 : decode cX3_isWithinRatio 50 = .ok (.ireturn, 1) := by decide +kernel
theorem dX3_power_0 : decode cX3_power 0 = .ok (.lconst 1, 1) := by decide +kernel
theorem dX3_power_1 : decode cX3_power 1 = .ok (.lstore_n 2, 1) := by decide +kernel
theorem dX3_power_2 : decode cX3_power 2 = .ok (.iconst 0, 1) := by decide +kernel
theorem dX3_power_3 : decode cX3_power 3 = .ok (.istore 4, 2) := by decide +kernel
theorem dX3_power_5 : decode cX3_power 5 = .ok (.iload 4, 2) := by decide +kernel
theorem dX3_power_7 : decode cX3_power 7 = .ok (.iload_n 1, 1) := by decide +kernel
theorem dX3_power_8 : decode cX3_power 8 = .ok (.if_icmp .ge 14, 3) := by decide +kernel
theorem dX3_power_11 : decode cX3_power 11 = .ok (.lload_n 2, 1) := by decide +kernel
theorem dX3_power_12 : decode cX3_power 12 = .ok (.iload_n 0, 1) := by decide +kernel
theorem dX3_power_13 : decode cX3_power 13 = .ok (.i2l, 1) := by decide +kernel
theorem dX3_power_14 : decode cX3_power 14 = .ok (.lmul, 1) := by decide +kernel
theorem dX3_power_15 : decode cX3_power 15 = .ok (.lstore_n 2, 1) := by decide +kernel
theorem dX3_power_16 : decode cX3_power 16 = .ok (.iinc 4 1, 3) := by decide +kernel
theorem dX3_power_19 : decode cX3_power 19 = .ok (.goto (-14), 3) := by decide +kernel
theorem dX3_power_22 : decode cX3_power 22 = .ok (.lload_n 2, 1) := by decide +kernel
theorem dX3_power_23 : decode cX3_power 23 = .ok (.lreturn, 1) := by decide +kernel
set_option maxRecDepth 20000 in
theorem ggX4_init_X3_init : GoodIn wsX4_init wsX3_init := goodIn_r _ [26, 27, 2, 3, 28, 29, 30, 9, 31, 32, 33, 34, 35, 36, 37, 38, 39, 78, 79, 80, 81, 82] (by decide +kernel) (by decide +kernel)
set_option maxRecDepth 20000 in
theorem gX4_init_X3_init : GoodIn wsX4_init (wsX3_init) := ggX4_init_X3_init
set_option maxRecDepth 20000 in
theorem ggX4_init_X2_init : GoodIn wsX4_init wsX2_init := goodIn_r _ [41, 42, 2, 3, 43, 44, 45, 46, 47, 48, 49, 50, 4, 51, 52, 87, 88, 83, 84] (by decide +kernel) (by decide +kernel)
set_option maxRecDepth 20000 in
theorem gX4_init_X2_init_n26 : GoodIn wsX4_init (wsX2_init) := ggX4_init_X2_init
set_option maxRecDepth 20000 in
theorem ggX4_init_X0_init : GoodIn wsX4_init wsX0_init := goodIn_r _ [55, 56, 2, 3, 57, 44, 45, 58, 59, 48, 49, 50, 4, 51, 52, 60, 61, 62, 63, 64, 65, 66, 67, 87, 88, 85, 86] (by decide +kernel) (by decide +kernel)
set_option maxRecDepth 20000 in
theorem gX4_init_X0_init : GoodIn wsX4_init (wsX0_init) := ggX4_init_X0_init
theorem dX4_init_0 : decode cX4_init 0 = .ok (.aload_n 0, 1) := by decide +kernel
theorem dX4_init_1 : decode cX4_init 1 = .ok (.invokespecial 1, 3) := by decide +kernel
theorem dX4_init_4 : decode cX4_init 4 = .ok (.aload_n 0, 1) := by decide +kernel
theorem dX4_init_5 : decode cX4_init 5 = .ok (.bipush 60, 2) := by decide +kernel
theorem dX4_init_7 : decode cX4_init 7 = .ok (.newarray .int, 2) := by decide +kernel
theorem dX4_init_9 : decode cX4_init 9 = .ok (.putfield 9, 3) := by decide +kernel
theorem dX4_init_12 : decode cX4_init 12 = .ok (.aload_n 0, 1) := by decide +kernel
theorem dX4_init_13 : decode cX4_init 13 = .ok (.iconst 0, 1) := by decide +kernel
theorem dX4_init_14 : decode cX4_init 14 = .ok (.putfield 13, 3) := by decide +kernel
theorem dX4_init_17 : decode cX4_init 17 = .ok (.aload_n 0, 1) := by decide +kernel
theorem dX4_init_18 : decode cX4_init 18 = .ok (.new 17, 3) := by decide +kernel
theorem dX4_init_21 : decode cX4_init 21 = .ok (.dup, 1) := by decide +kernel
theorem dX4_init_22 : decode cX4_init 22 = .ok (.invokespecial 19, 3) := by decide +kernel
theorem dX4_init_25 : decode cX4_init 25 = .ok (.putfield 20, 3) := by decide +kernel
theorem dX4_init_28 : decode cX4_init 28 = .ok (.aload_n 0, 1) := by decide +kernel
theorem dX4_init_29 : decode cX4_init 29 = .ok (.new 24, 3) := by decide +kernel
theorem dX4_init_32 : decode cX4_init 32 = .ok (.dup, 1) := by decide +kernel
theorem dX4_init_33 : decode cX4_init 33 = .ok (.invokespecial 26, 3) := by decide +kernel
theorem dX4_init_36 : decode cX4_init 36 = .ok (.putfield 27, 3) := by decide +kernel
theorem dX4_init_39 : decode cX4_init 39 = .ok (.aload_n 0, 1) := by decide +kernel
theorem dX4_init_40 : decode cX4_init 40 = .ok (.new 31, 3) := by decide +kernel
theorem dX4_init_43 : decode cX4_init 43 = .ok (.dup, 1) := by decide +kernel
theorem dX4_init_44 : decode cX4_init 44 = .ok (.invokespecial 33, 3) := by decide +kernel
theorem dX4_init_47 : decode cX4_init 47 = .ok (.putfield 34, 3) := by decide +kernel
theorem dX4_init_50 : decode cX4_init 50 = .ok (.aload_n 0, 1) := by decide +kernel
theorem dX4_init_51 : decode cX4_init 51 = .ok (.new 31, 3) := by decide +kernel
theorem dX4_init_54 : decode cX4_init 54 = .ok (.dup, 1) := by decide +kernel
theorem dX4_init_55 : decode cX4_init 55 = .ok (.invokespecial 33, 3) := by decide +kernel
theorem dX4_init_58 : decode cX4_init 58 = .ok (.putfield 38, 3) := by decide +kernel
theorem dX4_init_61 : decode cX4_init 61 = .ok (.aload_n 0, 1) := by decide +kernel
theorem dX4_init_62 : decode cX4_init 62 = .ok (.new 31, 3) := by decide +kernel
theorem dX4_init_65 : decode cX4_init 65 = .ok (.dup, 1) := by decide +kernel
theorem dX4_init_66 : decode cX4_init 66 = .ok (.invokespecial 33, 3) := by decide +kernel
theorem dX4_init_69 : decode cX4_init 69 = .ok (.putfield 41, 3) := by decide +kernel
theorem dX4_init_72 : decode cX4_init 72 = .ok (.aload_n 0, 1) := by decide +kernel
theorem dX4_init_73 : decode cX4_init 73 = .ok (.iconst 0, 1) := by decide +kernel
theorem dX4_init_74 : decode cX4_init 74 = .ok (.putfield 44, 3) := by decide +kernel
theorem dX4_init_77 : decode cX4_init 77 = .ok (.aload_n 0, 1) := by decide +kernel
theorem dX4_init_78 : decode cX4_init 78 = .ok (.iconst 0, 1) := by decide +kernel
theorem dX4_init_79 : decode cX4_init 79 = .ok (.putfield 47, 3) := by decide +kernel
theorem dX4_init_82 : decode cX4_init 82 = .ok (.aload_n 0, 1) := by decide +kernel
theorem dX4_init_83 : decode cX4_init 83 = .ok (.iconst 0, 1) := by decide +kernel
theorem dX4_init_84 : decode cX4_init 84 = .ok (.putfield 50, 3) := by decide +kernel
theorem dX4_init_87 : decode cX4_init 87 = .ok (.return_, 1) := by decide +kernel
theorem dX4_add_0 : decode cX4_add 0 = .ok (.aload_n 0, 1) := by decide +kernel
theorem dX4_add_1 : decode cX4_add 1 = .ok (.getfield 13, 3) := by decide +kernel
theorem dX4_add_4 : decode cX4_add 4 = .ok (.ifCond .lt 15, 3) := by decide +kernel
theorem dX4_add_7 : decode cX4_add 7 = .ok (.aload_n 0, 1) := by decide +kernel
theorem dX4_add_8 : decode cX4_add 8 = .ok (.getfield 13, 3) := by decide +kernel
theorem dX4_add_11 : decode cX4_add 11 = .ok (.aload_n 0, 1) := by decide +kernel
theorem dX4_add_12 : decode cX4_add 12 = .ok (.getfield 9, 3) := by decide +kernel
theorem dX4_add_15 : decode cX4_add 15 = .ok (.arraylength, 1) := by decide +kernel
theorem dX4_add_16 : decode cX4_add 16 = .ok (.if_icmp .lt 5, 3) := by decide +kernel
theorem dX4_add_19 : decode cX4_add 19 = .ok (.iconst (-1), 1) := by decide +kernel
theorem dX4_add_20 : decode cX4_add 20 = .ok (.ireturn, 1) := by decide +kernel
theorem dX4_add_21 : decode cX4_add 21 = .ok (.aload_n 0, 1) := by decide +kernel
theorem dX4_add_22 : decode cX4_add 22 = .ok (.getfield 9, 3) := by decide +kernel
theorem dX4_add_25 : decode cX4_add 25 = .ok (.aload_n 0, 1) := by decide +kernel
theorem dX4_add_26 : decode cX4_add 26 = .ok (.getfield 13, 3) := by decide +kernel
theorem dX4_add_29 : decode cX4_add 29 = .ok (.iload_n 1, 1) := by decide +kernel
theorem dX4_add_30 : decode cX4_add 30 = .ok (.iastore, 1) := by decide +kernel
theorem dX4_add_31 : decode cX4_add 31 = .ok (.aload_n 0, 1) := by decide +kernel
theorem dX4_add_32 : decode cX4_add 32 = .ok (.dup, 1) := by decide +kernel
theorem dX4_add_33 : decode cX4_add 33 = .ok (.getfield 13, 3) := by decide +kernel
theorem dX4_add_36 : decode cX4_add 36 = .ok (.iconst 1, 1) := by decide +kernel
theorem dX4_add_37 : decode cX4_add 37 = .ok (.iadd, 1) := by decide +kernel
theorem dX4_add_38 : decode cX4_add 38 = .ok (.putfield 13, 3) := by decide +kernel
theorem dX4_add_41 : decode cX4_add 41 = .ok (.aload_n 0, 1) := by decide +kernel
theorem dX4_add_42 : decode cX4_add 42 = .ok (.getfield 13, 3) := by decide +kernel
theorem dX4_add_45 : decode cX4_add 45 = .ok (.iconst 1, 1) := by decide +kernel
theorem dX4_add_46 : decode cX4_add 46 = .ok (.isub, 1) := by decide +kernel
theorem dX4_add_47 : decode cX4_add 47 = .ok (.ireturn, 1) := by decide +kernel
theorem dX4_remove_0 : decode cX4_remove 0 = .ok (.iload_n 1, 1) := by decide +kernel
theorem dX4_remove_1 : decode cX4_remove 1 = .ok (.ifCond .lt 20, 3) := by decide +kernel
theorem dX4_remove_4 : decode cX4_remove 4 = .ok (.iload_n 1, 1) := by decide +kernel
theorem dX4_remove_5 : decode cX4_remove 5 = .ok (.aload_n 0, 1) := by decide +kernel
theorem dX4_remove_6 : decode cX4_remove 6 = .ok (.getfield 13, 3) := by decide +kernel
theorem dX4_remove_9 : decode cX4_remove 9 = .ok (.if_icmp .ge 12, 3) := by decide +kernel
theorem dX4_remove_12 : decode cX4_remove 12 = .ok (.iload_n 1, 1) := by decide +kernel
theorem dX4_remove_13 : decode cX4_remove 13 = .ok (.aload_n 0, 1) := by decide +kernel
theorem dX4_remove_14 : decode cX4_remove 14 = .ok (.getfield 9, 3) := by decide +kernel
theorem dX4_remove_17 : decode cX4_remove 17 = .ok (.arraylength, 1) := by decide +kernel
theorem dX4_remove_18 : decode cX4_remove 18 = .ok (.if_icmp .lt 13, 3) := by decide +kernel
theorem dX4_remove_21 : decode cX4_remove 21 = .ok (.new 53, 3) := by decide +kernel
theorem dX4_remove_24 : decode cX4_remove 24 = .ok (.dup, 1) := by decide +kernel
theorem dX4_remove_25 : decode cX4_remove 25 = .ok (.ldc 55, 2) := by decide +kernel
theorem dX4_remove_27 : decode cX4_remove 27 = .ok (.invokespecial 57, 3) := by decide +kernel
theorem dX4_remove_30 : decode cX4_remove 30 = .ok (.athrow, 1) := by decide +kernel
theorem dX4_remove_31 : decode cX4_remove 31 = .ok (.aload_n 0, 1) := by decide +kernel
theorem dX4_remove_32 : decode cX4_remove 32 = .ok (.getfield 9, 3) := by decide +kernel
theorem dX4_remove_35 : decode cX4_remove 35 = .ok (.iload_n 1, 1) := by decide +kernel
theorem dX4_remove_36 : decode cX4_remove 36 = .ok (.iaload, 1) := by decide +kernel
theorem dX4_remove_37 : decode cX4_remove 37 = .ok (.istore_n 2, 1) := by decide +kernel
theorem dX4_remove_38 : decode cX4_remove 38 = .ok (.iload_n 1, 1) := by decide +kernel
theorem dX4_remove_39 : decode cX4_remove 39 = .ok (.iconst 1, 1) := by decide +kernel
theorem dX4_remove_40 : decode cX4_remove 40 = .ok (.iadd, 1) := by decide +kernel
theorem dX4_remove_41 : decode cX4_remove 41 = .ok (.istore_n 3, 1) := by decide +kernel
theorem dX4_remove_42 : decode cX4_remove 42 = .ok (.iload_n 3, 1) := by decide +kernel
theorem dX4_remove_43 : decode cX4_remove 43 = .ok (.aload_n 0, 1) := by decide +kernel
theorem dX4_remove_44 : decode cX4_remove 44 = .ok (.getfield 13, 3) := by decide +kernel
theorem dX4_remove_47 : decode cX4_remove 47 = .ok (.if_icmp .ge 32, 3) := by decide +kernel
theorem dX4_remove_50 : decode cX4_remove 50 = .ok (.iload_n 3, 1) := by decide +kernel
theorem dX4_remove_51 : decode cX4_remove 51 = .ok (.aload_n 0, 1) := by decide +kernel
theorem dX4_remove_52 : decode cX4_remove 52 = .ok (.getfield 9, 3) := by decide +kernel
theorem dX4_remove_55 : decode cX4_remove 55 = .ok (.arraylength, 1) := by decide +kernel
theorem dX4_remove_56 : decode cX4_remove 56 = .ok (.if_icmp .ge 23, 3) := by decide +kernel
theorem dX4_remove_59 : decode cX4_remove 59 = .ok (.aload_n 0, 1) := by decide +kernel
theorem dX4_remove_60 : decode cX4_remove 60 = .ok (.getfield 9, 3) := by decide +kernel
theorem dX4_remove_63 : decode cX4_remove 63 = .ok (.iload_n 3, 1) := by decide +kernel
theorem dX4_remove_64 : decode cX4_remove 64 = .ok (.iconst 1, 1) := by decide +kernel
theorem dX4_remove_65 : decode cX4_remove 65 = .ok (.isub, 1) := by decide +kernel
theorem dX4_remove_66 : decode cX4_remove 66 = .ok (.aload_n 0, 1) := by decide +kernel
theorem dX4_remove_67 : decode cX4_remove 67 = .ok (.getfield 9, 3) := by decide +kernel
theorem dX4_remove_70 : decode cX4_remove 70 = .ok (.iload_n 3, 1) := by decide +kernel
theorem dX4_remove_71 : decode cX4_remove 71 = .ok (.iaload, 1) := by decide +kernel
theorem dX4_remove_72 : decode cX4_remove 72 = .ok (.iastore, 1) := by decide +kernel
theorem dX4_remove_73 : decode cX4_remove 73 = .ok (.iinc 3 1, 3) := by decide +kernel
theorem dX4_remove_76 : decode cX4_remove 76 = .ok (.goto (-34), 3) := by decide +kernel
theorem dX4_remove_79 : decode cX4_remove 79 = .ok (.aload_n 0, 1) := by decide +kernel
theorem dX4_remove_80 : decode cX4_remove 80 = .ok (.dup, 1) := by decide +kernel
theorem dX4_remove_81 : decode cX4_remove 81 = .ok (.getfield 13, 3) := by decide +kernel
theorem dX4_remove_84 : decode cX4_remove 84 = .ok (.iconst 1, 1) := by decide +kernel
theorem dX4_remove_85 : decode cX4_remove 85 = .ok (.isub, 1) := by decide +kernel
theorem dX4_remove_86 : decode cX4_remove 86 = .ok (.putfield 13, 3) := by decide +kernel
theorem dX4_remove_89 : decode cX4_remove 89 = .ok (.iload_n 2, 1) := by decide +kernel
theorem dX4_remove_90 : decode cX4_remove 90 = .ok (.ireturn, 1) := by decide +kernel
theorem dX4_count_0 : decode cX4_count 0 = .ok (.iconst 0, 1) := by decide +kernel
theorem dX4_count_1 : decode cX4_count 1 = .ok (.istore_n 3, 1) := by decide +kernel
theorem dX4_count_2 : decode cX4_count 2 = .ok (.iconst 0, 1) := by decide +kernel
theorem dX4_count_3 : decode cX4_count 3 = .ok (.istore 4, 2) := by decide +kernel
theorem dX4_count_5 : decode cX4_count 5 = .ok (.iload 4, 2) := by decide +kernel
theorem dX4_count_7 : decode cX4_count 7 = .ok (.aload_n 0, 1) := by decide +kernel
theorem dX4_count_8 : decode cX4_count 8 = .ok (.getfield 13, 3) := by decide +kernel
theorem dX4_count_11 : decode cX4_count 11 = .ok (.if_icmp .ge 44, 3) := by decide +kernel
theorem dX4_count_14 : decode cX4_count 14 = .ok (.iload 4, 2) := by decide +kernel
theorem dX4_count_16 : decode cX4_count 16 = .ok (.aload_n 0, 1) := by decide +kernel
theorem dX4_count_17 : decode cX4_count 17 = .ok (.getfield 9, 3) := by decide +kernel
theorem dX4_count_20 : decode cX4_count 20 = .ok (.arraylength, 1) := by decide +kernel
theorem dX4_count_21 : decode cX4_count 21 = .ok (.if_icmp .ge 34, 3) := by decide +kernel
theorem dX4_count_24 : decode cX4_count 24 = .ok (.aload_n 0, 1) := by decide +kernel
theorem dX4_count_25 : decode cX4_count 25 = .ok (.getfield 9, 3) := by decide +kernel
theorem dX4_count_28 : decode cX4_count 28 = .ok (.iload 4, 2) := by decide +kernel
theorem dX4_count_30 : decode cX4_count 30 = .ok (.iaload, 1) := by decide +kernel
theorem dX4_count_31 : decode cX4_count 31 = .ok (.iload_n 1, 1) := by decide +kernel
theorem dX4_count_32 : decode cX4_count 32 = .ok (.if_icmp .lt 17, 3) := by decide +kernel
theorem dX4_count_35 : decode cX4_count 35 = .ok (.aload_n 0, 1) := by decide +kernel
theorem dX4_count_36 : decode cX4_count 36 = .ok (.getfield 9, 3) := by decide +kernel
theorem dX4_count_39 : decode cX4_count 39 = .ok (.iload 4, 2) := by decide +kernel
theorem dX4_count_41 : decode cX4_count 41 = .ok (.iaload, 1) := by decide +kernel
theorem dX4_count_42 : decode cX4_count 42 = .ok (.iload_n 2, 1) := by decide +kernel
theorem dX4_count_43 : decode cX4_count 43 = .ok (.if_icmp .gt 6, 3) := by decide +kernel
theorem dX4_count_46 : decode cX4_count 46 = .ok (.iinc 3 1, 3) := by decide +kernel
theorem dX4_count_49 : decode cX4_count 49 = .ok (.iinc 4 1, 3) := by decide +kernel
theorem dX4_count_52 : decode cX4_count 52 = .ok (.goto (-47), 3) := by decide +kernel
theorem dX4_count_55 : decode cX4_count 55 = .ok (.iload_n 3, 1) := by decide +kernel
theorem dX4_count_56 : decode cX4_count 56 = .ok (.ireturn, 1) := by decide +kernel
set_option maxRecDepth 20000 in
theorem ggX4_table_X3_isAllowed : GoodIn wsX4_table wsX3_isAllowed := goodIn_r _ [8] (by decide +kernel) (by decide +kernel)
set_option maxRecDepth 20000 in
theorem gX4_table_X3_isAllowed : GoodIn wsX4_table (va_wsS RX4 60 yX3_isAllowed wsX3_isAllowed) := goodIn_app (goodIn_of _ (by decide +kernel)) ggX4_table_X3_isAllowed
set_option maxRecDepth 20000 in
theorem ggX4_table_X3_become : GoodIn wsX4_table wsX3_become := goodIn_r _ [12, 13, 14, 15, 16, 17, 18, 19, 7, 20, 31, 32, 33, 34, 35] (by decide +kernel) (by decide +kernel)
set_option maxRecDepth 20000 in
theorem gX4_table_X3_become : GoodIn wsX4_table (wsV RX4 69 RX3 yX3_become wsX3_become) := goodIn_app (goodIn_of _ (by decide +kernel)) ggX4_table_X3_become
theorem dX4_table_0 : decode cX4_table 0 = .ok (.iload_n 1, 1) := by decide +kernel
theorem dX4_table_1 : decode cX4_table 1 = .ok (.iload_n 2, 1) := by decide +kernel
theorem dX4_table_2 : decode cX4_table 2 = .ok (.iload_n 3, 1) := by decide +kernel
theorem dX4_table_3 : decode cX4_table 3 = .ok (.iload 4, 2) := by decide +kernel
theorem dX4_table_5 : decode cX4_table 5 = .ok (.invokestatic 60, 3) := by decide +kernel
theorem dX4_table_8 : decode cX4_table 8 = .ok (.ifCond .ne 13, 3) := by decide +kernel
theorem dX4_table_11 : decode cX4_table 11 = .ok (.new 64, 3) := by decide +kernel
theorem dX4_table_14 : decode cX4_table 14 = .ok (.dup, 1) := by decide +kernel
theorem dX4_table_15 : decode cX4_table 15 = .ok (.ldc 66, 2) := by decide +kernel
theorem dX4_table_17 : decode cX4_table 17 = .ok (.invokespecial 68, 3) := by decide +kernel
theorem dX4_table_20 : decode cX4_table 20 = .ok (.athrow, 1) := by decide +kernel
theorem dX4_table_21 : decode cX4_table 21 = .ok (.aload_n 0, 1) := by decide +kernel
theorem dX4_table_22 : decode cX4_table 22 = .ok (.getfield 20, 3) := by decide +kernel
theorem dX4_table_25 : decode cX4_table 25 = .ok (.iload_n 1, 1) := by decide +kernel
theorem dX4_table_26 : decode cX4_table 26 = .ok (.iload_n 2, 1) := by decide +kernel
theorem dX4_table_27 : decode cX4_table 27 = .ok (.iload_n 3, 1) := by decide +kernel
theorem dX4_table_28 : decode cX4_table 28 = .ok (.iload 4, 2) := by decide +kernel
theorem dX4_table_30 : decode cX4_table 30 = .ok (.invokevirtual 69, 3) := by decide +kernel
theorem dX4_table_33 : decode cX4_table 33 = .ok (.aload_n 0, 1) := by decide +kernel
theorem dX4_table_34 : decode cX4_table 34 = .ok (.getfield 20, 3) := by decide +kernel
theorem dX4_table_37 : decode cX4_table 37 = .ok (.getfield 73, 3) := by decide +kernel
theorem dX4_table_40 : decode cX4_table 40 = .ok (.lreturn, 1) := by decide +kernel
theorem dX4_all_0 : decode cX4_all 0 = .ok (.aload_n 0, 1) := by decide +kernel
theorem dX4_all_1 : decode cX4_all 1 = .ok (.getfield 20, 3) := by decide +kernel
theorem dX4_all_4 : decode cX4_all 4 = .ok (.getfield 73, 3) := by decide +kernel
theorem dX4_all_7 : decode cX4_all 7 = .ok (.lreturn, 1) := by decide +kernel
set_option maxRecDepth 20000 in
theorem ggX4_weight_X3_weightOf : GoodIn wsX4_weight wsX3_weightOf := goodIn_r _ [6, 7, 8, 9, 10, 11, 12, 13, 14, 5, 15, 16, 17, 18, 29, 30, 31, 32, 33] (by decide +kernel) (by decide +kernel)
set_option maxRecDepth 20000 in
theorem gX4_weight_X3_weightOf : GoodIn wsX4_weight (wsV RX4 77 RX3 yX3_weightOf wsX3_weightOf) := goodIn_app (goodIn_of _ (by decide +kernel)) ggX4_weight_X3_weightOf
theorem dX4_weight_0 : decode cX4_weight 0 = .ok (.aload_n 0, 1) := by decide +kernel
theorem dX4_weight_1 : decode cX4_weight 1 = .ok (.getfield 20, 3) := by decide +kernel
theorem dX4_weight_4 : decode cX4_weight 4 = .ok (.iload_n 1, 1) := by decide +kernel
theorem dX4_weight_5 : decode cX4_weight 5 = .ok (.iload_n 2, 1) := by decide +kernel
theorem dX4_weight_6 : decode cX4_weight 6 = .ok (.invokevirtual 77, 3) := by decide +kernel
theorem dX4_weight_9 : decode cX4_weight 9 = .ok (.lreturn, 1) := by decide +kernel
set_option maxRecDepth 20000 in
theorem ggX4_upTo_X3_sumTo : GoodIn wsX4_upTo wsX3_sumTo := goodIn_r _ [6, 7, 8, 9, 10, 11, 5, 12, 13, 14, 15, 16, 17, 18, 19, 20, 21, 22, 33, 34, 35, 36, 37] (by decide +kernel) (by decide +kernel)
set_option maxRecDepth 20000 in
theorem gX4_upTo_X3_sumTo : GoodIn wsX4_upTo (wsV RX4 81 RX3 yX3_sumTo wsX3_sumTo) := goodIn_app (goodIn_of _ (by decide +kernel)) ggX4_upTo_X3_sumTo
theorem dX4_upTo_0 : decode cX4_upTo 0 = .ok (.aload_n 0, 1) := by decide +kernel
theorem dX4_upTo_1 : decode cX4_upTo 1 = .ok (.getfield 20, 3) := by decide +kernel
theorem dX4_upTo_4 : decode cX4_upTo 4 = .ok (.iload_n 1, 1) := by decide +kernel
theorem dX4_upTo_5 : decode cX4_upTo 5 = .ok (.iload_n 2, 1) := by decide +kernel
theorem dX4_upTo_6 : decode cX4_upTo 6 = .ok (.invokevirtual 81, 3) := by decide +kernel
theorem dX4_upTo_9 : decode cX4_upTo 9 = .ok (.lreturn, 1) := by decide +kernel
set_option maxRecDepth 20000 in
theorem ggX4_draw_X3_holds : GoodIn wsX4_draw wsX3_holds := goodIn_r _ [8, 9, 10, 40, 41, 42, 43, 44] (by decide +kernel) (by decide +kernel)
set_option maxRecDepth 20000 in
theorem gX4_draw_X3_holds : GoodIn wsX4_draw (wsV RX4 84 RX3 yX3_holds wsX3_holds) := goodIn_app (goodIn_of _ (by decide +kernel)) ggX4_draw_X3_holds
set_option maxRecDepth 20000 in
theorem ggX4_draw_X3_hasCoin : GoodIn wsX4_draw wsX3_hasCoin := goodIn_r _ [14, 15, 40, 41, 42, 43, 44] (by decide +kernel) (by decide +kernel)
set_option maxRecDepth 20000 in
theorem gX4_draw_X3_hasCoin : GoodIn wsX4_draw (wsV RX4 88 RX3 yX3_hasCoin wsX3_hasCoin) := goodIn_app (goodIn_of _ (by decide +kernel)) ggX4_draw_X3_hasCoin
set_option maxRecDepth 20000 in
theorem ggX4_draw_X3_outcomeOf : GoodIn wsX4_draw wsX3_outcomeOf := goodIn_r _ [19, 9, 10, 20, 21, 22, 7, 23, 15, 24, 25, 26, 5, 6, 8, 27, 28, 29, 40, 41, 42, 43, 44] (by decide +kernel) (by decide +kernel)
set_option maxRecDepth 20000 in
theorem gX4_draw_X3_outcomeOf : GoodIn wsX4_draw (wsV RX4 94 RX3 yX3_outcomeOf wsX3_outcomeOf) := goodIn_app (goodIn_of _ (by decide +kernel)) ggX4_draw_X3_outcomeOf
theorem dX4_draw_0 : decode cX4_draw 0 = .ok (.aload_n 0, 1) := by decide +kernel
theorem dX4_draw_1 : decode cX4_draw 1 = .ok (.getfield 20, 3) := by decide +kernel
theorem dX4_draw_4 : decode cX4_draw 4 = .ok (.iload_n 1, 1) := by decide +kernel
theorem dX4_draw_5 : decode cX4_draw 5 = .ok (.invokevirtual 84, 3) := by decide +kernel
theorem dX4_draw_8 : decode cX4_draw 8 = .ok (.ifCond .eq 14, 3) := by decide +kernel
theorem dX4_draw_11 : decode cX4_draw 11 = .ok (.aload_n 0, 1) := by decide +kernel
theorem dX4_draw_12 : decode cX4_draw 12 = .ok (.getfield 20, 3) := by decide +kernel
theorem dX4_draw_15 : decode cX4_draw 15 = .ok (.lload_n 2, 1) := by decide +kernel
theorem dX4_draw_16 : decode cX4_draw 16 = .ok (.invokevirtual 88, 3) := by decide +kernel
theorem dX4_draw_19 : decode cX4_draw 19 = .ok (.ifCond .ne 13, 3) := by decide +kernel
theorem dX4_draw_22 : decode cX4_draw 22 = .ok (.new 64, 3) := by decide +kernel
theorem dX4_draw_25 : decode cX4_draw 25 = .ok (.dup, 1) := by decide +kernel
theorem dX4_draw_26 : decode cX4_draw 26 = .ok (.ldc 92, 2) := by decide +kernel
theorem dX4_draw_28 : decode cX4_draw 28 = .ok (.invokespecial 68, 3) := by decide +kernel
theorem dX4_draw_31 : decode cX4_draw 31 = .ok (.athrow, 1) := by decide +kernel
theorem dX4_draw_32 : decode cX4_draw 32 = .ok (.aload_n 0, 1) := by decide +kernel
theorem dX4_draw_33 : decode cX4_draw 33 = .ok (.getfield 20, 3) := by decide +kernel
theorem dX4_draw_36 : decode cX4_draw 36 = .ok (.iload_n 1, 1) := by decide +kernel
theorem dX4_draw_37 : decode cX4_draw 37 = .ok (.lload_n 2, 1) := by decide +kernel
theorem dX4_draw_38 : decode cX4_draw 38 = .ok (.invokevirtual 94, 3) := by decide +kernel
theorem dX4_draw_41 : decode cX4_draw 41 = .ok (.ireturn, 1) := by decide +kernel
set_option maxRecDepth 20000 in
theorem ggX4_isNear_X3_holds : GoodIn wsX4_isNear wsX3_holds := goodIn_r _ [8, 9, 10, 36, 37, 38, 39, 40] (by decide +kernel) (by decide +kernel)
set_option maxRecDepth 20000 in
theorem gX4_isNear_X3_holds : GoodIn wsX4_isNear (wsV RX4 84 RX3 yX3_holds wsX3_holds) := goodIn_app (goodIn_of _ (by decide +kernel)) ggX4_isNear_X3_holds
set_option maxRecDepth 20000 in
theorem ggX4_isNear_X3_isWithinRatio : GoodIn wsX4_isNear wsX3_isWithinRatio := goodIn_r _ [14, 9, 10, 15, 16, 17, 18, 19, 7, 20, 21, 22, 5, 6, 8, 23, 24, 25, 36, 37, 38, 39, 40] (by decide +kernel) (by decide +kernel)
set_option maxRecDepth 20000 in
theorem gX4_isNear_X3_isWithinRatio : GoodIn wsX4_isNear (wsV RX4 100 RX3 yX3_isWithinRatio wsX3_isWithinRatio) := goodIn_app (goodIn_of _ (by decide +kernel)) ggX4_isNear_X3_isWithinRatio
theorem dX4_isNear_0 : decode cX4_isNear 0 = .ok (.aload_n 0, 1) := by decide +kernel
theorem dX4_isNear_1 : decode cX4_isNear 1 = .ok (.getfield 20, 3) := by decide +kernel
theorem dX4_isNear_4 : decode cX4_isNear 4 = .ok (.iload_n 1, 1) := by decide +kernel
theorem dX4_isNear_5 : decode cX4_isNear 5 = .ok (.invokevirtual 84, 3) := by decide +kernel
theorem dX4_isNear_8 : decode cX4_isNear 8 = .ok (.ifCond .eq 14, 3) := by decide +kernel
theorem dX4_isNear_11 : decode cX4_isNear 11 = .ok (.aload_n 0, 1) := by decide +kernel
theorem dX4_isNear_12 : decode cX4_isNear 12 = .ok (.getfield 20, 3) := by decide +kernel
theorem dX4_isNear_15 : decode cX4_isNear 15 = .ok (.iload_n 2, 1) := by decide +kernel
theorem dX4_isNear_16 : decode cX4_isNear 16 = .ok (.invokevirtual 84, 3) := by decide +kernel
theorem dX4_isNear_19 : decode cX4_isNear 19 = .ok (.ifCond .ne 13, 3) := by decide +kernel
theorem dX4_isNear_22 : decode cX4_isNear 22 = .ok (.new 64, 3) := by decide +kernel
theorem dX4_isNear_25 : decode cX4_isNear 25 = .ok (.dup, 1) := by decide +kernel
theorem dX4_isNear_26 : decode cX4_isNear 26 = .ok (.ldc 98, 2) := by decide +kernel
theorem dX4_isNear_28 : decode cX4_isNear 28 = .ok (.invokespecial 68, 3) := by decide +kernel
theorem dX4_isNear_31 : decode cX4_isNear 31 = .ok (.athrow, 1) := by decide +kernel
theorem dX4_isNear_32 : decode cX4_isNear 32 = .ok (.aload_n 0, 1) := by decide +kernel
theorem dX4_isNear_33 : decode cX4_isNear 33 = .ok (.getfield 20, 3) := by decide +kernel
theorem dX4_isNear_36 : decode cX4_isNear 36 = .ok (.iload_n 1, 1) := by decide +kernel
theorem dX4_isNear_37 : decode cX4_isNear 37 = .ok (.iload_n 2, 1) := by decide +kernel
theorem dX4_isNear_38 : decode cX4_isNear 38 = .ok (.invokevirtual 100, 3) := by decide +kernel
theorem dX4_isNear_41 : decode cX4_isNear 41 = .ok (.ireturn, 1) := by decide +kernel
set_option maxRecDepth 20000 in
theorem ggX4_budget_X4_isGrant : GoodIn wsX4_budget wsX4_isGrant := goodIn_r _ [12, 13, 14, 11, 15] (by decide +kernel) (by decide +kernel)
set_option maxRecDepth 20000 in
theorem gX4_budget_X4_isGrant : GoodIn wsX4_budget (va_wsS RX4 104 yX4_isGrant wsX4_isGrant) := goodIn_app (goodIn_of _ (by decide +kernel)) ggX4_budget_X4_isGrant
set_option maxRecDepth 20000 in
theorem ggX4_budget_X0_become : GoodIn wsX4_budget wsX0_become := goodIn_r _ [20, 21, 22, 23, 24, 19, 25, 26, 27, 28, 29, 30, 31, 32, 33, 34, 35, 36, 37, 38, 39, 40, 41, 42, 43, 44, 45, 46, 47, 48, 59, 60, 61, 62] (by decide +kernel) (by decide +kernel)
set_option maxRecDepth 20000 in
theorem gX4_budget_X0_become : GoodIn wsX4_budget (wsV RX4 109 RX0 yX0_become wsX0_become) := goodIn_app (goodIn_of _ (by decide +kernel)) ggX4_budget_X0_become
theorem dX4_budget_0 : decode cX4_budget 0 = .ok (.iload_n 1, 1) := by decide +kernel
theorem dX4_budget_1 : decode cX4_budget 1 = .ok (.iload_n 2, 1) := by decide +kernel
theorem dX4_budget_2 : decode cX4_budget 2 = .ok (.invokestatic 104, 3) := by decide +kernel
theorem dX4_budget_5 : decode cX4_budget 5 = .ok (.ifCond .ne 13, 3) := by decide +kernel
theorem dX4_budget_8 : decode cX4_budget 8 = .ok (.new 64, 3) := by decide +kernel
theorem dX4_budget_11 : decode cX4_budget 11 = .ok (.dup, 1) := by decide +kernel
theorem dX4_budget_12 : decode cX4_budget 12 = .ok (.ldc 107, 2) := by decide +kernel
theorem dX4_budget_14 : decode cX4_budget 14 = .ok (.invokespecial 68, 3) := by decide +kernel
theorem dX4_budget_17 : decode cX4_budget 17 = .ok (.athrow, 1) := by decide +kernel
theorem dX4_budget_18 : decode cX4_budget 18 = .ok (.aload_n 0, 1) := by decide +kernel
theorem dX4_budget_19 : decode cX4_budget 19 = .ok (.getfield 34, 3) := by decide +kernel
theorem dX4_budget_22 : decode cX4_budget 22 = .ok (.iload_n 1, 1) := by decide +kernel
theorem dX4_budget_23 : decode cX4_budget 23 = .ok (.iload_n 2, 1) := by decide +kernel
theorem dX4_budget_24 : decode cX4_budget 24 = .ok (.invokevirtual 109, 3) := by decide +kernel
theorem dX4_budget_27 : decode cX4_budget 27 = .ok (.aload_n 0, 1) := by decide +kernel
theorem dX4_budget_28 : decode cX4_budget 28 = .ok (.getfield 38, 3) := by decide +kernel
theorem dX4_budget_31 : decode cX4_budget 31 = .ok (.iconst 0, 1) := by decide +kernel
theorem dX4_budget_32 : decode cX4_budget 32 = .ok (.iconst 1, 1) := by decide +kernel
theorem dX4_budget_33 : decode cX4_budget 33 = .ok (.invokevirtual 109, 3) := by decide +kernel
theorem dX4_budget_36 : decode cX4_budget 36 = .ok (.aload_n 0, 1) := by decide +kernel
theorem dX4_budget_37 : decode cX4_budget 37 = .ok (.getfield 41, 3) := by decide +kernel
theorem dX4_budget_40 : decode cX4_budget 40 = .ok (.iload_n 1, 1) := by decide +kernel
theorem dX4_budget_41 : decode cX4_budget 41 = .ok (.iload_n 2, 1) := by decide +kernel
theorem dX4_budget_42 : decode cX4_budget 42 = .ok (.invokevirtual 109, 3) := by decide +kernel
theorem dX4_budget_45 : decode cX4_budget 45 = .ok (.aload_n 0, 1) := by decide +kernel
theorem dX4_budget_46 : decode cX4_budget 46 = .ok (.iconst 0, 1) := by decide +kernel
theorem dX4_budget_47 : decode cX4_budget 47 = .ok (.putfield 44, 3) := by decide +kernel
theorem dX4_budget_50 : decode cX4_budget 50 = .ok (.aload_n 0, 1) := by decide +kernel
theorem dX4_budget_51 : decode cX4_budget 51 = .ok (.iconst 0, 1) := by decide +kernel
theorem dX4_budget_52 : decode cX4_budget 52 = .ok (.putfield 47, 3) := by decide +kernel
theorem dX4_budget_55 : decode cX4_budget 55 = .ok (.aload_n 0, 1) := by decide +kernel
theorem dX4_budget_56 : decode cX4_budget 56 = .ok (.iconst 0, 1) := by decide +kernel
theorem dX4_budget_57 : decode cX4_budget 57 = .ok (.putfield 50, 3) := by decide +kernel
theorem dX4_budget_60 : decode cX4_budget 60 = .ok (.return_, 1) := by decide +kernel
set_option maxRecDepth 20000 in
theorem ggX4_raise_X4_isGrant : GoodIn wsX4_raise wsX4_isGrant := goodIn_r _ [8, 9, 10, 7, 11] (by decide +kernel) (by decide +kernel)
set_option maxRecDepth 20000 in
theorem gX4_raise_X4_isGrant : GoodIn wsX4_raise (va_wsS RX4 104 yX4_isGrant wsX4_isGrant) := goodIn_app (goodIn_of _ (by decide +kernel)) ggX4_raise_X4_isGrant
set_option maxRecDepth 20000 in
theorem ggX4_raise_X0_increase : GoodIn wsX4_raise wsX0_increase := goodIn_r _ [16, 17, 18, 19, 15, 20, 21, 22, 23, 24, 25, 26, 27, 28, 29, 30, 31, 32, 33, 34, 35, 36, 37, 38, 39, 40, 41, 42, 43, 44, 45, 46, 47, 48, 49, 50, 51, 52, 53, 54, 55, 56, 57, 58, 59, 60, 71, 72, 73, 74] (by decide +kernel) (by decide +kernel)
set_option maxRecDepth 20000 in
theorem gX4_raise_X0_increase : GoodIn wsX4_raise (wsV RX4 112 RX0 yX0_increase wsX0_increase) := goodIn_app (goodIn_of _ (by decide +kernel)) ggX4_raise_X0_increase
theorem dX4_raise_0 : decode cX4_raise 0 = .ok (.iload_n 1, 1) := by decide +kernel
theorem dX4_raise_1 : decode cX4_raise 1 = .ok (.iload_n 2, 1) := by decide +kernel
theorem dX4_raise_2 : decode cX4_raise 2 = .ok (.invokestatic 104, 3) := by decide +kernel
theorem dX4_raise_5 : decode cX4_raise 5 = .ok (.ifCond .ne 13, 3) := by decide +kernel
theorem dX4_raise_8 : decode cX4_raise 8 = .ok (.new 64, 3) := by decide +kernel
theorem dX4_raise_11 : decode cX4_raise 11 = .ok (.dup, 1) := by decide +kernel
theorem dX4_raise_12 : decode cX4_raise 12 = .ok (.ldc 107, 2) := by decide +kernel
theorem dX4_raise_14 : decode cX4_raise 14 = .ok (.invokespecial 68, 3) := by decide +kernel
theorem dX4_raise_17 : decode cX4_raise 17 = .ok (.athrow, 1) := by decide +kernel
theorem dX4_raise_18 : decode cX4_raise 18 = .ok (.aload_n 0, 1) := by decide +kernel
theorem dX4_raise_19 : decode cX4_raise 19 = .ok (.getfield 34, 3) := by decide +kernel
theorem dX4_raise_22 : decode cX4_raise 22 = .ok (.iload_n 1, 1) := by decide +kernel
theorem dX4_raise_23 : decode cX4_raise 23 = .ok (.iload_n 2, 1) := by decide +kernel
theorem dX4_raise_24 : decode cX4_raise 24 = .ok (.invokevirtual 112, 3) := by decide +kernel
theorem dX4_raise_27 : decode cX4_raise 27 = .ok (.aload_n 0, 1) := by decide +kernel
theorem dX4_raise_28 : decode cX4_raise 28 = .ok (.getfield 41, 3) := by decide +kernel
theorem dX4_raise_31 : decode cX4_raise 31 = .ok (.iload_n 1, 1) := by decide +kernel
theorem dX4_raise_32 : decode cX4_raise 32 = .ok (.iload_n 2, 1) := by decide +kernel
theorem dX4_raise_33 : decode cX4_raise 33 = .ok (.invokevirtual 112, 3) := by decide +kernel
theorem dX4_raise_36 : decode cX4_raise 36 = .ok (.return_, 1) := by decide +kernel
set_option maxRecDepth 20000 in
theorem ggX4_isEnough_X4_isCost : GoodIn wsX4_isEnough wsX4_isCost := goodIn_r _ [8, 9, 10, 7, 11] (by decide +kernel) (by decide +kernel)
set_option maxRecDepth 20000 in
theorem gX4_isEnough_X4_isCost : GoodIn wsX4_isEnough (va_wsS RX4 115 yX4_isCost wsX4_isCost) := goodIn_app (goodIn_of _ (by decide +kernel)) ggX4_isEnough_X4_isCost
set_option maxRecDepth 20000 in
theorem ggX4_isEnough_X2_reaches : GoodIn wsX4_isEnough wsX2_reaches := goodIn_r _ [16, 17, 18, 19, 20, 21, 22, 23, 24, 25, 26, 27, 28, 29, 30, 31, 32, 33, 34, 35, 36, 37, 38, 39, 40, 41, 42, 43, 44, 45, 46, 47, 48, 49, 50, 51, 62, 63, 64, 65, 66, 67, 68, 69, 70] (by decide +kernel) (by decide +kernel)
set_option maxRecDepth 20000 in
theorem gX4_isEnough_X2_reaches : GoodIn wsX4_isEnough (wsV RX4 120 RX2 yX2_reaches wsX2_reaches) := goodIn_app (goodIn_of _ (by decide +kernel)) ggX4_isEnough_X2_reaches
end
section
theorem dX4_isEnough_0 : decode cX4_isEnough 0 = .ok (.iload_n 1, 1) := by decide +kernel
theorem dX4_isEnough_1 : decode cX4_isEnough 1 = .ok (.iload_n 2, 1) := by decide +kernel
theorem dX4_isEnough_2 : decode cX4_isEnough 2 = .ok (.invokestatic 115, 3) := by decide +kernel
theorem dX4_isEnough_5 : decode cX4_isEnough 5 = .ok (.ifCond .ne 13, 3) := by decide +kernel
theorem dX4_isEnough_8 : decode cX4_isEnough 8 = .ok (.new 64, 3) := by decide +kernel
theorem dX4_isEnough_11 : decode cX4_isEnough 11 = .ok (.dup, 1) := by decide +kernel
theorem dX4_isEnough_12 : decode cX4_isEnough 12 = .ok (.ldc 118, 2) := by decide +kernel
theorem dX4_isEnough_14 : decode cX4_isEnough 14 = .ok (.invokespecial 68, 3) := by decide +kernel
theorem dX4_isEnough_17 : decode cX4_isEnough 17 = .ok (.athrow, 1) := by decide +kernel
theorem dX4_isEnough_18 : decode cX4_isEnough 18 = .ok (.aload_n 0, 1) := by decide +kernel
theorem dX4_isEnough_19 : decode cX4_isEnough 19 = .ok (.getfield 27, 3) := by decide +kernel
theorem dX4_isEnough_22 : decode cX4_isEnough 22 = .ok (.aload_n 0, 1) := by decide +kernel
theorem dX4_isEnough_23 : decode cX4_isEnough 23 = .ok (.getfield 20, 3) := by decide +kernel
theorem dX4_isEnough_26 : decode cX4_isEnough 26 = .ok (.iload_n 1, 1) := by decide +kernel
theorem dX4_isEnough_27 : decode cX4_isEnough 27 = .ok (.iload_n 2, 1) := by decide +kernel
theorem dX4_isEnough_28 : decode cX4_isEnough 28 = .ok (.invokevirtual 120, 3) := by decide +kernel
theorem dX4_isEnough_31 : decode cX4_isEnough 31 = .ok (.ireturn, 1) := by decide +kernel
set_option maxRecDepth 20000 in
theorem ggX4_least_X4_isDenominator : GoodIn wsX4_least wsX4_isDenominator := goodIn_r _ [8] (by decide +kernel) (by decide +kernel)
set_option maxRecDepth 20000 in
theorem gX4_least_X4_isDenominator : GoodIn wsX4_least (va_wsS RX4 124 yX4_isDenominator wsX4_isDenominator) := goodIn_app (goodIn_of _ (by decide +kernel)) ggX4_least_X4_isDenominator
set_option maxRecDepth 20000 in
theorem ggX4_least_X2_reaches : GoodIn wsX4_least wsX2_reaches := goodIn_r _ [13, 14, 15, 16, 17, 18, 19, 20, 21, 22, 23, 24, 25, 26, 27, 28, 29, 30, 31, 32, 33, 34, 35, 36, 37, 38, 39, 40, 41, 42, 43, 44, 45, 46, 47, 48, 59, 60, 61, 62, 63, 64, 65, 66, 67] (by decide +kernel) (by decide +kernel)
set_option maxRecDepth 20000 in
theorem gX4_least_X2_reaches : GoodIn wsX4_least (wsV RX4 120 RX2 yX2_reaches wsX2_reaches) := goodIn_app (goodIn_of _ (by decide +kernel)) ggX4_least_X2_reaches
theorem dX4_least_0 : decode cX4_least 0 = .ok (.iload_n 1, 1) := by decide +kernel
theorem dX4_least_1 : decode cX4_least 1 = .ok (.invokestatic 124, 3) := by decide +kernel
theorem dX4_least_4 : decode cX4_least 4 = .ok (.ifCond .ne 13, 3) := by decide +kernel
theorem dX4_least_7 : decode cX4_least 7 = .ok (.new 64, 3) := by decide +kernel
theorem dX4_least_10 : decode cX4_least 10 = .ok (.dup, 1) := by decide +kernel
theorem dX4_least_11 : decode cX4_least 11 = .ok (.ldc 127, 2) := by decide +kernel
theorem dX4_least_13 : decode cX4_least 13 = .ok (.invokespecial 68, 3) := by decide +kernel
theorem dX4_least_16 : decode cX4_least 16 = .ok (.athrow, 1) := by decide +kernel
theorem dX4_least_17 : decode cX4_least 17 = .ok (.iconst 0, 1) := by decide +kernel
theorem dX4_least_18 : decode cX4_least 18 = .ok (.istore_n 2, 1) := by decide +kernel
theorem dX4_least_19 : decode cX4_least 19 = .ok (.iconst 3, 1) := by decide +kernel
theorem dX4_least_20 : decode cX4_least 20 = .ok (.iload_n 1, 1) := by decide +kernel
theorem dX4_least_21 : decode cX4_least 21 = .ok (.imul, 1) := by decide +kernel
theorem dX4_least_22 : decode cX4_least 22 = .ok (.istore_n 3, 1) := by decide +kernel
theorem dX4_least_23 : decode cX4_least 23 = .ok (.iconst 0, 1) := by decide +kernel
theorem dX4_least_24 : decode cX4_least 24 = .ok (.istore 4, 2) := by decide +kernel
theorem dX4_least_26 : decode cX4_least 26 = .ok (.iload 4, 2) := by decide +kernel
theorem dX4_least_28 : decode cX4_least 28 = .ok (.bipush 32, 2) := by decide +kernel
theorem dX4_least_30 : decode cX4_least 30 = .ok (.if_icmp .ge 49, 3) := by decide +kernel
theorem dX4_least_33 : decode cX4_least 33 = .ok (.iload_n 3, 1) := by decide +kernel
theorem dX4_least_34 : decode cX4_least 34 = .ok (.iload_n 2, 1) := by decide +kernel
theorem dX4_least_35 : decode cX4_least 35 = .ok (.isub, 1) := by decide +kernel
theorem dX4_least_36 : decode cX4_least 36 = .ok (.iconst 1, 1) := by decide +kernel
theorem dX4_least_37 : decode cX4_least 37 = .ok (.if_icmp .le 42, 3) := by decide +kernel
theorem dX4_least_40 : decode cX4_least 40 = .ok (.iload_n 2, 1) := by decide +kernel
theorem dX4_least_41 : decode cX4_least 41 = .ok (.iload_n 3, 1) := by decide +kernel
theorem dX4_least_42 : decode cX4_least 42 = .ok (.iadd, 1) := by decide +kernel
theorem dX4_least_43 : decode cX4_least 43 = .ok (.iconst 2, 1) := by decide +kernel
theorem dX4_least_44 : decode cX4_least 44 = .ok (.idiv, 1) := by decide +kernel
theorem dX4_least_45 : decode cX4_least 45 = .ok (.istore 5, 2) := by decide +kernel
theorem dX4_least_47 : decode cX4_least 47 = .ok (.aload_n 0, 1) := by decide +kernel
theorem dX4_least_48 : decode cX4_least 48 = .ok (.getfield 27, 3) := by decide +kernel
theorem dX4_least_51 : decode cX4_least 51 = .ok (.aload_n 0, 1) := by decide +kernel
theorem dX4_least_52 : decode cX4_least 52 = .ok (.getfield 20, 3) := by decide +kernel
theorem dX4_least_55 : decode cX4_least 55 = .ok (.iload 5, 2) := by decide +kernel
theorem dX4_least_57 : decode cX4_least 57 = .ok (.iload_n 1, 1) := by decide +kernel
theorem dX4_least_58 : decode cX4_least 58 = .ok (.invokevirtual 120, 3) := by decide +kernel
theorem dX4_least_61 : decode cX4_least 61 = .ok (.ifCond .eq 9, 3) := by decide +kernel
theorem dX4_least_64 : decode cX4_least 64 = .ok (.iload 5, 2) := by decide +kernel
theorem dX4_least_66 : decode cX4_least 66 = .ok (.istore_n 3, 1) := by decide +kernel
theorem dX4_least_67 : decode cX4_least 67 = .ok (.goto 6, 3) := by decide +kernel
theorem dX4_least_70 : decode cX4_least 70 = .ok (.iload 5, 2) := by decide +kernel
theorem dX4_least_72 : decode cX4_least 72 = .ok (.istore_n 2, 1) := by decide +kernel
theorem dX4_least_73 : decode cX4_least 73 = .ok (.iinc 4 1, 3) := by decide +kernel
theorem dX4_least_76 : decode cX4_least 76 = .ok (.goto (-50), 3) := by decide +kernel
theorem dX4_least_79 : decode cX4_least 79 = .ok (.iload_n 3, 1) := by decide +kernel
theorem dX4_least_80 : decode cX4_least 80 = .ok (.ireturn, 1) := by decide +kernel
set_option maxRecDepth 20000 in
theorem ggX4_ask_X4_isCost : GoodIn wsX4_ask wsX4_isCost := goodIn_r _ [14, 15, 16, 13, 17] (by decide +kernel) (by decide +kernel)
set_option maxRecDepth 20000 in
theorem gX4_ask_X4_isCost : GoodIn wsX4_ask (va_wsS RX4 115 yX4_isCost wsX4_isCost) := goodIn_app (goodIn_of _ (by decide +kernel)) ggX4_ask_X4_isCost
set_option maxRecDepth 20000 in
theorem ggX4_ask_X3_hasCoin : GoodIn wsX4_ask wsX3_hasCoin := goodIn_r _ [22, 23, 139, 140, 141, 142, 143] (by decide +kernel) (by decide +kernel)
set_option maxRecDepth 20000 in
theorem gX4_ask_X3_hasCoin : GoodIn wsX4_ask (wsV RX4 88 RX3 yX3_hasCoin wsX3_hasCoin) := goodIn_app (goodIn_of _ (by decide +kernel)) ggX4_ask_X3_hasCoin
set_option maxRecDepth 20000 in
theorem ggX4_ask_X2_reaches : GoodIn wsX4_ask wsX2_reaches := goodIn_r _ [28, 29, 30, 31, 32, 33, 34, 35, 36, 37, 38, 39, 40, 41, 42, 43, 44, 45, 46, 47, 48, 49, 50, 51, 52, 53, 54, 55, 56, 57, 58, 59, 60, 61, 62, 63, 144, 145, 139, 140, 141, 142, 143, 146, 147] (by decide +kernel) (by decide +kernel)
set_option maxRecDepth 20000 in
theorem gX4_ask_X2_reaches : GoodIn wsX4_ask (wsV RX4 120 RX2 yX2_reaches wsX2_reaches) := goodIn_app (goodIn_of _ (by decide +kernel)) ggX4_ask_X2_reaches
set_option maxRecDepth 20000 in
theorem ggX4_ask_X0_isLessThan : GoodIn wsX4_ask wsX0_isLessThan := goodIn_r _ [68, 69, 70, 71, 58, 36, 59, 38, 53, 54, 55, 56, 43, 148, 149, 146, 147] (by decide +kernel) (by decide +kernel)
set_option maxRecDepth 20000 in
theorem gX4_ask_X0_isLessThan : GoodIn wsX4_ask (wsV RX4 132 RX0 yX0_isLessThan wsX0_isLessThan) := goodIn_app (goodIn_of _ (by decide +kernel)) ggX4_ask_X0_isLessThan
set_option maxRecDepth 20000 in
theorem ggX4_ask_X0_increase : GoodIn wsX4_ask wsX0_increase := goodIn_r _ [75, 76, 77, 78, 67, 79, 70, 69, 80, 81, 82, 83, 84, 85, 86, 87, 88, 36, 89, 38, 53, 54, 55, 56, 43, 90, 91, 92, 93, 49, 50, 51, 52, 94, 45, 46, 47, 48, 39, 40, 41, 42, 95, 61, 62, 63, 148, 149, 146, 147] (by decide +kernel) (by decide +kernel)
set_option maxRecDepth 20000 in
theorem gX4_ask_X0_increase : GoodIn wsX4_ask (wsV RX4 112 RX0 yX0_increase wsX0_increase) := goodIn_app (goodIn_of _ (by decide +kernel)) ggX4_ask_X0_increase
set_option maxRecDepth 20000 in
theorem ggX4_ask_X0_decrease : GoodIn wsX4_ask wsX0_decrease := goodIn_r _ [99, 76, 77, 78, 67, 79, 70, 69, 80, 81, 82, 83, 84, 85, 86, 87, 88, 36, 89, 38, 53, 54, 55, 56, 43, 90, 91, 92, 93, 49, 50, 51, 52, 94, 45, 46, 47, 48, 39, 40, 41, 42, 95, 61, 62, 63, 148, 149, 146, 147] (by decide +kernel) (by decide +kernel)
set_option maxRecDepth 20000 in
theorem gX4_ask_X0_decrease : GoodIn wsX4_ask (wsV RX4 135 RX0 yX0_decrease wsX0_decrease) := goodIn_app (goodIn_of _ (by decide +kernel)) ggX4_ask_X0_decrease
set_option maxRecDepth 20000 in
theorem ggX4_ask_X4_count : GoodIn wsX4_ask wsX4_count := goodIn_r _ [103, 104, 105, 129, 130, 131, 132, 133, 134, 135, 136, 137, 138] (by decide +kernel) (by decide +kernel)
set_option maxRecDepth 20000 in
theorem gX4_ask_X4_count : GoodIn wsX4_ask (wsV RX4 138 RX4 yX4_count wsX4_count) := goodIn_app (goodIn_of _ (by decide +kernel)) ggX4_ask_X4_count
set_option maxRecDepth 20000 in
theorem ggX4_ask_X3_nearestTo : GoodIn wsX4_ask wsX3_nearestTo := goodIn_r _ [109, 110, 111, 139, 140, 141, 142, 143] (by decide +kernel) (by decide +kernel)
set_option maxRecDepth 20000 in
theorem gX4_ask_X3_nearestTo : GoodIn wsX4_ask (wsV RX4 142 RX3 yX3_nearestTo wsX3_nearestTo) := goodIn_app (goodIn_of _ (by decide +kernel)) ggX4_ask_X3_nearestTo
set_option maxRecDepth 20000 in
theorem ggX4_ask_X3_outcomeOf : GoodIn wsX4_ask wsX3_outcomeOf := goodIn_r _ [115, 110, 111, 116, 117, 118, 21, 119, 23, 120, 121, 122, 123, 124, 125, 126, 127, 128, 139, 140, 141, 142, 143] (by decide +kernel) (by decide +kernel)
set_option maxRecDepth 20000 in
theorem gX4_ask_X3_outcomeOf : GoodIn wsX4_ask (wsV RX4 94 RX3 yX3_outcomeOf wsX3_outcomeOf) := goodIn_app (goodIn_of _ (by decide +kernel)) ggX4_ask_X3_outcomeOf
theorem dX4_ask_0 : decode cX4_ask 0 = .ok (.iload_n 3, 1) := by decide +kernel
theorem dX4_ask_1 : decode cX4_ask 1 = .ok (.iload 4, 2) := by decide +kernel
theorem dX4_ask_3 : decode cX4_ask 3 = .ok (.invokestatic 115, 3) := by decide +kernel
theorem dX4_ask_6 : decode cX4_ask 6 = .ok (.ifCond .eq 15, 3) := by decide +kernel
theorem dX4_ask_9 : decode cX4_ask 9 = .ok (.aload_n 0, 1) := by decide +kernel
theorem dX4_ask_10 : decode cX4_ask 10 = .ok (.getfield 20, 3) := by decide +kernel
theorem dX4_ask_13 : decode cX4_ask 13 = .ok (.lload 5, 2) := by decide +kernel
theorem dX4_ask_15 : decode cX4_ask 15 = .ok (.invokevirtual 88, 3) := by decide +kernel
theorem dX4_ask_18 : decode cX4_ask 18 = .ok (.ifCond .ne 13, 3) := by decide +kernel
theorem dX4_ask_21 : decode cX4_ask 21 = .ok (.new 64, 3) := by decide +kernel
theorem dX4_ask_24 : decode cX4_ask 24 = .ok (.dup, 1) := by decide +kernel
theorem dX4_ask_25 : decode cX4_ask 25 = .ok (.ldc 129, 2) := by decide +kernel
theorem dX4_ask_27 : decode cX4_ask 27 = .ok (.invokespecial 68, 3) := by decide +kernel
theorem dX4_ask_30 : decode cX4_ask 30 = .ok (.athrow, 1) := by decide +kernel
theorem dX4_ask_31 : decode cX4_ask 31 = .ok (.aload_n 0, 1) := by decide +kernel
theorem dX4_ask_32 : decode cX4_ask 32 = .ok (.getfield 27, 3) := by decide +kernel
theorem dX4_ask_35 : decode cX4_ask 35 = .ok (.aload_n 0, 1) := by decide +kernel
theorem dX4_ask_36 : decode cX4_ask 36 = .ok (.getfield 20, 3) := by decide +kernel
theorem dX4_ask_39 : decode cX4_ask 39 = .ok (.iload_n 3, 1) := by decide +kernel
theorem dX4_ask_40 : decode cX4_ask 40 = .ok (.iload 4, 2) := by decide +kernel
theorem dX4_ask_42 : decode cX4_ask 42 = .ok (.invokevirtual 120, 3) := by decide +kernel
theorem dX4_ask_45 : decode cX4_ask 45 = .ok (.ifCond .ne 16, 3) := by decide +kernel
theorem dX4_ask_48 : decode cX4_ask 48 = .ok (.aload_n 0, 1) := by decide +kernel
theorem dX4_ask_49 : decode cX4_ask 49 = .ok (.dup, 1) := by decide +kernel
theorem dX4_ask_50 : decode cX4_ask 50 = .ok (.getfield 47, 3) := by decide +kernel
theorem dX4_ask_53 : decode cX4_ask 53 = .ok (.iconst 1, 1) := by decide +kernel
theorem dX4_ask_54 : decode cX4_ask 54 = .ok (.iadd, 1) := by decide +kernel
theorem dX4_ask_55 : decode cX4_ask 55 = .ok (.putfield 47, 3) := by decide +kernel
theorem dX4_ask_58 : decode cX4_ask 58 = .ok (.ldc 131, 2) := by decide +kernel
theorem dX4_ask_60 : decode cX4_ask 60 = .ok (.ireturn, 1) := by decide +kernel
theorem dX4_ask_61 : decode cX4_ask 61 = .ok (.aload_n 0, 1) := by decide +kernel
theorem dX4_ask_62 : decode cX4_ask 62 = .ok (.getfield 41, 3) := by decide +kernel
theorem dX4_ask_65 : decode cX4_ask 65 = .ok (.iload_n 3, 1) := by decide +kernel
theorem dX4_ask_66 : decode cX4_ask 66 = .ok (.iload 4, 2) := by decide +kernel
theorem dX4_ask_68 : decode cX4_ask 68 = .ok (.invokevirtual 132, 3) := by decide +kernel
theorem dX4_ask_71 : decode cX4_ask 71 = .ok (.ifCond .eq 16, 3) := by decide +kernel
theorem dX4_ask_74 : decode cX4_ask 74 = .ok (.aload_n 0, 1) := by decide +kernel
theorem dX4_ask_75 : decode cX4_ask 75 = .ok (.dup, 1) := by decide +kernel
theorem dX4_ask_76 : decode cX4_ask 76 = .ok (.getfield 50, 3) := by decide +kernel
theorem dX4_ask_79 : decode cX4_ask 79 = .ok (.iconst 1, 1) := by decide +kernel
theorem dX4_ask_80 : decode cX4_ask 80 = .ok (.iadd, 1) := by decide +kernel
theorem dX4_ask_81 : decode cX4_ask 81 = .ok (.putfield 50, 3) := by decide +kernel
theorem dX4_ask_84 : decode cX4_ask 84 = .ok (.ldc 131, 2) := by decide +kernel
theorem dX4_ask_86 : decode cX4_ask 86 = .ok (.ireturn, 1) := by decide +kernel
theorem dX4_ask_87 : decode cX4_ask 87 = .ok (.aload_n 0, 1) := by decide +kernel
theorem dX4_ask_88 : decode cX4_ask 88 = .ok (.getfield 38, 3) := by decide +kernel
theorem dX4_ask_91 : decode cX4_ask 91 = .ok (.iload_n 3, 1) := by decide +kernel
theorem dX4_ask_92 : decode cX4_ask 92 = .ok (.iload 4, 2) := by decide +kernel
theorem dX4_ask_94 : decode cX4_ask 94 = .ok (.invokevirtual 112, 3) := by decide +kernel
theorem dX4_ask_97 : decode cX4_ask 97 = .ok (.aload_n 0, 1) := by decide +kernel
theorem dX4_ask_98 : decode cX4_ask 98 = .ok (.getfield 41, 3) := by decide +kernel
theorem dX4_ask_101 : decode cX4_ask 101 = .ok (.iload_n 3, 1) := by decide +kernel
theorem dX4_ask_102 : decode cX4_ask 102 = .ok (.iload 4, 2) := by decide +kernel
theorem dX4_ask_104 : decode cX4_ask 104 = .ok (.invokevirtual 135, 3) := by decide +kernel
theorem dX4_ask_107 : decode cX4_ask 107 = .ok (.aload_n 0, 1) := by decide +kernel
theorem dX4_ask_108 : decode cX4_ask 108 = .ok (.dup, 1) := by decide +kernel
theorem dX4_ask_109 : decode cX4_ask 109 = .ok (.getfield 44, 3) := by decide +kernel
theorem dX4_ask_112 : decode cX4_ask 112 = .ok (.iconst 1, 1) := by decide +kernel
theorem dX4_ask_113 : decode cX4_ask 113 = .ok (.iadd, 1) := by decide +kernel
theorem dX4_ask_114 : decode cX4_ask 114 = .ok (.putfield 44, 3) := by decide +kernel
theorem dX4_ask_117 : decode cX4_ask 117 = .ok (.aload_n 0, 1) := by decide +kernel
theorem dX4_ask_118 : decode cX4_ask 118 = .ok (.getfield 20, 3) := by decide +kernel
theorem dX4_ask_121 : decode cX4_ask 121 = .ok (.aload_n 0, 1) := by decide +kernel
theorem dX4_ask_122 : decode cX4_ask 122 = .ok (.getfield 20, 3) := by decide +kernel
theorem dX4_ask_125 : decode cX4_ask 125 = .ok (.aload_n 0, 1) := by decide +kernel
theorem dX4_ask_126 : decode cX4_ask 126 = .ok (.iload_n 1, 1) := by decide +kernel
theorem dX4_ask_127 : decode cX4_ask 127 = .ok (.iload_n 2, 1) := by decide +kernel
theorem dX4_ask_128 : decode cX4_ask 128 = .ok (.invokevirtual 138, 3) := by decide +kernel
theorem dX4_ask_131 : decode cX4_ask 131 = .ok (.invokevirtual 142, 3) := by decide +kernel
theorem dX4_ask_134 : decode cX4_ask 134 = .ok (.lload 5, 2) := by decide +kernel
theorem dX4_ask_136 : decode cX4_ask 136 = .ok (.invokevirtual 94, 3) := by decide +kernel
theorem dX4_ask_139 : decode cX4_ask 139 = .ok (.ireturn, 1) := by decide +kernel
set_option maxRecDepth 20000 in
theorem ggX4_limb_X1_limbAt : GoodIn wsX4_limb wsX1_limbAt := goodIn_r _ [13, 14, 15, 28, 29] (by decide +kernel) (by decide +kernel)
set_option maxRecDepth 20000 in
theorem gX4_limb_X1_limbAt : GoodIn wsX4_limb (wsV RX4 160 RX1 yX1_limbAt wsX1_limbAt) := goodIn_app (goodIn_of _ (by decide +kernel)) ggX4_limb_X1_limbAt
theorem dX4_limb_0 : decode cX4_limb 0 = .ok (.iload_n 1, 1) := by decide +kernel
theorem dX4_limb_1 : decode cX4_limb 1 = .ok (.ifCond .lt 17, 3) := by decide +kernel
theorem dX4_limb_4 : decode cX4_limb 4 = .ok (.iload_n 1, 1) := by decide +kernel
theorem dX4_limb_5 : decode cX4_limb 5 = .ok (.iconst 2, 1) := by decide +kernel
theorem dX4_limb_6 : decode cX4_limb 6 = .ok (.if_icmp .gt 12, 3) := by decide +kernel
theorem dX4_limb_9 : decode cX4_limb 9 = .ok (.iload_n 2, 1) := by decide +kernel
theorem dX4_limb_10 : decode cX4_limb 10 = .ok (.ifCond .lt 8, 3) := by decide +kernel
theorem dX4_limb_13 : decode cX4_limb 13 = .ok (.iload_n 2, 1) := by decide +kernel
theorem dX4_limb_14 : decode cX4_limb 14 = .ok (.iconst 1, 1) := by decide +kernel
theorem dX4_limb_15 : decode cX4_limb 15 = .ok (.if_icmp .le 13, 3) := by decide +kernel
theorem dX4_limb_18 : decode cX4_limb 18 = .ok (.new 53, 3) := by decide +kernel
theorem dX4_limb_21 : decode cX4_limb 21 = .ok (.dup, 1) := by decide +kernel
theorem dX4_limb_22 : decode cX4_limb 22 = .ok (.ldc 146, 2) := by decide +kernel
theorem dX4_limb_24 : decode cX4_limb 24 = .ok (.invokespecial 57, 3) := by decide +kernel
theorem dX4_limb_27 : decode cX4_limb 27 = .ok (.athrow, 1) := by decide +kernel
theorem dX4_limb_28 : decode cX4_limb 28 = .ok (.iload_n 1, 1) := by decide +kernel
theorem dX4_limb_29 : decode cX4_limb 29 = .ok (.ifCond .ne 10, 3) := by decide +kernel
theorem dX4_limb_32 : decode cX4_limb 32 = .ok (.aload_n 0, 1) := by decide +kernel
theorem dX4_limb_33 : decode cX4_limb 33 = .ok (.getfield 34, 3) := by decide +kernel
theorem dX4_limb_36 : decode cX4_limb 36 = .ok (.goto 19, 3) := by decide +kernel
theorem dX4_limb_39 : decode cX4_limb 39 = .ok (.iload_n 1, 1) := by decide +kernel
theorem dX4_limb_40 : decode cX4_limb 40 = .ok (.iconst 1, 1) := by decide +kernel
theorem dX4_limb_41 : decode cX4_limb 41 = .ok (.if_icmp .ne 10, 3) := by decide +kernel
theorem dX4_limb_44 : decode cX4_limb 44 = .ok (.aload_n 0, 1) := by decide +kernel
theorem dX4_limb_45 : decode cX4_limb 45 = .ok (.getfield 38, 3) := by decide +kernel
theorem dX4_limb_48 : decode cX4_limb 48 = .ok (.goto 7, 3) := by decide +kernel
theorem dX4_limb_51 : decode cX4_limb 51 = .ok (.aload_n 0, 1) := by decide +kernel
theorem dX4_limb_52 : decode cX4_limb 52 = .ok (.getfield 41, 3) := by decide +kernel
theorem dX4_limb_55 : decode cX4_limb 55 = .ok (.astore 4, 2) := by decide +kernel
theorem dX4_limb_57 : decode cX4_limb 57 = .ok (.iload_n 2, 1) := by decide +kernel
theorem dX4_limb_58 : decode cX4_limb 58 = .ok (.ifCond .ne 11, 3) := by decide +kernel
theorem dX4_limb_61 : decode cX4_limb 61 = .ok (.aload 4, 2) := by decide +kernel
theorem dX4_limb_63 : decode cX4_limb 63 = .ok (.getfield 148, 3) := by decide +kernel
theorem dX4_limb_66 : decode cX4_limb 66 = .ok (.goto 8, 3) := by decide +kernel
theorem dX4_limb_69 : decode cX4_limb 69 = .ok (.aload 4, 2) := by decide +kernel
theorem dX4_limb_71 : decode cX4_limb 71 = .ok (.getfield 152, 3) := by decide +kernel
theorem dX4_limb_74 : decode cX4_limb 74 = .ok (.astore 5, 2) := by decide +kernel
theorem dX4_limb_76 : decode cX4_limb 76 = .ok (.iload_n 3, 1) := by decide +kernel
theorem dX4_limb_77 : decode cX4_limb 77 = .ok (.iconst (-1), 1) := by decide +kernel
theorem dX4_limb_78 : decode cX4_limb 78 = .ok (.if_icmp .ne 9, 3) := by decide +kernel
theorem dX4_limb_81 : decode cX4_limb 81 = .ok (.aload 5, 2) := by decide +kernel
theorem dX4_limb_83 : decode cX4_limb 83 = .ok (.getfield 155, 3) := by decide +kernel
theorem dX4_limb_86 : decode cX4_limb 86 = .ok (.ireturn, 1) := by decide +kernel
theorem dX4_limb_87 : decode cX4_limb 87 = .ok (.iload_n 3, 1) := by decide +kernel
theorem dX4_limb_88 : decode cX4_limb 88 = .ok (.ifCond .lt 21, 3) := by decide +kernel
theorem dX4_limb_91 : decode cX4_limb 91 = .ok (.iload_n 3, 1) := by decide +kernel
theorem dX4_limb_92 : decode cX4_limb 92 = .ok (.aload 5, 2) := by decide +kernel
theorem dX4_limb_94 : decode cX4_limb 94 = .ok (.getfield 155, 3) := by decide +kernel
theorem dX4_limb_97 : decode cX4_limb 97 = .ok (.if_icmp .ge 12, 3) := by decide +kernel
theorem dX4_limb_100 : decode cX4_limb 100 = .ok (.aload 5, 2) := by decide +kernel
theorem dX4_limb_102 : decode cX4_limb 102 = .ok (.iload_n 3, 1) := by decide +kernel
theorem dX4_limb_103 : decode cX4_limb 103 = .ok (.invokevirtual 160, 3) := by decide +kernel
theorem dX4_limb_106 : decode cX4_limb 106 = .ok (.goto 4, 3) := by decide +kernel
theorem dX4_limb_109 : decode cX4_limb 109 = .ok (.iconst (-1), 1) := by decide +kernel
theorem dX4_limb_110 : decode cX4_limb 110 = .ok (.ireturn, 1) := by decide +kernel
theorem dX4_told_0 : decode cX4_told 0 = .ok (.iload_n 1, 1) := by decide +kernel
theorem dX4_told_1 : decode cX4_told 1 = .ok (.tableswitch 99 0 7 #[47, 52, 57, 62, 67, 75, 83, 91], 47) := by decide +kernel
theorem dX4_told_48 : decode cX4_told 48 = .ok (.aload_n 0, 1) := by decide +kernel
theorem dX4_told_49 : decode cX4_told 49 = .ok (.getfield 44, 3) := by decide +kernel
theorem dX4_told_52 : decode cX4_told 52 = .ok (.ireturn, 1) := by decide +kernel
theorem dX4_told_53 : decode cX4_told 53 = .ok (.aload_n 0, 1) := by decide +kernel
theorem dX4_told_54 : decode cX4_told 54 = .ok (.getfield 47, 3) := by decide +kernel
theorem dX4_told_57 : decode cX4_told 57 = .ok (.ireturn, 1) := by decide +kernel
theorem dX4_told_58 : decode cX4_told 58 = .ok (.aload_n 0, 1) := by decide +kernel
theorem dX4_told_59 : decode cX4_told 59 = .ok (.getfield 50, 3) := by decide +kernel
theorem dX4_told_62 : decode cX4_told 62 = .ok (.ireturn, 1) := by decide +kernel
theorem dX4_told_63 : decode cX4_told 63 = .ok (.aload_n 0, 1) := by decide +kernel
theorem dX4_told_64 : decode cX4_told 64 = .ok (.getfield 13, 3) := by decide +kernel
theorem dX4_told_67 : decode cX4_told 67 = .ok (.ireturn, 1) := by decide +kernel
theorem dX4_told_68 : decode cX4_told 68 = .ok (.aload_n 0, 1) := by decide +kernel
theorem dX4_told_69 : decode cX4_told 69 = .ok (.getfield 20, 3) := by decide +kernel
theorem dX4_told_72 : decode cX4_told 72 = .ok (.getfield 163, 3) := by decide +kernel
theorem dX4_told_75 : decode cX4_told 75 = .ok (.ireturn, 1) := by decide +kernel
theorem dX4_told_76 : decode cX4_told 76 = .ok (.aload_n 0, 1) := by decide +kernel
theorem dX4_told_77 : decode cX4_told 77 = .ok (.getfield 20, 3) := by decide +kernel
theorem dX4_told_80 : decode cX4_told 80 = .ok (.getfield 166, 3) := by decide +kernel
theorem dX4_told_83 : decode cX4_told 83 = .ok (.ireturn, 1) := by decide +kernel
theorem dX4_told_84 : decode cX4_told 84 = .ok (.aload_n 0, 1) := by decide +kernel
theorem dX4_told_85 : decode cX4_told 85 = .ok (.getfield 20, 3) := by decide +kernel
theorem dX4_told_88 : decode cX4_told 88 = .ok (.getfield 169, 3) := by decide +kernel
theorem dX4_told_91 : decode cX4_told 91 = .ok (.ireturn, 1) := by decide +kernel
theorem dX4_told_92 : decode cX4_told 92 = .ok (.aload_n 0, 1) := by decide +kernel
theorem dX4_told_93 : decode cX4_told 93 = .ok (.getfield 20, 3) := by decide +kernel
theorem dX4_told_96 : decode cX4_told 96 = .ok (.getfield 172, 3) := by decide +kernel
theorem dX4_told_99 : decode cX4_told 99 = .ok (.ireturn, 1) := by decide +kernel
theorem dX4_told_100 : decode cX4_told 100 = .ok (.new 53, 3) := by decide +kernel
theorem dX4_told_103 : decode cX4_told 103 = .ok (.dup, 1) := by decide +kernel
theorem dX4_told_104 : decode cX4_told 104 = .ok (.ldc 175, 2) := by decide +kernel
theorem dX4_told_106 : decode cX4_told 106 = .ok (.invokespecial 57, 3) := by decide +kernel
theorem dX4_told_109 : decode cX4_told 109 = .ok (.athrow, 1) := by decide +kernel
theorem dX4_isDenominator_0 : decode cX4_isDenominator 0 = .ok (.iload_n 0, 1) := by decide +kernel
theorem dX4_isDenominator_1 : decode cX4_isDenominator 1 = .ok (.iconst 1, 1) := by decide +kernel
theorem dX4_isDenominator_2 : decode cX4_isDenominator 2 = .ok (.if_icmp .lt 14, 3) := by decide +kernel
theorem dX4_isDenominator_5 : decode cX4_isDenominator 5 = .ok (.iload_n 0, 1) := by decide +kernel
theorem dX4_isDenominator_6 : decode cX4_isDenominator 6 = .ok (.sipush 1000, 3) := by decide +kernel
theorem dX4_isDenominator_9 : decode cX4_isDenominator 9 = .ok (.if_icmp .gt 7, 3) := by decide +kernel
theorem dX4_isDenominator_12 : decode cX4_isDenominator 12 = .ok (.iconst 1, 1) := by decide +kernel
theorem dX4_isDenominator_13 : decode cX4_isDenominator 13 = .ok (.goto 4, 3) := by decide +kernel
theorem dX4_isDenominator_16 : decode cX4_isDenominator 16 = .ok (.iconst 0, 1) := by decide +kernel
theorem dX4_isDenominator_17 : decode cX4_isDenominator 17 = .ok (.ireturn, 1) := by decide +kernel
set_option maxRecDepth 20000 in
theorem ggX4_isGrant_X4_isDenominator : GoodIn wsX4_isGrant wsX4_isDenominator := goodIn_r _ [4] (by decide +kernel) (by decide +kernel)
set_option maxRecDepth 20000 in
theorem gX4_isGrant_X4_isDenominator : GoodIn wsX4_isGrant (va_wsS RX4 124 yX4_isDenominator wsX4_isDenominator) := goodIn_app (goodIn_of _ (by decide +kernel)) ggX4_isGrant_X4_isDenominator
theorem dX4_isGrant_0 : decode cX4_isGrant 0 = .ok (.iload_n 0, 1) := by decide +kernel
theorem dX4_isGrant_1 : decode cX4_isGrant 1 = .ok (.ifCond .lt 14, 3) := by decide +kernel
theorem dX4_isGrant_4 : decode cX4_isGrant 4 = .ok (.iload_n 1, 1) := by decide +kernel
theorem dX4_isGrant_5 : decode cX4_isGrant 5 = .ok (.invokestatic 124, 3) := by decide +kernel
theorem dX4_isGrant_8 : decode cX4_isGrant 8 = .ok (.ifCond .eq 7, 3) := by decide +kernel
theorem dX4_isGrant_11 : decode cX4_isGrant 11 = .ok (.iconst 1, 1) := by decide +kernel
theorem dX4_isGrant_12 : decode cX4_isGrant 12 = .ok (.goto 4, 3) := by decide +kernel
theorem dX4_isGrant_15 : decode cX4_isGrant 15 = .ok (.iconst 0, 1) := by decide +kernel
theorem dX4_isGrant_16 : decode cX4_isGrant 16 = .ok (.ireturn, 1) := by decide +kernel
set_option maxRecDepth 20000 in
theorem ggX4_isCost_X4_isDenominator : GoodIn wsX4_isCost wsX4_isDenominator := goodIn_r _ [4] (by decide +kernel) (by decide +kernel)
set_option maxRecDepth 20000 in
theorem gX4_isCost_X4_isDenominator : GoodIn wsX4_isCost (va_wsS RX4 124 yX4_isDenominator wsX4_isDenominator) := goodIn_app (goodIn_of _ (by decide +kernel)) ggX4_isCost_X4_isDenominator
theorem dX4_isCost_0 : decode cX4_isCost 0 = .ok (.iload_n 0, 1) := by decide +kernel
theorem dX4_isCost_1 : decode cX4_isCost 1 = .ok (.ifCond .lt 21, 3) := by decide +kernel
theorem dX4_isCost_4 : decode cX4_isCost 4 = .ok (.iload_n 0, 1) := by decide +kernel
theorem dX4_isCost_5 : decode cX4_isCost 5 = .ok (.sipush 3000, 3) := by decide +kernel
theorem dX4_isCost_8 : decode cX4_isCost 8 = .ok (.if_icmp .gt 14, 3) := by decide +kernel
theorem dX4_isCost_11 : decode cX4_isCost 11 = .ok (.iload_n 1, 1) := by decide +kernel
theorem dX4_isCost_12 : decode cX4_isCost 12 = .ok (.invokestatic 124, 3) := by decide +kernel
theorem dX4_isCost_15 : decode cX4_isCost 15 = .ok (.ifCond .eq 7, 3) := by decide +kernel
theorem dX4_isCost_18 : decode cX4_isCost 18 = .ok (.iconst 1, 1) := by decide +kernel
theorem dX4_isCost_19 : decode cX4_isCost 19 = .ok (.goto 4, 3) := by decide +kernel
theorem dX4_isCost_22 : decode cX4_isCost 22 = .ok (.iconst 0, 1) := by decide +kernel
theorem dX4_isCost_23 : decode cX4_isCost 23 = .ok (.ireturn, 1) := by decide +kernel
end
section
/-! Table: predicates and walks (laid by wip/whole/gen.py) -/
def wX3 (cI cJ : ClassId) (Aw : Nat) (wa : Int32) (wb : Int32) (wlo : Int32) (whi : Int32) (wtot : Int64) : va_W := [(Aw, .inr (3, [.int wa, .int wb, .int wlo, .int whi, .long wtot]))]
abbrev rm_X3_isAllowed : Room := { frames := 0, cells := 0, slots := 0, locals := 0 }
abbrev rm_X3_power : Room := { frames := 0, cells := 0, slots := 0, locals := 0 }
abbrev rm_X3_become : Room := { frames := 1, cells := 0, slots := 0, locals := 24 }
abbrev rm_X3_holds : Room := { frames := 0, cells := 0, slots := 0, locals := 0 }
abbrev rm_X3_hasCoin : Room := { frames := 0, cells := 0, slots := 0, locals := 0 }
abbrev rm_X3_nearestTo : Room := { frames := 0, cells := 0, slots := 0, locals := 0 }
abbrev rm_X3_weightOf : Room := { frames := 1, cells := 0, slots := 0, locals := 24 }
abbrev rm_X3_sumTo : Room := { frames := 2, cells := 0, slots := 0, locals := 48 }
abbrev rm_X3_outcomeOf : Room := { frames := 2, cells := 0, slots := 0, locals := 48 }
abbrev rm_X3_isWithinRatio : Room := { frames := 2, cells := 0, slots := 0, locals := 48 }
def w_X3_isAllowed (p0 : Int32) (p1 : Int32) (p2 : Int32) (p3 : Int32) (Q : Int32 → Prop) : Prop :=
  ((p0 < 1 →
    Q (0 : Int32)
   ) ∧ (¬ p0 < 1 →
    ((p1 ≤ p0 →
      Q (0 : Int32)
     ) ∧ (¬ p1 ≤ p0 →
      ((10 < p1 →
        Q (0 : Int32)
       ) ∧ (¬ 10 < p1 →
        ((p2 < (-1000) →
          Q (0 : Int32)
         ) ∧ (¬ p2 < (-1000) →
          ((1000 < p3 →
            Q (0 : Int32)
           ) ∧ (¬ 1000 < p3 →
            ((p3 < p2 →
              Q (0 : Int32)
             ) ∧ (¬ p3 < p2 →
              ((14 < (p3 - p2) →
                Q (0 : Int32)
               ) ∧ (¬ 14 < (p3 - p2) →
                Q (1 : Int32)
               ))
             ))
           ))
         ))
       ))
     ))
   ))

def w_X3_power (p0 : Int32) (p1 : Int32) (Q : Int64 → Prop) : Prop :=
  ∃ (I5_3 : Int32 → Int64 → Prop) (μ5_3 : Int32 → Int64 → Nat), I5_3 (0 : Int32) (1 : Int64) ∧ ∀ (i4_1 : Int32) (i2_2 : Int64), I5_3 i4_1 i2_2 →
    ((p1 ≤ i4_1 →
      Q i2_2
     ) ∧ (¬ p1 ≤ i4_1 →
      ∀ (i2_4 : Int64), i2_4 = i2_2 * p0.toInt64 →
      ∀ (i4_5 : Int32), i4_5 = i4_1 + 1 →
      I5_3 i4_5 i2_4 ∧ μ5_3 i4_5 i2_4 < μ5_3 i4_1 i2_2
     ))

def w_X3_become (p0 : Int32) (p1 : Int32) (p2 : Int32) (p3 : Int32) (Q : Int32 → Int32 → Int32 → Int32 → Int64 → Prop) : Prop :=
  w_X3_power p1 (p3 - p2) (fun (r_1 : Int64) =>
  ∀ (v_2 : Int64), v_2 = ((p0 + p1).toInt64) * r_1 →
  Q p0 p1 p2 p3 v_2)

def w_X3_holds (wlo : Int32) (whi : Int32) (p0 : Int32) (Q : Int32 → Prop) : Prop :=
  ((p0 < wlo →
    Q (0 : Int32)
   ) ∧ (¬ p0 < wlo →
    ((whi < p0 →
      Q (0 : Int32)
     ) ∧ (¬ whi < p0 →
      Q (1 : Int32)
     ))
   ))

def w_X3_hasCoin (wtot : Int64) (p0 : Int64) (Q : Int32 → Prop) : Prop :=
  ((p0 < 0 →
    Q (0 : Int32)
   ) ∧ (¬ p0 < 0 →
    ((wtot ≤ p0 →
      Q (0 : Int32)
     ) ∧ (¬ wtot ≤ p0 →
      Q (1 : Int32)
     ))
   ))

def w_X3_nearestTo (wlo : Int32) (whi : Int32) (p0 : Int32) (Q : Int32 → Prop) : Prop :=
  ((wlo ≤ p0 →
    ((p0 ≤ whi →
      Q p0
     ) ∧ (¬ p0 ≤ whi →
      Q whi
     ))
   ) ∧ (¬ wlo ≤ p0 →
    Q wlo
   ))

def w_X3_weightOf (wa : Int32) (wb : Int32) (wlo : Int32) (whi : Int32) (wtot : Int64) (p0 : Int32) (p1 : Int32) (Q : Int64 → Prop) : Prop :=
  w_X3_holds wlo whi p0 (fun (r_1 : Int32) =>
  ((r_1 = 0 →
    Q (0 : Int64)
   ) ∧ (¬ r_1 = 0 →
    w_X3_holds wlo whi p1 (fun (r_2 : Int32) =>
    ((¬ r_2 = 0 →
      ((¬ wlo = whi →
        ∀ (i3_3 : Int32), i3_3 = whi - wlo →
        ∃ (J58_5 : Int32 → Prop), (
          ((p1 ≤ p0 →
            J58_5 (p0 - p1)
           ) ∧ (¬ p1 ≤ p0 →
            J58_5 (p1 - p0)
           ))
         ) ∧ (∀ (t_4 : Int32), J58_5 t_4 →
          ((p1 = wlo →
            ∀ (v_7 : Int32), v_7 = (i3_3 + 1) - t_4 →
            w_X3_power wb v_7 (fun (r_8 : Int64) =>
            w_X3_power wa t_4 (fun (r_9 : Int64) =>
            Q (r_8 * r_9)))
           ) ∧ (¬ p1 = wlo →
            ((¬ p1 = whi →
              w_X3_power wb (i3_3 - t_4) (fun (r_10 : Int64) =>
              ∀ (v_11 : Int64), v_11 = ((wb - wa).toInt64) * r_10 →
              w_X3_power wa t_4 (fun (r_12 : Int64) =>
              Q (v_11 * r_12)))
             ) ∧ (p1 = whi →
              ∀ (v_13 : Int32), v_13 = (i3_3 + 1) - t_4 →
              w_X3_power wb v_13 (fun (r_14 : Int64) =>
              w_X3_power wa t_4 (fun (r_15 : Int64) =>
              Q (r_14 * r_15)))
             ))
           ))
         )
       ) ∧ (wlo = whi →
        Q wtot
       ))
     ) ∧ (r_2 = 0 →
      Q (0 : Int64)
     )))
   )))

def w_X3_sumTo (wa : Int32) (wb : Int32) (wlo : Int32) (whi : Int32) (wtot : Int64) (p0 : Int32) (p1 : Int32) (Q : Int64 → Prop) : Prop :=
  ∃ (I8_3 : Int32 → Int64 → Prop) (μ8_3 : Int32 → Int64 → Nat), I8_3 wlo (0 : Int64) ∧ ∀ (i5_1 : Int32) (i3_2 : Int64), I8_3 i5_1 i3_2 →
    ((whi < i5_1 →
      Q i3_2
     ) ∧ (¬ whi < i5_1 →
      ((p1 < i5_1 →
        Q i3_2
       ) ∧ (¬ p1 < i5_1 →
        w_X3_weightOf wa wb wlo whi wtot p0 i5_1 (fun (r_4 : Int64) =>
        ∀ (i3_5 : Int64), i3_5 = i3_2 + r_4 →
        ∀ (i5_6 : Int32), i5_6 = i5_1 + 1 →
        I8_3 i5_6 i3_5 ∧ μ8_3 i5_6 i3_5 < μ8_3 i5_1 i3_2)
       ))
     ))

def w_X3_outcomeOf (wa : Int32) (wb : Int32) (wlo : Int32) (whi : Int32) (wtot : Int64) (p0 : Int32) (p1 : Int64) (Q : Int32 → Prop) : Prop :=
  ∃ (I9_3 : Int32 → Int64 → Prop) (μ9_3 : Int32 → Int64 → Nat), I9_3 wlo (0 : Int64) ∧ ∀ (i6_1 : Int32) (i4_2 : Int64), I9_3 i6_1 i4_2 →
    ((whi ≤ i6_1 →
      Q whi
     ) ∧ (¬ whi ≤ i6_1 →
      w_X3_weightOf wa wb wlo whi wtot p0 i6_1 (fun (r_4 : Int64) =>
      ∀ (i4_5 : Int64), i4_5 = i4_2 + r_4 →
      ((i4_5 ≤ p1 →
        ∀ (i6_6 : Int32), i6_6 = i6_1 + 1 →
        I9_3 i6_6 i4_5 ∧ μ9_3 i6_6 i4_5 < μ9_3 i6_1 i4_2
       ) ∧ (¬ i4_5 ≤ p1 →
        Q i6_1
       )))
     ))

def w_X3_isWithinRatio (wa : Int32) (wb : Int32) (wlo : Int32) (whi : Int32) (wtot : Int64) (p0 : Int32) (p1 : Int32) (Q : Int32 → Prop) : Prop :=
  ∃ (I5_2 : Int32 → Prop) (μ5_2 : Int32 → Nat), I5_2 wlo ∧ ∀ (i3_1 : Int32), I5_2 i3_1 →
    ((whi < i3_1 →
      Q (1 : Int32)
     ) ∧ (¬ whi < i3_1 →
      w_X3_weightOf wa wb wlo whi wtot p0 i3_1 (fun (r_3 : Int64) =>
      w_X3_weightOf wa wb wlo whi wtot p1 i3_1 (fun (r_4 : Int64) =>
      (((wa.toInt64 * r_3) ≤ (wb.toInt64 * r_4) →
        ∀ (i3_5 : Int32), i3_5 = i3_1 + 1 →
        I5_2 i3_5 ∧ μ5_2 i3_5 < μ5_2 i3_1
       ) ∧ (¬ (wa.toInt64 * r_3) ≤ (wb.toInt64 * r_4) →
        Q (0 : Int32)
       ))))
     ))

set_option maxHeartbeats 4000000 in
set_option maxRecDepth 100000 in
theorem M_X3_isAllowed (l : Launch) (G : va_G) (cI cJ : ClassId) (p0 : Int32) (p1 : Int32) (p2 : Int32) (p3 : Int32) (Q : Int32 → Prop) (hw : w_X3_isAllowed p0 p1 p2 p3 Q) : Ki l yX3_isAllowed wsX3_isAllowed rm_X3_isAllowed G cI cJ [.int p0, .int p1, .int p2, .int p3] (w0 cI cJ) (fun (r : Int32) (u : Unit) => wB r ∧ Q r) (fun u => (w0 cI cJ)) := by
  refine kz_intro (cc := cX3_isAllowed) (maxL := 4) rfl rfl (by decide) rfl (Nat.le_of_ble_eq_true rfl) ?_
  intro p e s m args below meth c A Z ls hx hb hml hts hown hP hK hD hS hA hl hret
  have hl : lv_has ls 4 [(0, .int p0), (1, .int p1), (2, .int p2), (3, .int p3)] := hl
  unfold w_X3_isAllowed at hw
  refine lv_iload_n hx hb dX3_isAllowed_0 rfl (lv_at hl 0 rfl) ?_
  refine lv_iconst (v := 1) hx hb dX3_isAllowed_1 (by decide) ?_
  refine lv_icmp_lt (tgt := 47) hx hb dX3_isAllowed_2 (by decide) (fun c_7 => ?_) (fun c_7 => ?_)
  · have hw := hw.1 c_7
    refine lv_iconst (v := 0) hx hb dX3_isAllowed_47 (by decide) ?_
    exact hret _ () _ _ _ _ (Or.inl rfl) hw hP hD hS dX3_isAllowed_48
  · have hw := hw.2 c_7
    refine lv_iload_n hx hb dX3_isAllowed_5 rfl (lv_at hl 0 rfl) ?_
    refine lv_iload_n hx hb dX3_isAllowed_6 rfl (lv_at hl 1 rfl) ?_
    refine lv_icmp_ge (tgt := 47) hx hb dX3_isAllowed_7 (by decide) (fun c_6 => ?_) (fun c_6 => ?_)
    · have hw := hw.1 c_6
      refine lv_iconst (v := 0) hx hb dX3_isAllowed_47 (by decide) ?_
      exact hret _ () _ _ _ _ (Or.inl rfl) hw hP hD hS dX3_isAllowed_48
    · have hw := hw.2 c_6
      refine lv_iload_n hx hb dX3_isAllowed_10 rfl (lv_at hl 1 rfl) ?_
      refine lv_bipush (v := 10) hx hb dX3_isAllowed_11 (by decide) ?_
      refine lv_icmp_gt (tgt := 47) hx hb dX3_isAllowed_13 (by decide) (fun c_5 => ?_) (fun c_5 => ?_)
      · have hw := hw.1 c_5
        refine lv_iconst (v := 0) hx hb dX3_isAllowed_47 (by decide) ?_
        exact hret _ () _ _ _ _ (Or.inl rfl) hw hP hD hS dX3_isAllowed_48
      · have hw := hw.2 c_5
        refine lv_iload_n hx hb dX3_isAllowed_16 rfl (lv_at hl 2 rfl) ?_
        refine lv_sipush (v := (-1000)) hx hb dX3_isAllowed_17 (by decide) ?_
        refine lv_icmp_lt (tgt := 47) hx hb dX3_isAllowed_20 (by decide) (fun c_4 => ?_) (fun c_4 => ?_)
        · have hw := hw.1 c_4
          refine lv_iconst (v := 0) hx hb dX3_isAllowed_47 (by decide) ?_
          exact hret _ () _ _ _ _ (Or.inl rfl) hw hP hD hS dX3_isAllowed_48
        · have hw := hw.2 c_4
          refine lv_iload_n hx hb dX3_isAllowed_23 rfl (lv_at hl 3 rfl) ?_
          refine lv_sipush (v := 1000) hx hb dX3_isAllowed_24 (by decide) ?_
          refine lv_icmp_gt (tgt := 47) hx hb dX3_isAllowed_27 (by decide) (fun c_3 => ?_) (fun c_3 => ?_)
          · have hw := hw.1 c_3
            refine lv_iconst (v := 0) hx hb dX3_isAllowed_47 (by decide) ?_
            exact hret _ () _ _ _ _ (Or.inl rfl) hw hP hD hS dX3_isAllowed_48
          · have hw := hw.2 c_3
            refine lv_iload_n hx hb dX3_isAllowed_30 rfl (lv_at hl 2 rfl) ?_
            refine lv_iload_n hx hb dX3_isAllowed_31 rfl (lv_at hl 3 rfl) ?_
            refine lv_icmp_gt (tgt := 47) hx hb dX3_isAllowed_32 (by decide) (fun c_2 => ?_) (fun c_2 => ?_)
            · have hw := hw.1 c_2
              refine lv_iconst (v := 0) hx hb dX3_isAllowed_47 (by decide) ?_
              exact hret _ () _ _ _ _ (Or.inl rfl) hw hP hD hS dX3_isAllowed_48
            · have hw := hw.2 c_2
              refine lv_iload_n hx hb dX3_isAllowed_35 rfl (lv_at hl 3 rfl) ?_
              refine lv_iload_n hx hb dX3_isAllowed_36 rfl (lv_at hl 2 rfl) ?_
              refine lv_isub hx hb dX3_isAllowed_37 ?_
              refine lv_bipush (v := 14) hx hb dX3_isAllowed_38 (by decide) ?_
              refine lv_icmp_gt (tgt := 47) hx hb dX3_isAllowed_40 (by decide) (fun c_1 => ?_) (fun c_1 => ?_)
              · have hw := hw.1 c_1
                refine lv_iconst (v := 0) hx hb dX3_isAllowed_47 (by decide) ?_
                exact hret _ () _ _ _ _ (Or.inl rfl) hw hP hD hS dX3_isAllowed_48
              · have hw := hw.2 c_1
                refine lv_iconst (v := 1) hx hb dX3_isAllowed_43 (by decide) ?_
                refine lv_goto (tgt := 48) hx hb dX3_isAllowed_44 (by decide) ?_
                exact hret _ () _ _ _ _ (Or.inr rfl) hw hP hD hS dX3_isAllowed_48
set_option maxHeartbeats 4000000 in
set_option maxRecDepth 100000 in
theorem M_X3_power (l : Launch) (G : va_G) (cI cJ : ClassId) (p0 : Int32) (p1 : Int32) (Q : Int64 → Prop) (hw : w_X3_power p0 p1 Q) : Kl l yX3_power wsX3_power rm_X3_power G cI cJ [.int p0, .int p1] (w0 cI cJ) (fun (r : Int64) (u : Unit) => Q r) (fun u => (w0 cI cJ)) := by
  refine kl_intro (cc := cX3_power) (maxL := 5) rfl rfl (by decide) rfl (Nat.le_of_ble_eq_true rfl) ?_
  intro p e s m args below meth c A Z ls hx hb hml hts hown hP hK hD hS hA hl hret
  have hl : lv_has ls 5 [(0, .int p0), (1, .int p1)] := hl
  unfold w_X3_power at hw
  refine lv_lconst (v := 1) hx hb dX3_power_0 (by decide) ?_
  refine lv_lstore_n (lv' := [(2, .long 1), (0, .int p0), (1, .int p1)]) hx hb dX3_power_1 rfl hl (by decide) rfl (fun ls hl => ?_)
  refine lv_iconst (v := 0) hx hb dX3_power_2 (by decide) ?_
  refine lv_istore (lv' := [(4, .int 0), (2, .long 1), (0, .int p0), (1, .int p1)]) hx hb dX3_power_3 hl (by decide) rfl (fun ls hl => ?_)
  obtain ⟨I5_3, μ5_3, hi, hw⟩ := hw
  suffices hLI5_3 : ∀ (N : Nat) (i4_1 : Int32) (i2_2 : Int64) (_ : μ5_3 i4_1 i2_2 = N) (_ : I5_3 i4_1 i2_2) (H : Heap) (locs : List Loc) (ls : Array Slot), va_P G vwCl (w0 cI cJ) H → va_D A (w0 cI cJ) → va_S A s.heap H locs → lv_has ls 5 [(4, .int i4_1), (2, .long i2_2), (0, .int p0), (1, .int p1)] → W p l e rm_X3_power s m args below meth c H locs 0 0 Z (F0 m 5 ls []) from
    hLI5_3 _ (0 : Int32) (1 : Int64) rfl hi _ _ _ hP hD hS (lv_sub hl [0, 1, 2, 3] rfl)
  clear hi hP hD hS hl
  intro N
  induction N using Nat.strongRecOn with
  | ind N ihI5_3 =>
    intro i4_1 i2_2 hNI5_3 hi H locs ls hP hD hS hl
    have hw := hw i4_1 i2_2 hi
    refine lv_iload hx hb dX3_power_5 (lv_at hl 0 rfl) ?_
    refine lv_iload_n hx hb dX3_power_7 rfl (lv_at hl 3 rfl) ?_
    refine lv_icmp_ge (tgt := 22) hx hb dX3_power_8 (by decide) (fun c_6 => ?_) (fun c_6 => ?_)
    · have hw := hw.1 c_6
      refine lv_lload_n hx hb dX3_power_22 rfl (lv_at hl 1 rfl) ?_
      exact hret _ () _ _ _ _ hw hP hD hS dX3_power_23
    · have hw := hw.2 c_6
      refine lv_lload_n hx hb dX3_power_11 rfl (lv_at hl 1 rfl) ?_
      refine lv_iload_n hx hb dX3_power_12 rfl (lv_at hl 2 rfl) ?_
      refine lv_i2l (v := p0.toInt64) hx hb dX3_power_13 rfl ?_
      refine lv_lmul hx hb dX3_power_14 ?_
      refine lv_topl (fun i2_4 ei2_4 => ?_)
      have hw := hw i2_4 ei2_4
      refine lv_lstore_n (lv' := [(2, .long i2_4), (4, .int i4_1), (0, .int p0), (1, .int p1)]) hx hb dX3_power_15 rfl hl (by decide) rfl (fun ls hl => ?_)
      obtain ⟨i4_5, ei4_5⟩ : ∃ y : Int32, y = i4_1 + 1 := ⟨_, rfl⟩
      have hw := hw i4_5 ei4_5
      refine lv_iinc (v := i4_5) (lv' := [(4, .int i4_5), (2, .long i2_4), (0, .int p0), (1, .int p1)]) hx hb dX3_power_16 hl (k := 1) rfl (by rw [ei4_5]; rfl) (by decide) rfl (fun ls hl => ?_)
      refine lv_goto (tgt := 5) hx hb dX3_power_19 (by decide) ?_
      exact ihI5_3 _ (by rw [← hNI5_3]; exact hw.2) i4_5 i2_4 rfl hw.1 _ _ _ hP hD hS (lv_sub hl [0, 1, 2, 3] rfl)
theorem fX3_become_13 : Cond.fieldLink RX3 13 "PrivateCounts$Table" "a" "I" ∈ wsX3_become := by decide +kernel
theorem uX3_become_X3 : ∀ w ∈ u_ws RX3 TX3 5, w ∈ wsX3_become := by decide +kernel
theorem fX3_become_17 : Cond.fieldLink RX3 17 "PrivateCounts$Table" "b" "I" ∈ wsX3_become := by decide +kernel
theorem fX3_become_20 : Cond.fieldLink RX3 20 "PrivateCounts$Table" "low" "I" ∈ wsX3_become := by decide +kernel
theorem fX3_become_23 : Cond.fieldLink RX3 23 "PrivateCounts$Table" "high" "I" ∈ wsX3_become := by decide +kernel
theorem fX3_become_30 : Cond.fieldLink RX3 30 "PrivateCounts$Table" "total" "J" ∈ wsX3_become := by decide +kernel
set_option maxHeartbeats 4000000 in
set_option maxRecDepth 100000 in
theorem M_X3_become (l : Launch) (G : va_G) (cI cJ : ClassId) (Aw : Nat) (wa : Int32) (wb : Int32) (wlo : Int32) (whi : Int32) (wtot : Int64) (p0 : Int32) (p1 : Int32) (p2 : Int32) (p3 : Int32) (Q : Int32 → Int32 → Int32 → Int32 → Int64 → Prop) (hw : w_X3_become p0 p1 p2 p3 Q) : Kv l yX3_become wsX3_become rm_X3_become G cI cJ [.ref Aw, .int p0, .int p1, .int p2, .int p3] (wX3 cI cJ Aw wa wb wlo whi wtot) (fun (u : (Int32) × (Int32) × (Int32) × (Int32) × (Int64)) => Q u.1 u.2.1 u.2.2.1 u.2.2.2.1 u.2.2.2.2) (fun u => (wX3 cI cJ Aw u.1 u.2.1 u.2.2.1 u.2.2.2.1 u.2.2.2.2)) := by
  refine kv_intro (cc := cX3_become) (maxL := 5) rfl rfl (by decide) rfl (Nat.le_of_ble_eq_true rfl) ?_
  intro p e s m args below meth c A Z ls hx hb hml hts hown hP hK hD hS hA hl hret
  have hl : lv_has ls 5 [(0, .ref Aw), (1, .int p0), (2, .int p1), (3, .int p2), (4, .int p3)] := hl
  unfold w_X3_become at hw
  refine lv_aload_n hx hb dX3_become_0 rfl (lv_at hl 0 rfl) ?_
  refine lv_iload_n hx hb dX3_become_1 rfl (lv_at hl 1 rfl) ?_
  refine k_put hx hb hts uX3_become_X3 tyX3 tyX3_ok nmX3 hown hK hP hD hS 0 3 rfl rfl 0 (by decide) fX3_become_13 rfl rfl rfl (Nat.le_of_ble_eq_true rfl) (w' := (wX3 cI cJ Aw p0 wb wlo whi wtot)) rfl dX3_become_2 (fun H locs hP hD hS => ?_)
  refine lv_aload_n hx hb dX3_become_5 rfl (lv_at hl 0 rfl) ?_
  refine lv_iload_n hx hb dX3_become_6 rfl (lv_at hl 2 rfl) ?_
  refine k_put hx hb hts uX3_become_X3 tyX3 tyX3_ok nmX3 hown hK hP hD hS 0 3 rfl rfl 1 (by decide) fX3_become_17 rfl rfl rfl (Nat.le_of_ble_eq_true rfl) (w' := (wX3 cI cJ Aw p0 p1 wlo whi wtot)) rfl dX3_become_7 (fun H locs hP hD hS => ?_)
  refine lv_aload_n hx hb dX3_become_10 rfl (lv_at hl 0 rfl) ?_
  refine lv_iload_n hx hb dX3_become_11 rfl (lv_at hl 3 rfl) ?_
  refine k_put hx hb hts uX3_become_X3 tyX3 tyX3_ok nmX3 hown hK hP hD hS 0 3 rfl rfl 2 (by decide) fX3_become_20 rfl rfl rfl (Nat.le_of_ble_eq_true rfl) (w' := (wX3 cI cJ Aw p0 p1 p2 whi wtot)) rfl dX3_become_12 (fun H locs hP hD hS => ?_)
  refine lv_aload_n hx hb dX3_become_15 rfl (lv_at hl 0 rfl) ?_
  refine lv_iload hx hb dX3_become_16 (lv_at hl 4 rfl) ?_
  refine k_put hx hb hts uX3_become_X3 tyX3 tyX3_ok nmX3 hown hK hP hD hS 0 3 rfl rfl 3 (by decide) fX3_become_23 rfl rfl rfl (Nat.le_of_ble_eq_true rfl) (w' := (wX3 cI cJ Aw p0 p1 p2 p3 wtot)) rfl dX3_become_18 (fun H locs hP hD hS => ?_)
  refine lv_aload_n hx hb dX3_become_21 rfl (lv_at hl 0 rfl) ?_
  refine lv_iload_n hx hb dX3_become_22 rfl (lv_at hl 1 rfl) ?_
  refine lv_iload_n hx hb dX3_become_23 rfl (lv_at hl 2 rfl) ?_
  refine lv_iadd hx hb dX3_become_24 ?_
  refine lv_i2l (v := (p0 + p1).toInt64) hx hb dX3_become_25 rfl ?_
  refine lv_iload_n hx hb dX3_become_26 rfl (lv_at hl 2 rfl) ?_
  refine lv_iload hx hb dX3_become_27 (lv_at hl 4 rfl) ?_
  refine lv_iload_n hx hb dX3_become_29 rfl (lv_at hl 3 rfl) ?_
  refine lv_isub hx hb dX3_become_30 ?_
  refine k_Sl (M_X3_power l G cI cJ p1 (p3 - p2) _ hw) ⟨hx, hb, hml, hown, hts⟩ (va_cwS 2 hts gX3_become_X3_power rfl rfl rfl (by decide +kernel) ⟨Nat.le_of_ble_eq_true rfl, Nat.le_of_ble_eq_true rfl⟩) hK hP hD hS hA [] [0] [0] (wr := [(Aw, .inr (3, [.int p0, .int p1, .int p2, .int p3, .long wtot]))]) (wn := fun u : Unit => (wX3 cI cJ Aw p0 p1 p2 p3 wtot)) rfl rfl (by decide) (by decide) (by decide) (by decide) (fun _ => rfl) (rest := [.long ((p0 + p1).toInt64), .ref Aw]) rfl hl.1 rfl (Nat.le_of_ble_eq_true rfl) (Nat.zero_le _) (Nat.zero_le _) dX3_become_31 (fun r_1 u H locs hw hP hD hS => ?_)
  refine lv_lmul hx hb dX3_become_34 ?_
  refine lv_topl (fun v_2 ev_2 => ?_)
  have hw := hw v_2 ev_2
  refine k_put hx hb hts uX3_become_X3 tyX3 tyX3_ok nmX3 hown hK hP hD hS 0 3 rfl rfl 4 (by decide) fX3_become_30 rfl rfl rfl (Nat.le_of_ble_eq_true rfl) (w' := (wX3 cI cJ Aw p0 p1 p2 p3 v_2)) rfl dX3_become_35 (fun H locs hP hD hS => ?_)
  exact hret (p0, p1, p2, p3, v_2) _ _ _ _ hw hP hD hS dX3_become_38
theorem fX3_holds_20 : Cond.fieldLink RX3 20 "PrivateCounts$Table" "low" "I" ∈ wsX3_holds := by decide +kernel
theorem uX3_holds_X3 : ∀ w ∈ u_ws RX3 TX3 5, w ∈ wsX3_holds := by decide +kernel
theorem fX3_holds_23 : Cond.fieldLink RX3 23 "PrivateCounts$Table" "high" "I" ∈ wsX3_holds := by decide +kernel
set_option maxHeartbeats 4000000 in
set_option maxRecDepth 100000 in
theorem M_X3_holds (l : Launch) (G : va_G) (cI cJ : ClassId) (Aw : Nat) (wa : Int32) (wb : Int32) (wlo : Int32) (whi : Int32) (wtot : Int64) (p0 : Int32) (Q : Int32 → Prop) (hw : w_X3_holds wlo whi p0 Q) : Ki l yX3_holds wsX3_holds rm_X3_holds G cI cJ [.ref Aw, .int p0] (wX3 cI cJ Aw wa wb wlo whi wtot) (fun (r : Int32) (u : Unit) => wB r ∧ Q r) (fun u => (wX3 cI cJ Aw wa wb wlo whi wtot)) := by
  refine kz_intro (cc := cX3_holds) (maxL := 2) rfl rfl (by decide) rfl (Nat.le_of_ble_eq_true rfl) ?_
  intro p e s m args below meth c A Z ls hx hb hml hts hown hP hK hD hS hA hl hret
  have hl : lv_has ls 2 [(0, .ref Aw), (1, .int p0)] := hl
  unfold w_X3_holds at hw
  refine lv_iload_n hx hb dX3_holds_0 rfl (lv_at hl 1 rfl) ?_
  refine lv_aload_n hx hb dX3_holds_1 rfl (lv_at hl 0 rfl) ?_
  refine k_get hx hb hts uX3_holds_X3 hown hK hP 0 3 rfl rfl 2 (by decide) fX3_holds_20 (.int wlo) rfl dX3_holds_2 ?_
  refine lv_icmp_lt (tgt := 20) hx hb dX3_holds_5 (by decide) (fun c_2 => ?_) (fun c_2 => ?_)
  · have hw := hw.1 c_2
    refine lv_iconst (v := 0) hx hb dX3_holds_20 (by decide) ?_
    exact hret _ () _ _ _ _ (Or.inl rfl) hw hP hD hS dX3_holds_21
  · have hw := hw.2 c_2
    refine lv_iload_n hx hb dX3_holds_8 rfl (lv_at hl 1 rfl) ?_
    refine lv_aload_n hx hb dX3_holds_9 rfl (lv_at hl 0 rfl) ?_
    refine k_get hx hb hts uX3_holds_X3 hown hK hP 0 3 rfl rfl 3 (by decide) fX3_holds_23 (.int whi) rfl dX3_holds_10 ?_
    refine lv_icmp_gt (tgt := 20) hx hb dX3_holds_13 (by decide) (fun c_1 => ?_) (fun c_1 => ?_)
    · have hw := hw.1 c_1
      refine lv_iconst (v := 0) hx hb dX3_holds_20 (by decide) ?_
      exact hret _ () _ _ _ _ (Or.inl rfl) hw hP hD hS dX3_holds_21
    · have hw := hw.2 c_1
      refine lv_iconst (v := 1) hx hb dX3_holds_16 (by decide) ?_
      refine lv_goto (tgt := 21) hx hb dX3_holds_17 (by decide) ?_
      exact hret _ () _ _ _ _ (Or.inr rfl) hw hP hD hS dX3_holds_21
theorem fX3_hasCoin_30 : Cond.fieldLink RX3 30 "PrivateCounts$Table" "total" "J" ∈ wsX3_hasCoin := by decide +kernel
theorem uX3_hasCoin_X3 : ∀ w ∈ u_ws RX3 TX3 5, w ∈ wsX3_hasCoin := by decide +kernel
set_option maxHeartbeats 4000000 in
set_option maxRecDepth 100000 in
theorem M_X3_hasCoin (l : Launch) (G : va_G) (cI cJ : ClassId) (Aw : Nat) (wa : Int32) (wb : Int32) (wlo : Int32) (whi : Int32) (wtot : Int64) (p0 : Int64) (Q : Int32 → Prop) (hw : w_X3_hasCoin wtot p0 Q) : Ki l yX3_hasCoin wsX3_hasCoin rm_X3_hasCoin G cI cJ [.ref Aw, .long p0] (wX3 cI cJ Aw wa wb wlo whi wtot) (fun (r : Int32) (u : Unit) => wB r ∧ Q r) (fun u => (wX3 cI cJ Aw wa wb wlo whi wtot)) := by
  refine kz_intro (cc := cX3_hasCoin) (maxL := 3) rfl rfl (by decide) rfl (Nat.le_of_ble_eq_true rfl) ?_
  intro p e s m args below meth c A Z ls hx hb hml hts hown hP hK hD hS hA hl hret
  have hl : lv_has ls 3 [(0, .ref Aw), (1, .long p0)] := hl
  unfold w_X3_hasCoin at hw
  refine lv_lload_n hx hb dX3_hasCoin_0 rfl (lv_at hl 1 rfl) ?_
  refine lv_lconst (v := 0) hx hb dX3_hasCoin_1 (by decide) ?_
  refine k_lif_lt (tgt := 19) hx hb dX3_hasCoin_2 dX3_hasCoin_3 (by decide) (fun c_2 => ?_) (fun c_2 => ?_)
  · have hw := hw.1 c_2
    refine lv_iconst (v := 0) hx hb dX3_hasCoin_19 (by decide) ?_
    exact hret _ () _ _ _ _ (Or.inl rfl) hw hP hD hS dX3_hasCoin_20
  · have hw := hw.2 c_2
    refine lv_lload_n hx hb dX3_hasCoin_6 rfl (lv_at hl 1 rfl) ?_
    refine lv_aload_n hx hb dX3_hasCoin_7 rfl (lv_at hl 0 rfl) ?_
    refine k_get hx hb hts uX3_hasCoin_X3 hown hK hP 0 3 rfl rfl 4 (by decide) fX3_hasCoin_30 (.long wtot) rfl dX3_hasCoin_8 ?_
    refine k_lif_ge (tgt := 19) hx hb dX3_hasCoin_11 dX3_hasCoin_12 (by decide) (fun c_1 => ?_) (fun c_1 => ?_)
    · have hw := hw.1 c_1
      refine lv_iconst (v := 0) hx hb dX3_hasCoin_19 (by decide) ?_
      exact hret _ () _ _ _ _ (Or.inl rfl) hw hP hD hS dX3_hasCoin_20
    · have hw := hw.2 c_1
      refine lv_iconst (v := 1) hx hb dX3_hasCoin_15 (by decide) ?_
      refine lv_goto (tgt := 20) hx hb dX3_hasCoin_16 (by decide) ?_
      exact hret _ () _ _ _ _ (Or.inr rfl) hw hP hD hS dX3_hasCoin_20
theorem fX3_nearestTo_20 : Cond.fieldLink RX3 20 "PrivateCounts$Table" "low" "I" ∈ wsX3_nearestTo := by decide +kernel
theorem uX3_nearestTo_X3 : ∀ w ∈ u_ws RX3 TX3 5, w ∈ wsX3_nearestTo := by decide +kernel
theorem fX3_nearestTo_23 : Cond.fieldLink RX3 23 "PrivateCounts$Table" "high" "I" ∈ wsX3_nearestTo := by decide +kernel
set_option maxHeartbeats 4000000 in
set_option maxRecDepth 100000 in
theorem M_X3_nearestTo (l : Launch) (G : va_G) (cI cJ : ClassId) (Aw : Nat) (wa : Int32) (wb : Int32) (wlo : Int32) (whi : Int32) (wtot : Int64) (p0 : Int32) (Q : Int32 → Prop) (hw : w_X3_nearestTo wlo whi p0 Q) : Ki l yX3_nearestTo wsX3_nearestTo rm_X3_nearestTo G cI cJ [.ref Aw, .int p0] (wX3 cI cJ Aw wa wb wlo whi wtot) (fun (r : Int32) (u : Unit) => Q r) (fun u => (wX3 cI cJ Aw wa wb wlo whi wtot)) := by
  refine ki_intro (cc := cX3_nearestTo) (maxL := 2) rfl rfl (by decide) rfl (Nat.le_of_ble_eq_true rfl) ?_
  intro p e s m args below meth c A Z ls hx hb hml hts hown hP hK hD hS hA hl hret
  have hl : lv_has ls 2 [(0, .ref Aw), (1, .int p0)] := hl
  unfold w_X3_nearestTo at hw
  refine lv_iload_n hx hb dX3_nearestTo_0 rfl (lv_at hl 1 rfl) ?_
  refine lv_aload_n hx hb dX3_nearestTo_1 rfl (lv_at hl 0 rfl) ?_
  refine k_get hx hb hts uX3_nearestTo_X3 hown hK hP 0 3 rfl rfl 2 (by decide) fX3_nearestTo_20 (.int wlo) rfl dX3_nearestTo_2 ?_
  refine lv_icmp_ge (tgt := 15) hx hb dX3_nearestTo_5 (by decide) (fun c_2 => ?_) (fun c_2 => ?_)
  · have hw := hw.1 c_2
    refine lv_iload_n hx hb dX3_nearestTo_15 rfl (lv_at hl 1 rfl) ?_
    refine lv_aload_n hx hb dX3_nearestTo_16 rfl (lv_at hl 0 rfl) ?_
    refine k_get hx hb hts uX3_nearestTo_X3 hown hK hP 0 3 rfl rfl 3 (by decide) fX3_nearestTo_23 (.int whi) rfl dX3_nearestTo_17 ?_
    refine lv_icmp_le (tgt := 30) hx hb dX3_nearestTo_20 (by decide) (fun c_1 => ?_) (fun c_1 => ?_)
    · have hw := hw.1 c_1
      refine lv_iload_n hx hb dX3_nearestTo_30 rfl (lv_at hl 1 rfl) ?_
      exact hret _ () _ _ _ _ hw hP hD hS dX3_nearestTo_31
    · have hw := hw.2 c_1
      refine lv_aload_n hx hb dX3_nearestTo_23 rfl (lv_at hl 0 rfl) ?_
      refine k_get hx hb hts uX3_nearestTo_X3 hown hK hP 0 3 rfl rfl 3 (by decide) fX3_nearestTo_23 (.int whi) rfl dX3_nearestTo_24 ?_
      refine lv_goto (tgt := 31) hx hb dX3_nearestTo_27 (by decide) ?_
      exact hret _ () _ _ _ _ hw hP hD hS dX3_nearestTo_31
  · have hw := hw.2 c_2
    refine lv_aload_n hx hb dX3_nearestTo_8 rfl (lv_at hl 0 rfl) ?_
    refine k_get hx hb hts uX3_nearestTo_X3 hown hK hP 0 3 rfl rfl 2 (by decide) fX3_nearestTo_20 (.int wlo) rfl dX3_nearestTo_9 ?_
    refine lv_goto (tgt := 31) hx hb dX3_nearestTo_12 (by decide) ?_
    exact hret _ () _ _ _ _ hw hP hD hS dX3_nearestTo_31
theorem fX3_weightOf_20 : Cond.fieldLink RX3 20 "PrivateCounts$Table" "low" "I" ∈ wsX3_weightOf := by decide +kernel
theorem uX3_weightOf_X3 : ∀ w ∈ u_ws RX3 TX3 5, w ∈ wsX3_weightOf := by decide +kernel
theorem fX3_weightOf_23 : Cond.fieldLink RX3 23 "PrivateCounts$Table" "high" "I" ∈ wsX3_weightOf := by decide +kernel
theorem fX3_weightOf_17 : Cond.fieldLink RX3 17 "PrivateCounts$Table" "b" "I" ∈ wsX3_weightOf := by decide +kernel
theorem fX3_weightOf_13 : Cond.fieldLink RX3 13 "PrivateCounts$Table" "a" "I" ∈ wsX3_weightOf := by decide +kernel
theorem fX3_weightOf_30 : Cond.fieldLink RX3 30 "PrivateCounts$Table" "total" "J" ∈ wsX3_weightOf := by decide +kernel
set_option maxHeartbeats 4000000 in
set_option maxRecDepth 100000 in
theorem M_X3_weightOf (l : Launch) (G : va_G) (cI cJ : ClassId) (Aw : Nat) (wa : Int32) (wb : Int32) (wlo : Int32) (whi : Int32) (wtot : Int64) (p0 : Int32) (p1 : Int32) (Q : Int64 → Prop) (hw : w_X3_weightOf wa wb wlo whi wtot p0 p1 Q) : Kl l yX3_weightOf wsX3_weightOf rm_X3_weightOf G cI cJ [.ref Aw, .int p0, .int p1] (wX3 cI cJ Aw wa wb wlo whi wtot) (fun (r : Int64) (u : Unit) => Q r) (fun u => (wX3 cI cJ Aw wa wb wlo whi wtot)) := by
  refine kl_intro (cc := cX3_weightOf) (maxL := 5) rfl rfl (by decide) rfl (Nat.le_of_ble_eq_true rfl) ?_
  intro p e s m args below meth c A Z ls hx hb hml hts hown hP hK hD hS hA hl hret
  have hl : lv_has ls 5 [(0, .ref Aw), (1, .int p0), (2, .int p1)] := hl
  unfold w_X3_weightOf at hw
  refine lv_aload_n hx hb dX3_weightOf_0 rfl (lv_at hl 0 rfl) ?_
  refine lv_iload_n hx hb dX3_weightOf_1 rfl (lv_at hl 1 rfl) ?_
  refine k_Vi (M_X3_holds l G cI cJ Aw wa wb wlo whi wtot p0 _ hw) ⟨hx, hb, hml, hown, hts⟩ (cwV 1 hts gX3_weightOf_X3_holds rfl rfl rfl (by decide +kernel) ⟨Nat.le_of_ble_eq_true rfl, Nat.le_of_ble_eq_true rfl⟩) hK hP hD hS hA [0] [] [0] (wr := []) (wn := fun u : Unit => (wX3 cI cJ Aw wa wb wlo whi wtot)) rfl rfl (by decide) (by decide) (by decide) (by decide) (fun _ => rfl) (rest := []) (q0 := 0) rfl rfl rfl hl.1 rfl (Nat.le_of_ble_eq_true rfl) (Nat.zero_le _) (Nat.zero_le _) dX3_weightOf_2 (fun r_1 u H locs hw hP hD hS => ?_)
  obtain ⟨hzr_1, hw⟩ := hw
  refine lv_if_eq (tgt := 16) hx hb dX3_weightOf_5 (by decide) (fun c_20 => ?_) (fun c_20 => ?_)
  · have hw := hw.1 c_20
    refine lv_lconst (v := 0) hx hb dX3_weightOf_16 (by decide) ?_
    exact hret _ () _ _ _ _ hw hP hD hS dX3_weightOf_17
  · have hw := hw.2 c_20
    refine lv_aload_n hx hb dX3_weightOf_8 rfl (lv_at hl 0 rfl) ?_
    refine lv_iload_n hx hb dX3_weightOf_9 rfl (lv_at hl 2 rfl) ?_
    refine k_Vi (M_X3_holds l G cI cJ Aw wa wb wlo whi wtot p1 _ hw) ⟨hx, hb, hml, hown, hts⟩ (cwV 1 hts gX3_weightOf_X3_holds rfl rfl rfl (by decide +kernel) ⟨Nat.le_of_ble_eq_true rfl, Nat.le_of_ble_eq_true rfl⟩) hK hP hD hS hA [0] [] [0] (wr := []) (wn := fun u : Unit => (wX3 cI cJ Aw wa wb wlo whi wtot)) rfl rfl (by decide) (by decide) (by decide) (by decide) (fun _ => rfl) (rest := []) (q0 := 0) rfl rfl rfl hl.1 rfl (Nat.le_of_ble_eq_true rfl) (Nat.zero_le _) (Nat.zero_le _) dX3_weightOf_10 (fun r_2 u H locs hw hP hD hS => ?_)
    obtain ⟨hzr_2, hw⟩ := hw
    refine lv_if_ne (tgt := 18) hx hb dX3_weightOf_13 (by decide) (fun c_19 => ?_) (fun c_19 => ?_)
    · have hw := hw.1 c_19
      refine lv_aload_n hx hb dX3_weightOf_18 rfl (lv_at hl 0 rfl) ?_
      refine k_get hx hb hts uX3_weightOf_X3 hown hK hP 0 3 rfl rfl 2 (by decide) fX3_weightOf_20 (.int wlo) rfl dX3_weightOf_19 ?_
      refine lv_aload_n hx hb dX3_weightOf_22 rfl (lv_at hl 0 rfl) ?_
      refine k_get hx hb hts uX3_weightOf_X3 hown hK hP 0 3 rfl rfl 3 (by decide) fX3_weightOf_23 (.int whi) rfl dX3_weightOf_23 ?_
      refine lv_icmp_ne (tgt := 34) hx hb dX3_weightOf_26 (by decide) (fun c_18 => ?_) (fun c_18 => ?_)
      · have hw := hw.1 c_18
        refine lv_aload_n hx hb dX3_weightOf_34 rfl (lv_at hl 0 rfl) ?_
        refine k_get hx hb hts uX3_weightOf_X3 hown hK hP 0 3 rfl rfl 3 (by decide) fX3_weightOf_23 (.int whi) rfl dX3_weightOf_35 ?_
        refine lv_aload_n hx hb dX3_weightOf_38 rfl (lv_at hl 0 rfl) ?_
        refine k_get hx hb hts uX3_weightOf_X3 hown hK hP 0 3 rfl rfl 2 (by decide) fX3_weightOf_20 (.int wlo) rfl dX3_weightOf_39 ?_
        refine lv_isub hx hb dX3_weightOf_42 ?_
        refine lv_topi (fun i3_3 ei3_3 => ?_)
        have hw := hw i3_3 ei3_3
        refine lv_istore_n (lv' := [(3, .int i3_3), (0, .ref Aw), (1, .int p0), (2, .int p1)]) hx hb dX3_weightOf_43 rfl hl (by decide) rfl (fun ls hl => ?_)
        refine lv_iload_n hx hb dX3_weightOf_44 rfl (lv_at hl 2 rfl) ?_
        refine lv_iload_n hx hb dX3_weightOf_45 rfl (lv_at hl 3 rfl) ?_
        obtain ⟨J58_5, hw, hR⟩ := hw
        have hJ58_5 : ∀ (t_4 : Int32) (_ : J58_5 t_4) (H : Heap) (locs : List Loc) (ls : Array Slot), va_P G vwCl (wX3 cI cJ Aw wa wb wlo whi wtot) H → va_D A (wX3 cI cJ Aw wa wb wlo whi wtot) → va_S A s.heap H locs → lv_has ls 5 [(3, .int i3_3), (0, .ref Aw), (2, .int p1)] → W p l e rm_X3_weightOf s m args below meth c H locs 0 0 Z (F0 m 58 ls [.int t_4]) := by
          intro t_4 hw H locs ls hP hD hS hl
          have hw := hR _ hw
          refine lv_istore (lv' := [(4, .int t_4), (3, .int i3_3), (0, .ref Aw), (2, .int p1)]) hx hb dX3_weightOf_58 hl (by decide) rfl (fun ls hl => ?_)
          refine lv_iload_n hx hb dX3_weightOf_60 rfl (lv_at hl 3 rfl) ?_
          refine lv_aload_n hx hb dX3_weightOf_61 rfl (lv_at hl 2 rfl) ?_
          refine k_get hx hb hts uX3_weightOf_X3 hown hK hP 0 3 rfl rfl 2 (by decide) fX3_weightOf_20 (.int wlo) rfl dX3_weightOf_62 ?_
          refine lv_icmp_eq (tgt := 76) hx hb dX3_weightOf_65 (by decide) (fun c_17 => ?_) (fun c_17 => ?_)
          · have hw := hw.1 c_17
            refine lv_aload_n hx hb dX3_weightOf_76 rfl (lv_at hl 2 rfl) ?_
            refine k_get hx hb hts uX3_weightOf_X3 hown hK hP 0 3 rfl rfl 1 (by decide) fX3_weightOf_17 (.int wb) rfl dX3_weightOf_77 ?_
            refine lv_iload_n hx hb dX3_weightOf_80 rfl (lv_at hl 1 rfl) ?_
            refine lv_iconst (v := 1) hx hb dX3_weightOf_81 (by decide) ?_
            refine lv_iadd hx hb dX3_weightOf_82 ?_
            refine lv_iload hx hb dX3_weightOf_83 (lv_at hl 0 rfl) ?_
            refine lv_isub hx hb dX3_weightOf_85 ?_
            refine lv_topi (fun v_7 ev_7 => ?_)
            have hw := hw v_7 ev_7
            refine k_Sl (M_X3_power l G cI cJ wb v_7 _ hw) ⟨hx, hb, hml, hown, hts⟩ (va_cwS 2 hts gX3_weightOf_X3_power rfl rfl rfl (by decide +kernel) ⟨Nat.le_of_ble_eq_true rfl, Nat.le_of_ble_eq_true rfl⟩) hK hP hD hS hA [] [0] [0] (wr := [(Aw, .inr (3, [.int wa, .int wb, .int wlo, .int whi, .long wtot]))]) (wn := fun u : Unit => (wX3 cI cJ Aw wa wb wlo whi wtot)) rfl rfl (by decide) (by decide) (by decide) (by decide) (fun _ => rfl) (rest := []) rfl hl.1 rfl (Nat.le_of_ble_eq_true rfl) (Nat.zero_le _) (Nat.zero_le _) dX3_weightOf_86 (fun r_8 u H locs hw hP hD hS => ?_)
            refine lv_aload_n hx hb dX3_weightOf_89 rfl (lv_at hl 2 rfl) ?_
            refine k_get hx hb hts uX3_weightOf_X3 hown hK hP 0 3 rfl rfl 0 (by decide) fX3_weightOf_13 (.int wa) rfl dX3_weightOf_90 ?_
            refine lv_iload hx hb dX3_weightOf_93 (lv_at hl 0 rfl) ?_
            refine k_Sl (M_X3_power l G cI cJ wa t_4 _ hw) ⟨hx, hb, hml, hown, hts⟩ (va_cwS 2 hts gX3_weightOf_X3_power rfl rfl rfl (by decide +kernel) ⟨Nat.le_of_ble_eq_true rfl, Nat.le_of_ble_eq_true rfl⟩) hK hP hD hS hA [] [0] [0] (wr := [(Aw, .inr (3, [.int wa, .int wb, .int wlo, .int whi, .long wtot]))]) (wn := fun u : Unit => (wX3 cI cJ Aw wa wb wlo whi wtot)) rfl rfl (by decide) (by decide) (by decide) (by decide) (fun _ => rfl) (rest := [.long r_8]) rfl hl.1 rfl (Nat.le_of_ble_eq_true rfl) (Nat.zero_le _) (Nat.zero_le _) dX3_weightOf_95 (fun r_9 u H locs hw hP hD hS => ?_)
            refine lv_lmul hx hb dX3_weightOf_98 ?_
            exact hret _ () _ _ _ _ hw hP hD hS dX3_weightOf_99
          · have hw := hw.2 c_17
            refine lv_iload_n hx hb dX3_weightOf_68 rfl (lv_at hl 3 rfl) ?_
            refine lv_aload_n hx hb dX3_weightOf_69 rfl (lv_at hl 2 rfl) ?_
            refine k_get hx hb hts uX3_weightOf_X3 hown hK hP 0 3 rfl rfl 3 (by decide) fX3_weightOf_23 (.int whi) rfl dX3_weightOf_70 ?_
            refine lv_icmp_ne (tgt := 100) hx hb dX3_weightOf_73 (by decide) (fun c_16 => ?_) (fun c_16 => ?_)
            · have hw := hw.1 c_16
              refine lv_aload_n hx hb dX3_weightOf_100 rfl (lv_at hl 2 rfl) ?_
              refine k_get hx hb hts uX3_weightOf_X3 hown hK hP 0 3 rfl rfl 1 (by decide) fX3_weightOf_17 (.int wb) rfl dX3_weightOf_101 ?_
              refine lv_aload_n hx hb dX3_weightOf_104 rfl (lv_at hl 2 rfl) ?_
              refine k_get hx hb hts uX3_weightOf_X3 hown hK hP 0 3 rfl rfl 0 (by decide) fX3_weightOf_13 (.int wa) rfl dX3_weightOf_105 ?_
              refine lv_isub hx hb dX3_weightOf_108 ?_
              refine lv_i2l (v := (wb - wa).toInt64) hx hb dX3_weightOf_109 rfl ?_
              refine lv_aload_n hx hb dX3_weightOf_110 rfl (lv_at hl 2 rfl) ?_
              refine k_get hx hb hts uX3_weightOf_X3 hown hK hP 0 3 rfl rfl 1 (by decide) fX3_weightOf_17 (.int wb) rfl dX3_weightOf_111 ?_
              refine lv_iload_n hx hb dX3_weightOf_114 rfl (lv_at hl 1 rfl) ?_
              refine lv_iload hx hb dX3_weightOf_115 (lv_at hl 0 rfl) ?_
              refine lv_isub hx hb dX3_weightOf_117 ?_
              refine k_Sl (M_X3_power l G cI cJ wb (i3_3 - t_4) _ hw) ⟨hx, hb, hml, hown, hts⟩ (va_cwS 2 hts gX3_weightOf_X3_power rfl rfl rfl (by decide +kernel) ⟨Nat.le_of_ble_eq_true rfl, Nat.le_of_ble_eq_true rfl⟩) hK hP hD hS hA [] [0] [0] (wr := [(Aw, .inr (3, [.int wa, .int wb, .int wlo, .int whi, .long wtot]))]) (wn := fun u : Unit => (wX3 cI cJ Aw wa wb wlo whi wtot)) rfl rfl (by decide) (by decide) (by decide) (by decide) (fun _ => rfl) (rest := [.long ((wb - wa).toInt64)]) rfl hl.1 rfl (Nat.le_of_ble_eq_true rfl) (Nat.zero_le _) (Nat.zero_le _) dX3_weightOf_118 (fun r_10 u H locs hw hP hD hS => ?_)
              refine lv_lmul hx hb dX3_weightOf_121 ?_
              refine lv_topl (fun v_11 ev_11 => ?_)
              have hw := hw v_11 ev_11
              refine lv_aload_n hx hb dX3_weightOf_122 rfl (lv_at hl 2 rfl) ?_
              refine k_get hx hb hts uX3_weightOf_X3 hown hK hP 0 3 rfl rfl 0 (by decide) fX3_weightOf_13 (.int wa) rfl dX3_weightOf_123 ?_
              refine lv_iload hx hb dX3_weightOf_126 (lv_at hl 0 rfl) ?_
              refine k_Sl (M_X3_power l G cI cJ wa t_4 _ hw) ⟨hx, hb, hml, hown, hts⟩ (va_cwS 2 hts gX3_weightOf_X3_power rfl rfl rfl (by decide +kernel) ⟨Nat.le_of_ble_eq_true rfl, Nat.le_of_ble_eq_true rfl⟩) hK hP hD hS hA [] [0] [0] (wr := [(Aw, .inr (3, [.int wa, .int wb, .int wlo, .int whi, .long wtot]))]) (wn := fun u : Unit => (wX3 cI cJ Aw wa wb wlo whi wtot)) rfl rfl (by decide) (by decide) (by decide) (by decide) (fun _ => rfl) (rest := [.long v_11]) rfl hl.1 rfl (Nat.le_of_ble_eq_true rfl) (Nat.zero_le _) (Nat.zero_le _) dX3_weightOf_128 (fun r_12 u H locs hw hP hD hS => ?_)
              refine lv_lmul hx hb dX3_weightOf_131 ?_
              exact hret _ () _ _ _ _ hw hP hD hS dX3_weightOf_132
            · have hw := hw.2 c_16
              refine lv_aload_n hx hb dX3_weightOf_76 rfl (lv_at hl 2 rfl) ?_
              refine k_get hx hb hts uX3_weightOf_X3 hown hK hP 0 3 rfl rfl 1 (by decide) fX3_weightOf_17 (.int wb) rfl dX3_weightOf_77 ?_
              refine lv_iload_n hx hb dX3_weightOf_80 rfl (lv_at hl 1 rfl) ?_
              refine lv_iconst (v := 1) hx hb dX3_weightOf_81 (by decide) ?_
              refine lv_iadd hx hb dX3_weightOf_82 ?_
              refine lv_iload hx hb dX3_weightOf_83 (lv_at hl 0 rfl) ?_
              refine lv_isub hx hb dX3_weightOf_85 ?_
              refine lv_topi (fun v_13 ev_13 => ?_)
              have hw := hw v_13 ev_13
              refine k_Sl (M_X3_power l G cI cJ wb v_13 _ hw) ⟨hx, hb, hml, hown, hts⟩ (va_cwS 2 hts gX3_weightOf_X3_power rfl rfl rfl (by decide +kernel) ⟨Nat.le_of_ble_eq_true rfl, Nat.le_of_ble_eq_true rfl⟩) hK hP hD hS hA [] [0] [0] (wr := [(Aw, .inr (3, [.int wa, .int wb, .int wlo, .int whi, .long wtot]))]) (wn := fun u : Unit => (wX3 cI cJ Aw wa wb wlo whi wtot)) rfl rfl (by decide) (by decide) (by decide) (by decide) (fun _ => rfl) (rest := []) rfl hl.1 rfl (Nat.le_of_ble_eq_true rfl) (Nat.zero_le _) (Nat.zero_le _) dX3_weightOf_86 (fun r_14 u H locs hw hP hD hS => ?_)
              refine lv_aload_n hx hb dX3_weightOf_89 rfl (lv_at hl 2 rfl) ?_
              refine k_get hx hb hts uX3_weightOf_X3 hown hK hP 0 3 rfl rfl 0 (by decide) fX3_weightOf_13 (.int wa) rfl dX3_weightOf_90 ?_
              refine lv_iload hx hb dX3_weightOf_93 (lv_at hl 0 rfl) ?_
              refine k_Sl (M_X3_power l G cI cJ wa t_4 _ hw) ⟨hx, hb, hml, hown, hts⟩ (va_cwS 2 hts gX3_weightOf_X3_power rfl rfl rfl (by decide +kernel) ⟨Nat.le_of_ble_eq_true rfl, Nat.le_of_ble_eq_true rfl⟩) hK hP hD hS hA [] [0] [0] (wr := [(Aw, .inr (3, [.int wa, .int wb, .int wlo, .int whi, .long wtot]))]) (wn := fun u : Unit => (wX3 cI cJ Aw wa wb wlo whi wtot)) rfl rfl (by decide) (by decide) (by decide) (by decide) (fun _ => rfl) (rest := [.long r_14]) rfl hl.1 rfl (Nat.le_of_ble_eq_true rfl) (Nat.zero_le _) (Nat.zero_le _) dX3_weightOf_95 (fun r_15 u H locs hw hP hD hS => ?_)
              refine lv_lmul hx hb dX3_weightOf_98 ?_
              exact hret _ () _ _ _ _ hw hP hD hS dX3_weightOf_99
        clear hR
        refine lv_icmp_ge (tgt := 55) hx hb dX3_weightOf_46 (by decide) (fun c_6 => ?_) (fun c_6 => ?_)
        · have hw := hw.1 c_6
          refine lv_iload_n hx hb dX3_weightOf_55 rfl (lv_at hl 2 rfl) ?_
          refine lv_iload_n hx hb dX3_weightOf_56 rfl (lv_at hl 3 rfl) ?_
          refine lv_isub hx hb dX3_weightOf_57 ?_
          exact hJ58_5 (p0 - p1) hw _ _ _ hP hD hS (lv_sub hl [0, 1, 3] rfl)
        · have hw := hw.2 c_6
          refine lv_iload_n hx hb dX3_weightOf_49 rfl (lv_at hl 3 rfl) ?_
          refine lv_iload_n hx hb dX3_weightOf_50 rfl (lv_at hl 2 rfl) ?_
          refine lv_isub hx hb dX3_weightOf_51 ?_
          refine lv_goto (tgt := 58) hx hb dX3_weightOf_52 (by decide) ?_
          exact hJ58_5 (p1 - p0) hw _ _ _ hP hD hS (lv_sub hl [0, 1, 3] rfl)
      · have hw := hw.2 c_18
        refine lv_aload_n hx hb dX3_weightOf_29 rfl (lv_at hl 0 rfl) ?_
        refine k_get hx hb hts uX3_weightOf_X3 hown hK hP 0 3 rfl rfl 4 (by decide) fX3_weightOf_30 (.long wtot) rfl dX3_weightOf_30 ?_
        exact hret _ () _ _ _ _ hw hP hD hS dX3_weightOf_33
    · have hw := hw.2 c_19
      refine lv_lconst (v := 0) hx hb dX3_weightOf_16 (by decide) ?_
      exact hret _ () _ _ _ _ hw hP hD hS dX3_weightOf_17
theorem fX3_sumTo_20 : Cond.fieldLink RX3 20 "PrivateCounts$Table" "low" "I" ∈ wsX3_sumTo := by decide +kernel
theorem uX3_sumTo_X3 : ∀ w ∈ u_ws RX3 TX3 5, w ∈ wsX3_sumTo := by decide +kernel
theorem fX3_sumTo_23 : Cond.fieldLink RX3 23 "PrivateCounts$Table" "high" "I" ∈ wsX3_sumTo := by decide +kernel
set_option maxHeartbeats 4000000 in
set_option maxRecDepth 100000 in
theorem M_X3_sumTo (l : Launch) (G : va_G) (cI cJ : ClassId) (Aw : Nat) (wa : Int32) (wb : Int32) (wlo : Int32) (whi : Int32) (wtot : Int64) (p0 : Int32) (p1 : Int32) (Q : Int64 → Prop) (hw : w_X3_sumTo wa wb wlo whi wtot p0 p1 Q) : Kl l yX3_sumTo wsX3_sumTo rm_X3_sumTo G cI cJ [.ref Aw, .int p0, .int p1] (wX3 cI cJ Aw wa wb wlo whi wtot) (fun (r : Int64) (u : Unit) => Q r) (fun u => (wX3 cI cJ Aw wa wb wlo whi wtot)) := by
  refine kl_intro (cc := cX3_sumTo) (maxL := 6) rfl rfl (by decide) rfl (Nat.le_of_ble_eq_true rfl) ?_
  intro p e s m args below meth c A Z ls hx hb hml hts hown hP hK hD hS hA hl hret
  have hl : lv_has ls 6 [(0, .ref Aw), (1, .int p0), (2, .int p1)] := hl
  unfold w_X3_sumTo at hw
  refine lv_lconst (v := 0) hx hb dX3_sumTo_0 (by decide) ?_
  refine lv_lstore_n (lv' := [(3, .long 0), (0, .ref Aw), (1, .int p0), (2, .int p1)]) hx hb dX3_sumTo_1 rfl hl (by decide) rfl (fun ls hl => ?_)
  refine lv_aload_n hx hb dX3_sumTo_2 rfl (lv_at hl 1 rfl) ?_
  refine k_get hx hb hts uX3_sumTo_X3 hown hK hP 0 3 rfl rfl 2 (by decide) fX3_sumTo_20 (.int wlo) rfl dX3_sumTo_3 ?_
  refine lv_istore (lv' := [(5, .int wlo), (3, .long 0), (0, .ref Aw), (1, .int p0), (2, .int p1)]) hx hb dX3_sumTo_6 hl (by decide) rfl (fun ls hl => ?_)
  obtain ⟨I8_3, μ8_3, hi, hw⟩ := hw
  suffices hLI8_3 : ∀ (N : Nat) (i5_1 : Int32) (i3_2 : Int64) (_ : μ8_3 i5_1 i3_2 = N) (_ : I8_3 i5_1 i3_2) (H : Heap) (locs : List Loc) (ls : Array Slot), va_P G vwCl (wX3 cI cJ Aw wa wb wlo whi wtot) H → va_D A (wX3 cI cJ Aw wa wb wlo whi wtot) → va_S A s.heap H locs → lv_has ls 6 [(5, .int i5_1), (3, .long i3_2), (0, .ref Aw), (1, .int p0), (2, .int p1)] → W p l e rm_X3_sumTo s m args below meth c H locs 0 0 Z (F0 m 8 ls []) from
    hLI8_3 _ wlo (0 : Int64) rfl hi _ _ _ hP hD hS (lv_sub hl [0, 1, 2, 3, 4] rfl)
  clear hi hP hD hS hl
  intro N
  induction N using Nat.strongRecOn with
  | ind N ihI8_3 =>
    intro i5_1 i3_2 hNI8_3 hi H locs ls hP hD hS hl
    have hw := hw i5_1 i3_2 hi
    refine lv_iload hx hb dX3_sumTo_8 (lv_at hl 0 rfl) ?_
    refine lv_aload_n hx hb dX3_sumTo_10 rfl (lv_at hl 2 rfl) ?_
    refine k_get hx hb hts uX3_sumTo_X3 hown hK hP 0 3 rfl rfl 3 (by decide) fX3_sumTo_23 (.int whi) rfl dX3_sumTo_11 ?_
    refine lv_icmp_gt (tgt := 39) hx hb dX3_sumTo_14 (by decide) (fun c_8 => ?_) (fun c_8 => ?_)
    · have hw := hw.1 c_8
      refine lv_lload_n hx hb dX3_sumTo_39 rfl (lv_at hl 1 rfl) ?_
      exact hret _ () _ _ _ _ hw hP hD hS dX3_sumTo_40
    · have hw := hw.2 c_8
      refine lv_iload hx hb dX3_sumTo_17 (lv_at hl 0 rfl) ?_
      refine lv_iload_n hx hb dX3_sumTo_19 rfl (lv_at hl 4 rfl) ?_
      refine lv_icmp_gt (tgt := 39) hx hb dX3_sumTo_20 (by decide) (fun c_7 => ?_) (fun c_7 => ?_)
      · have hw := hw.1 c_7
        refine lv_lload_n hx hb dX3_sumTo_39 rfl (lv_at hl 1 rfl) ?_
        exact hret _ () _ _ _ _ hw hP hD hS dX3_sumTo_40
      · have hw := hw.2 c_7
        refine lv_lload_n hx hb dX3_sumTo_23 rfl (lv_at hl 1 rfl) ?_
        refine lv_aload_n hx hb dX3_sumTo_24 rfl (lv_at hl 2 rfl) ?_
        refine lv_iload_n hx hb dX3_sumTo_25 rfl (lv_at hl 3 rfl) ?_
        refine lv_iload hx hb dX3_sumTo_26 (lv_at hl 0 rfl) ?_
        refine k_Vl (M_X3_weightOf l G cI cJ Aw wa wb wlo whi wtot p0 i5_1 _ hw) ⟨hx, hb, hml, hown, hts⟩ (cwV 2 hts gX3_sumTo_X3_weightOf rfl rfl rfl (by decide +kernel) ⟨Nat.le_of_ble_eq_true rfl, Nat.le_of_ble_eq_true rfl⟩) hK hP hD hS hA [0] [] [0] (wr := []) (wn := fun u : Unit => (wX3 cI cJ Aw wa wb wlo whi wtot)) rfl rfl (by decide) (by decide) (by decide) (by decide) (fun _ => rfl) (rest := [.long i3_2]) (q0 := 0) rfl rfl rfl hl.1 rfl (Nat.le_of_ble_eq_true rfl) (Nat.zero_le _) (Nat.zero_le _) dX3_sumTo_28 (fun r_4 u H locs hw hP hD hS => ?_)
        refine lv_ladd hx hb dX3_sumTo_31 ?_
        refine lv_topl (fun i3_5 ei3_5 => ?_)
        have hw := hw i3_5 ei3_5
        refine lv_lstore_n (lv' := [(3, .long i3_5), (5, .int i5_1), (0, .ref Aw), (1, .int p0), (2, .int p1)]) hx hb dX3_sumTo_32 rfl hl (by decide) rfl (fun ls hl => ?_)
        obtain ⟨i5_6, ei5_6⟩ : ∃ y : Int32, y = i5_1 + 1 := ⟨_, rfl⟩
        have hw := hw i5_6 ei5_6
        refine lv_iinc (v := i5_6) (lv' := [(5, .int i5_6), (3, .long i3_5), (0, .ref Aw), (1, .int p0), (2, .int p1)]) hx hb dX3_sumTo_33 hl (k := 1) rfl (by rw [ei5_6]; rfl) (by decide) rfl (fun ls hl => ?_)
        refine lv_goto (tgt := 8) hx hb dX3_sumTo_36 (by decide) ?_
        exact ihI8_3 _ (by rw [← hNI8_3]; exact hw.2) i5_6 i3_5 rfl hw.1 _ _ _ hP hD hS (lv_sub hl [0, 1, 2, 3, 4] rfl)
theorem fX3_outcomeOf_20 : Cond.fieldLink RX3 20 "PrivateCounts$Table" "low" "I" ∈ wsX3_outcomeOf := by decide +kernel
theorem uX3_outcomeOf_X3 : ∀ w ∈ u_ws RX3 TX3 5, w ∈ wsX3_outcomeOf := by decide +kernel
theorem fX3_outcomeOf_23 : Cond.fieldLink RX3 23 "PrivateCounts$Table" "high" "I" ∈ wsX3_outcomeOf := by decide +kernel
set_option maxHeartbeats 4000000 in
set_option maxRecDepth 100000 in
theorem M_X3_outcomeOf (l : Launch) (G : va_G) (cI cJ : ClassId) (Aw : Nat) (wa : Int32) (wb : Int32) (wlo : Int32) (whi : Int32) (wtot : Int64) (p0 : Int32) (p1 : Int64) (Q : Int32 → Prop) (hw : w_X3_outcomeOf wa wb wlo whi wtot p0 p1 Q) : Ki l yX3_outcomeOf wsX3_outcomeOf rm_X3_outcomeOf G cI cJ [.ref Aw, .int p0, .long p1] (wX3 cI cJ Aw wa wb wlo whi wtot) (fun (r : Int32) (u : Unit) => Q r) (fun u => (wX3 cI cJ Aw wa wb wlo whi wtot)) := by
  refine ki_intro (cc := cX3_outcomeOf) (maxL := 7) rfl rfl (by decide) rfl (Nat.le_of_ble_eq_true rfl) ?_
  intro p e s m args below meth c A Z ls hx hb hml hts hown hP hK hD hS hA hl hret
  have hl : lv_has ls 7 [(0, .ref Aw), (1, .int p0), (2, .long p1)] := hl
  unfold w_X3_outcomeOf at hw
  refine lv_lconst (v := 0) hx hb dX3_outcomeOf_0 (by decide) ?_
  refine lv_lstore (lv' := [(4, .long 0), (0, .ref Aw), (1, .int p0), (2, .long p1)]) hx hb dX3_outcomeOf_1 hl (by decide) rfl (fun ls hl => ?_)
  refine lv_aload_n hx hb dX3_outcomeOf_3 rfl (lv_at hl 1 rfl) ?_
  refine k_get hx hb hts uX3_outcomeOf_X3 hown hK hP 0 3 rfl rfl 2 (by decide) fX3_outcomeOf_20 (.int wlo) rfl dX3_outcomeOf_4 ?_
  refine lv_istore (lv' := [(6, .int wlo), (4, .long 0), (0, .ref Aw), (1, .int p0), (2, .long p1)]) hx hb dX3_outcomeOf_7 hl (by decide) rfl (fun ls hl => ?_)
  obtain ⟨I9_3, μ9_3, hi, hw⟩ := hw
  suffices hLI9_3 : ∀ (N : Nat) (i6_1 : Int32) (i4_2 : Int64) (_ : μ9_3 i6_1 i4_2 = N) (_ : I9_3 i6_1 i4_2) (H : Heap) (locs : List Loc) (ls : Array Slot), va_P G vwCl (wX3 cI cJ Aw wa wb wlo whi wtot) H → va_D A (wX3 cI cJ Aw wa wb wlo whi wtot) → va_S A s.heap H locs → lv_has ls 7 [(6, .int i6_1), (4, .long i4_2), (0, .ref Aw), (1, .int p0), (2, .long p1)] → W p l e rm_X3_outcomeOf s m args below meth c H locs 0 0 Z (F0 m 9 ls []) from
    hLI9_3 _ wlo (0 : Int64) rfl hi _ _ _ hP hD hS (lv_sub hl [0, 1, 2, 3, 4] rfl)
  clear hi hP hD hS hl
  intro N
  induction N using Nat.strongRecOn with
  | ind N ihI9_3 =>
    intro i6_1 i4_2 hNI9_3 hi H locs ls hP hD hS hl
    have hw := hw i6_1 i4_2 hi
    refine lv_iload hx hb dX3_outcomeOf_9 (lv_at hl 0 rfl) ?_
    refine lv_aload_n hx hb dX3_outcomeOf_11 rfl (lv_at hl 2 rfl) ?_
    refine k_get hx hb hts uX3_outcomeOf_X3 hown hK hP 0 3 rfl rfl 3 (by decide) fX3_outcomeOf_23 (.int whi) rfl dX3_outcomeOf_12 ?_
    refine lv_icmp_ge (tgt := 46) hx hb dX3_outcomeOf_15 (by decide) (fun c_8 => ?_) (fun c_8 => ?_)
    · have hw := hw.1 c_8
      refine lv_aload_n hx hb dX3_outcomeOf_46 rfl (lv_at hl 2 rfl) ?_
      refine k_get hx hb hts uX3_outcomeOf_X3 hown hK hP 0 3 rfl rfl 3 (by decide) fX3_outcomeOf_23 (.int whi) rfl dX3_outcomeOf_47 ?_
      exact hret _ () _ _ _ _ hw hP hD hS dX3_outcomeOf_50
    · have hw := hw.2 c_8
      refine lv_lload hx hb dX3_outcomeOf_18 (lv_at hl 1 rfl) ?_
      refine lv_aload_n hx hb dX3_outcomeOf_20 rfl (lv_at hl 2 rfl) ?_
      refine lv_iload_n hx hb dX3_outcomeOf_21 rfl (lv_at hl 3 rfl) ?_
      refine lv_iload hx hb dX3_outcomeOf_22 (lv_at hl 0 rfl) ?_
      refine k_Vl (M_X3_weightOf l G cI cJ Aw wa wb wlo whi wtot p0 i6_1 _ hw) ⟨hx, hb, hml, hown, hts⟩ (cwV 2 hts gX3_outcomeOf_X3_weightOf rfl rfl rfl (by decide +kernel) ⟨Nat.le_of_ble_eq_true rfl, Nat.le_of_ble_eq_true rfl⟩) hK hP hD hS hA [0] [] [0] (wr := []) (wn := fun u : Unit => (wX3 cI cJ Aw wa wb wlo whi wtot)) rfl rfl (by decide) (by decide) (by decide) (by decide) (fun _ => rfl) (rest := [.long i4_2]) (q0 := 0) rfl rfl rfl hl.1 rfl (Nat.le_of_ble_eq_true rfl) (Nat.zero_le _) (Nat.zero_le _) dX3_outcomeOf_24 (fun r_4 u H locs hw hP hD hS => ?_)
      refine lv_ladd hx hb dX3_outcomeOf_27 ?_
      refine lv_topl (fun i4_5 ei4_5 => ?_)
      have hw := hw i4_5 ei4_5
      refine lv_lstore (lv' := [(4, .long i4_5), (6, .int i6_1), (0, .ref Aw), (1, .int p0), (2, .long p1)]) hx hb dX3_outcomeOf_28 hl (by decide) rfl (fun ls hl => ?_)
      refine lv_lload hx hb dX3_outcomeOf_30 (lv_at hl 0 rfl) ?_
      refine lv_lload_n hx hb dX3_outcomeOf_32 rfl (lv_at hl 4 rfl) ?_
      refine k_lif_le (tgt := 40) hx hb dX3_outcomeOf_33 dX3_outcomeOf_34 (by decide) (fun c_7 => ?_) (fun c_7 => ?_)
      · have hw := hw.1 c_7
        obtain ⟨i6_6, ei6_6⟩ : ∃ y : Int32, y = i6_1 + 1 := ⟨_, rfl⟩
        have hw := hw i6_6 ei6_6
        refine lv_iinc (v := i6_6) (lv' := [(6, .int i6_6), (4, .long i4_5), (0, .ref Aw), (1, .int p0), (2, .long p1)]) hx hb dX3_outcomeOf_40 hl (k := 1) rfl (by rw [ei6_6]; rfl) (by decide) rfl (fun ls hl => ?_)
        refine lv_goto (tgt := 9) hx hb dX3_outcomeOf_43 (by decide) ?_
        exact ihI9_3 _ (by rw [← hNI9_3]; exact hw.2) i6_6 i4_5 rfl hw.1 _ _ _ hP hD hS (lv_sub hl [0, 1, 2, 3, 4] rfl)
      · have hw := hw.2 c_7
        refine lv_iload hx hb dX3_outcomeOf_37 (lv_at hl 1 rfl) ?_
        exact hret _ () _ _ _ _ hw hP hD hS dX3_outcomeOf_39
theorem fX3_isWithinRatio_20 : Cond.fieldLink RX3 20 "PrivateCounts$Table" "low" "I" ∈ wsX3_isWithinRatio := by decide +kernel
theorem uX3_isWithinRatio_X3 : ∀ w ∈ u_ws RX3 TX3 5, w ∈ wsX3_isWithinRatio := by decide +kernel
theorem fX3_isWithinRatio_23 : Cond.fieldLink RX3 23 "PrivateCounts$Table" "high" "I" ∈ wsX3_isWithinRatio := by decide +kernel
theorem fX3_isWithinRatio_13 : Cond.fieldLink RX3 13 "PrivateCounts$Table" "a" "I" ∈ wsX3_isWithinRatio := by decide +kernel
theorem fX3_isWithinRatio_17 : Cond.fieldLink RX3 17 "PrivateCounts$Table" "b" "I" ∈ wsX3_isWithinRatio := by decide +kernel
set_option maxHeartbeats 4000000 in
set_option maxRecDepth 100000 in
theorem M_X3_isWithinRatio (l : Launch) (G : va_G) (cI cJ : ClassId) (Aw : Nat) (wa : Int32) (wb : Int32) (wlo : Int32) (whi : Int32) (wtot : Int64) (p0 : Int32) (p1 : Int32) (Q : Int32 → Prop) (hw : w_X3_isWithinRatio wa wb wlo whi wtot p0 p1 Q) : Ki l yX3_isWithinRatio wsX3_isWithinRatio rm_X3_isWithinRatio G cI cJ [.ref Aw, .int p0, .int p1] (wX3 cI cJ Aw wa wb wlo whi wtot) (fun (r : Int32) (u : Unit) => wB r ∧ Q r) (fun u => (wX3 cI cJ Aw wa wb wlo whi wtot)) := by
  refine kz_intro (cc := cX3_isWithinRatio) (maxL := 4) rfl rfl (by decide) rfl (Nat.le_of_ble_eq_true rfl) ?_
  intro p e s m args below meth c A Z ls hx hb hml hts hown hP hK hD hS hA hl hret
  have hl : lv_has ls 4 [(0, .ref Aw), (1, .int p0), (2, .int p1)] := hl
  unfold w_X3_isWithinRatio at hw
  refine lv_aload_n hx hb dX3_isWithinRatio_0 rfl (lv_at hl 0 rfl) ?_
  refine k_get hx hb hts uX3_isWithinRatio_X3 hown hK hP 0 3 rfl rfl 2 (by decide) fX3_isWithinRatio_20 (.int wlo) rfl dX3_isWithinRatio_1 ?_
  refine lv_istore_n (lv' := [(3, .int wlo), (0, .ref Aw), (1, .int p0), (2, .int p1)]) hx hb dX3_isWithinRatio_4 rfl hl (by decide) rfl (fun ls hl => ?_)
  obtain ⟨I5_2, μ5_2, hi, hw⟩ := hw
  suffices hLI5_2 : ∀ (N : Nat) (i3_1 : Int32) (_ : μ5_2 i3_1 = N) (_ : I5_2 i3_1) (H : Heap) (locs : List Loc) (ls : Array Slot), va_P G vwCl (wX3 cI cJ Aw wa wb wlo whi wtot) H → va_D A (wX3 cI cJ Aw wa wb wlo whi wtot) → va_S A s.heap H locs → lv_has ls 4 [(3, .int i3_1), (0, .ref Aw), (1, .int p0), (2, .int p1)] → W p l e rm_X3_isWithinRatio s m args below meth c H locs 0 0 Z (F0 m 5 ls []) from
    hLI5_2 _ wlo rfl hi _ _ _ hP hD hS (lv_sub hl [0, 1, 2, 3] rfl)
  clear hi hP hD hS hl
  intro N
  induction N using Nat.strongRecOn with
  | ind N ihI5_2 =>
    intro i3_1 hNI5_2 hi H locs ls hP hD hS hl
    have hw := hw i3_1 hi
    refine lv_iload_n hx hb dX3_isWithinRatio_5 rfl (lv_at hl 0 rfl) ?_
    refine lv_aload_n hx hb dX3_isWithinRatio_6 rfl (lv_at hl 1 rfl) ?_
    refine k_get hx hb hts uX3_isWithinRatio_X3 hown hK hP 0 3 rfl rfl 3 (by decide) fX3_isWithinRatio_23 (.int whi) rfl dX3_isWithinRatio_7 ?_
    refine lv_icmp_gt (tgt := 49) hx hb dX3_isWithinRatio_10 (by decide) (fun c_7 => ?_) (fun c_7 => ?_)
    · have hw := hw.1 c_7
      refine lv_iconst (v := 1) hx hb dX3_isWithinRatio_49 (by decide) ?_
      exact hret _ () _ _ _ _ (Or.inr rfl) hw hP hD hS dX3_isWithinRatio_50
    · have hw := hw.2 c_7
      refine lv_aload_n hx hb dX3_isWithinRatio_13 rfl (lv_at hl 1 rfl) ?_
      refine k_get hx hb hts uX3_isWithinRatio_X3 hown hK hP 0 3 rfl rfl 0 (by decide) fX3_isWithinRatio_13 (.int wa) rfl dX3_isWithinRatio_14 ?_
      refine lv_i2l (v := wa.toInt64) hx hb dX3_isWithinRatio_17 rfl ?_
      refine lv_aload_n hx hb dX3_isWithinRatio_18 rfl (lv_at hl 1 rfl) ?_
      refine lv_iload_n hx hb dX3_isWithinRatio_19 rfl (lv_at hl 2 rfl) ?_
      refine lv_iload_n hx hb dX3_isWithinRatio_20 rfl (lv_at hl 0 rfl) ?_
      refine k_Vl (M_X3_weightOf l G cI cJ Aw wa wb wlo whi wtot p0 i3_1 _ hw) ⟨hx, hb, hml, hown, hts⟩ (cwV 2 hts gX3_isWithinRatio_X3_weightOf rfl rfl rfl (by decide +kernel) ⟨Nat.le_of_ble_eq_true rfl, Nat.le_of_ble_eq_true rfl⟩) hK hP hD hS hA [0] [] [0] (wr := []) (wn := fun u : Unit => (wX3 cI cJ Aw wa wb wlo whi wtot)) rfl rfl (by decide) (by decide) (by decide) (by decide) (fun _ => rfl) (rest := [.long wa.toInt64]) (q0 := 0) rfl rfl rfl hl.1 rfl (Nat.le_of_ble_eq_true rfl) (Nat.zero_le _) (Nat.zero_le _) dX3_isWithinRatio_21 (fun r_3 u H locs hw hP hD hS => ?_)
      refine lv_lmul hx hb dX3_isWithinRatio_24 ?_
      refine lv_aload_n hx hb dX3_isWithinRatio_25 rfl (lv_at hl 1 rfl) ?_
      refine k_get hx hb hts uX3_isWithinRatio_X3 hown hK hP 0 3 rfl rfl 1 (by decide) fX3_isWithinRatio_17 (.int wb) rfl dX3_isWithinRatio_26 ?_
      refine lv_i2l (v := wb.toInt64) hx hb dX3_isWithinRatio_29 rfl ?_
      refine lv_aload_n hx hb dX3_isWithinRatio_30 rfl (lv_at hl 1 rfl) ?_
      refine lv_iload_n hx hb dX3_isWithinRatio_31 rfl (lv_at hl 3 rfl) ?_
      refine lv_iload_n hx hb dX3_isWithinRatio_32 rfl (lv_at hl 0 rfl) ?_
      refine k_Vl (M_X3_weightOf l G cI cJ Aw wa wb wlo whi wtot p1 i3_1 _ hw) ⟨hx, hb, hml, hown, hts⟩ (cwV 2 hts gX3_isWithinRatio_X3_weightOf rfl rfl rfl (by decide +kernel) ⟨Nat.le_of_ble_eq_true rfl, Nat.le_of_ble_eq_true rfl⟩) hK hP hD hS hA [0] [] [0] (wr := []) (wn := fun u : Unit => (wX3 cI cJ Aw wa wb wlo whi wtot)) rfl rfl (by decide) (by decide) (by decide) (by decide) (fun _ => rfl) (rest := [.long wb.toInt64, .long (wa.toInt64 * r_3)]) (q0 := 0) rfl rfl rfl hl.1 rfl (Nat.le_of_ble_eq_true rfl) (Nat.zero_le _) (Nat.zero_le _) dX3_isWithinRatio_33 (fun r_4 u H locs hw hP hD hS => ?_)
      refine lv_lmul hx hb dX3_isWithinRatio_36 ?_
      refine k_lif_le (tgt := 43) hx hb dX3_isWithinRatio_37 dX3_isWithinRatio_38 (by decide) (fun c_6 => ?_) (fun c_6 => ?_)
      · have hw := hw.1 c_6
        obtain ⟨i3_5, ei3_5⟩ : ∃ y : Int32, y = i3_1 + 1 := ⟨_, rfl⟩
        have hw := hw i3_5 ei3_5
        refine lv_iinc (v := i3_5) (lv' := [(3, .int i3_5), (0, .ref Aw), (1, .int p0), (2, .int p1)]) hx hb dX3_isWithinRatio_43 hl (k := 0) rfl (by rw [ei3_5]; rfl) (by decide) rfl (fun ls hl => ?_)
        refine lv_goto (tgt := 5) hx hb dX3_isWithinRatio_46 (by decide) ?_
        exact ihI5_2 _ (by rw [← hNI5_2]; exact hw.2) i3_5 rfl hw.1 _ _ _ hP hD hS (lv_sub hl [0, 1, 2, 3] rfl)
      · have hw := hw.2 c_6
        refine lv_iconst (v := 0) hx hb dX3_isWithinRatio_41 (by decide) ?_
        exact hret _ () _ _ _ _ (Or.inl rfl) hw hP hD hS dX3_isWithinRatio_42
end
section
/-! PrivateCounts, methods that never throw: predicates and walks (laid by wip/whole/gen.py) -/
def wX4 (cI cJ : ClassId) (Ax Bx Aw As Asm Bsm Ast Bst Ag Agu Bgu Agd Bgd Ae Aeu Beu Aed Bed Af Afu Bfu Afd Bfd : Nat) (row : Nat → Int32) (rc : Int32) (wa : Int32) (wb : Int32) (wlo : Int32) (whi : Int32) (wtot : Int64) (lsm : Nat → Int32) (nsm : Int32) (lst : Nat → Int32) (nst : Int32) (lgu : Nat → Int32) (ngu : Int32) (lgd : Nat → Int32) (ngd : Int32) (leu : Nat → Int32) (neu : Int32) (led : Nat → Int32) (ned : Int32) (lfu : Nat → Int32) (nfu : Int32) (lfd : Nat → Int32) (nfd : Int32) (ans : Int32) (rfc : Int32) (rfb : Int32) : va_W := [(Ax, .inr (4, [.ref Bx, .int rc, .ref Aw, .ref As, .ref Ag, .ref Ae, .ref Af, .int ans, .int rfc, .int rfb])), (Bx, .inl (cI, 60, .inl row)), (Aw, .inr (3, [.int wa, .int wb, .int wlo, .int whi, .long wtot])), (As, .inr (2, [.ref Asm, .ref Ast])), (Asm, .inr (1, [.ref Bsm, .int nsm])), (Bsm, .inl (cI, 64, .inl lsm)), (Ast, .inr (1, [.ref Bst, .int nst])), (Bst, .inl (cI, 64, .inl lst)), (Ag, .inr (0, [.ref Agu, .ref Agd])), (Agu, .inr (1, [.ref Bgu, .int ngu])), (Bgu, .inl (cI, 64, .inl lgu)), (Agd, .inr (1, [.ref Bgd, .int ngd])), (Bgd, .inl (cI, 64, .inl lgd)), (Ae, .inr (0, [.ref Aeu, .ref Aed])), (Aeu, .inr (1, [.ref Beu, .int neu])), (Beu, .inl (cI, 64, .inl leu)), (Aed, .inr (1, [.ref Bed, .int ned])), (Bed, .inl (cI, 64, .inl led)), (Af, .inr (0, [.ref Afu, .ref Afd])), (Afu, .inr (1, [.ref Bfu, .int nfu])), (Bfu, .inl (cI, 64, .inl lfu)), (Afd, .inr (1, [.ref Bfd, .int nfd])), (Bfd, .inl (cI, 64, .inl lfd))]
abbrev rm_X4_add : Room := { frames := 0, cells := 0, slots := 0, locals := 0 }
abbrev rm_X4_count : Room := { frames := 0, cells := 0, slots := 0, locals := 0 }
abbrev rm_X4_all : Room := { frames := 0, cells := 0, slots := 0, locals := 0 }
abbrev rm_X4_weight : Room := { frames := 2, cells := 0, slots := 0, locals := 48 }
abbrev rm_X4_upTo : Room := { frames := 3, cells := 0, slots := 0, locals := 73 }
abbrev rm_X4_isDenominator : Room := { frames := 0, cells := 0, slots := 0, locals := 0 }
abbrev rm_X4_isGrant : Room := { frames := 1, cells := 0, slots := 0, locals := 20 }
abbrev rm_X4_isCost : Room := { frames := 1, cells := 0, slots := 0, locals := 20 }
def w_X4_add (row : Nat → Int32) (rc : Int32) (p0 : Int32) (Q : Int32 → (Nat → Int32) → Int32 → Prop) : Prop :=
  ((rc < 0 →
    Q ((-1) : Int32) row rc
   ) ∧ (¬ rc < 0 →
    ((rc < 60 →
      vp_in rc 60 ∧
      ∀ (row_1 : Nat → Int32), row_1 = upd row rc.toNatClampNeg p0 →
      ∀ (rc_2 : Int32), rc_2 = rc + 1 →
      Q (rc_2 - 1) row_1 rc_2
     ) ∧ (¬ rc < 60 →
      Q ((-1) : Int32) row rc
     ))
   ))

def w_X4_count (row : Nat → Int32) (rc : Int32) (p0 : Int32) (p1 : Int32) (Q : Int32 → Prop) : Prop :=
  ∃ (I5_3 : Int32 → Int32 → Prop) (μ5_3 : Int32 → Int32 → Nat), I5_3 (0 : Int32) (0 : Int32) ∧ ∀ (i4_1 : Int32) (i3_2 : Int32), I5_3 i4_1 i3_2 →
    ((rc ≤ i4_1 →
      Q i3_2
     ) ∧ (¬ rc ≤ i4_1 →
      ((60 ≤ i4_1 →
        Q i3_2
       ) ∧ (¬ 60 ≤ i4_1 →
        vp_in i4_1 60 ∧
        (((row i4_1.toNatClampNeg) < p0 →
          ∀ (i4_4 : Int32), i4_4 = i4_1 + 1 →
          I5_3 i4_4 i3_2 ∧ μ5_3 i4_4 i3_2 < μ5_3 i4_1 i3_2
         ) ∧ (¬ (row i4_1.toNatClampNeg) < p0 →
          vp_in i4_1 60 ∧
          ((p1 < (row i4_1.toNatClampNeg) →
            ∀ (i4_5 : Int32), i4_5 = i4_1 + 1 →
            I5_3 i4_5 i3_2 ∧ μ5_3 i4_5 i3_2 < μ5_3 i4_1 i3_2
           ) ∧ (¬ p1 < (row i4_1.toNatClampNeg) →
            ∀ (i3_6 : Int32), i3_6 = i3_2 + 1 →
            ∀ (i4_7 : Int32), i4_7 = i4_1 + 1 →
            I5_3 i4_7 i3_6 ∧ μ5_3 i4_7 i3_6 < μ5_3 i4_1 i3_2
           ))
         ))
       ))
     ))

def w_X4_all (wtot : Int64) (Q : Int64 → Prop) : Prop :=
  Q wtot

def w_X4_weight (wa : Int32) (wb : Int32) (wlo : Int32) (whi : Int32) (wtot : Int64) (p0 : Int32) (p1 : Int32) (Q : Int64 → Prop) : Prop :=
  w_X3_weightOf wa wb wlo whi wtot p0 p1 (fun (r_1 : Int64) =>
  Q r_1)

def w_X4_upTo (wa : Int32) (wb : Int32) (wlo : Int32) (whi : Int32) (wtot : Int64) (p0 : Int32) (p1 : Int32) (Q : Int64 → Prop) : Prop :=
  w_X3_sumTo wa wb wlo whi wtot p0 p1 (fun (r_1 : Int64) =>
  Q r_1)

def w_X4_isDenominator (p0 : Int32) (Q : Int32 → Prop) : Prop :=
  ((p0 < 1 →
    Q (0 : Int32)
   ) ∧ (¬ p0 < 1 →
    ((1000 < p0 →
      Q (0 : Int32)
     ) ∧ (¬ 1000 < p0 →
      Q (1 : Int32)
     ))
   ))

def w_X4_isGrant (p0 : Int32) (p1 : Int32) (Q : Int32 → Prop) : Prop :=
  ((p0 < 0 →
    Q (0 : Int32)
   ) ∧ (¬ p0 < 0 →
    w_X4_isDenominator p1 (fun (r_1 : Int32) =>
    ((r_1 = 0 →
      Q (0 : Int32)
     ) ∧ (¬ r_1 = 0 →
      Q (1 : Int32)
     )))
   ))

def w_X4_isCost (p0 : Int32) (p1 : Int32) (Q : Int32 → Prop) : Prop :=
  ((p0 < 0 →
    Q (0 : Int32)
   ) ∧ (¬ p0 < 0 →
    ((3000 < p0 →
      Q (0 : Int32)
     ) ∧ (¬ 3000 < p0 →
      w_X4_isDenominator p1 (fun (r_1 : Int32) =>
      ((r_1 = 0 →
        Q (0 : Int32)
       ) ∧ (¬ r_1 = 0 →
        Q (1 : Int32)
       )))
     ))
   ))

theorem fX4_add_13 : Cond.fieldLink RX4 13 "PrivateCounts" "rowCount" "I" ∈ wsX4_add := by decide +kernel
theorem uX4_add_X4 : ∀ w ∈ u_ws RX4 TX4 10, w ∈ wsX4_add := by decide +kernel
theorem fX4_add_9 : Cond.fieldLink RX4 9 "PrivateCounts" "rows" "[I" ∈ wsX4_add := by decide +kernel
set_option maxHeartbeats 4000000 in
set_option maxRecDepth 100000 in
theorem M_X4_add (l : Launch) (G : va_G) (cI cJ : ClassId) (Ax Bx Aw As Asm Bsm Ast Bst Ag Agu Bgu Agd Bgd Ae Aeu Beu Aed Bed Af Afu Bfu Afd Bfd : Nat) (row : Nat → Int32) (rc : Int32) (wa : Int32) (wb : Int32) (wlo : Int32) (whi : Int32) (wtot : Int64) (lsm : Nat → Int32) (nsm : Int32) (lst : Nat → Int32) (nst : Int32) (lgu : Nat → Int32) (ngu : Int32) (lgd : Nat → Int32) (ngd : Int32) (leu : Nat → Int32) (neu : Int32) (led : Nat → Int32) (ned : Int32) (lfu : Nat → Int32) (nfu : Int32) (lfd : Nat → Int32) (nfd : Int32) (ans : Int32) (rfc : Int32) (rfb : Int32) (p0 : Int32) (Q : Int32 → (Nat → Int32) → Int32 → Prop) (hw : w_X4_add row rc p0 Q) : Ki l yX4_add wsX4_add rm_X4_add G cI cJ [.ref Ax, .int p0] (wX4 cI cJ Ax Bx Aw As Asm Bsm Ast Bst Ag Agu Bgu Agd Bgd Ae Aeu Beu Aed Bed Af Afu Bfu Afd Bfd row rc wa wb wlo whi wtot lsm nsm lst nst lgu ngu lgd ngd leu neu led ned lfu nfu lfd nfd ans rfc rfb) (fun (r : Int32) (u : (Nat → Int32) × (Int32)) => Q r u.1 u.2) (fun u => (wX4 cI cJ Ax Bx Aw As Asm Bsm Ast Bst Ag Agu Bgu Agd Bgd Ae Aeu Beu Aed Bed Af Afu Bfu Afd Bfd u.1 u.2 wa wb wlo whi wtot lsm nsm lst nst lgu ngu lgd ngd leu neu led ned lfu nfu lfd nfd ans rfc rfb)) := by
  refine ki_intro (cc := cX4_add) (maxL := 2) rfl rfl (by decide) rfl (Nat.le_of_ble_eq_true rfl) ?_
  intro p e s m args below meth c A Z ls hx hb hml hts hown hP hK hD hS hA hl hret
  have hl : lv_has ls 2 [(0, .ref Ax), (1, .int p0)] := hl
  unfold w_X4_add at hw
  refine lv_aload_n hx hb dX4_add_0 rfl (lv_at hl 0 rfl) ?_
  refine k_get hx hb hts uX4_add_X4 hown hK hP 0 4 rfl rfl 1 (by decide) fX4_add_13 (.int rc) rfl dX4_add_1 ?_
  refine lv_if_lt (tgt := 19) hx hb dX4_add_4 (by decide) (fun c_4 => ?_) (fun c_4 => ?_)
  · have hw := hw.1 c_4
    refine lv_iconst (v := (-1)) hx hb dX4_add_19 (by decide) ?_
    exact hret _ (row, rc) _ _ _ _ hw hP hD hS dX4_add_20
  · have hw := hw.2 c_4
    refine lv_aload_n hx hb dX4_add_7 rfl (lv_at hl 0 rfl) ?_
    refine k_get hx hb hts uX4_add_X4 hown hK hP 0 4 rfl rfl 1 (by decide) fX4_add_13 (.int rc) rfl dX4_add_8 ?_
    refine lv_aload_n hx hb dX4_add_11 rfl (lv_at hl 0 rfl) ?_
    refine k_get hx hb hts uX4_add_X4 hown hK hP 0 4 rfl rfl 0 (by decide) fX4_add_9 (.ref Bx) rfl dX4_add_12 ?_
    refine k_alen hx hb hK hP 1 rfl 60 rfl dX4_add_15 ?_
    refine lv_icmp_lt (tgt := 21) hx hb dX4_add_16 (by decide) (fun c_3 => ?_) (fun c_3 => ?_)
    · have hw := hw.1 c_3
      refine lv_aload_n hx hb dX4_add_21 rfl (lv_at hl 0 rfl) ?_
      refine k_get hx hb hts uX4_add_X4 hown hK hP 0 4 rfl rfl 0 (by decide) fX4_add_9 (.ref Bx) rfl dX4_add_22 ?_
      refine lv_aload_n hx hb dX4_add_25 rfl (lv_at hl 0 rfl) ?_
      refine k_get hx hb hts uX4_add_X4 hown hK hP 0 4 rfl rfl 1 (by decide) fX4_add_13 (.int rc) rfl dX4_add_26 ?_
      refine lv_iload_n hx hb dX4_add_29 rfl (lv_at hl 1 rfl) ?_
      obtain ⟨hin, hw⟩ := hw
      refine k_iast hx hb hK hP hD hS 1 rfl hin (w' := fun g => (wX4 cI cJ Ax Bx Aw As Asm Bsm Ast Bst Ag Agu Bgu Agd Bgd Ae Aeu Beu Aed Bed Af Afu Bfu Afd Bfd g rc wa wb wlo whi wtot lsm nsm lst nst lgu ngu lgd ngd leu neu led ned lfu nfu lfd nfd ans rfc rfb)) (fun _ => rfl) dX4_add_30 (fun row_1 erow_1 H locs hP hD hS => ?_)
      have hw := hw row_1 erow_1
      refine lv_aload_n hx hb dX4_add_31 rfl (lv_at hl 0 rfl) ?_
      refine lv_dup hx hb dX4_add_32 rfl ?_
      refine k_get hx hb hts uX4_add_X4 hown hK hP 0 4 rfl rfl 1 (by decide) fX4_add_13 (.int rc) rfl dX4_add_33 ?_
      refine lv_iconst (v := 1) hx hb dX4_add_36 (by decide) ?_
      refine lv_iadd hx hb dX4_add_37 ?_
      refine lv_topi (fun rc_2 erc_2 => ?_)
      have hw := hw rc_2 erc_2
      refine k_put hx hb hts uX4_add_X4 tyX4 tyX4_ok nmX4 hown hK hP hD hS 0 4 rfl rfl 1 (by decide) fX4_add_13 rfl rfl rfl (Nat.le_of_ble_eq_true rfl) (w' := (wX4 cI cJ Ax Bx Aw As Asm Bsm Ast Bst Ag Agu Bgu Agd Bgd Ae Aeu Beu Aed Bed Af Afu Bfu Afd Bfd row_1 rc_2 wa wb wlo whi wtot lsm nsm lst nst lgu ngu lgd ngd leu neu led ned lfu nfu lfd nfd ans rfc rfb)) rfl dX4_add_38 (fun H locs hP hD hS => ?_)
      refine lv_aload_n hx hb dX4_add_41 rfl (lv_at hl 0 rfl) ?_
      refine k_get hx hb hts uX4_add_X4 hown hK hP 0 4 rfl rfl 1 (by decide) fX4_add_13 (.int rc_2) rfl dX4_add_42 ?_
      refine lv_iconst (v := 1) hx hb dX4_add_45 (by decide) ?_
      refine lv_isub hx hb dX4_add_46 ?_
      exact hret _ (row_1, rc_2) _ _ _ _ hw hP hD hS dX4_add_47
    · have hw := hw.2 c_3
      refine lv_iconst (v := (-1)) hx hb dX4_add_19 (by decide) ?_
      exact hret _ (row, rc) _ _ _ _ hw hP hD hS dX4_add_20
theorem fX4_count_13 : Cond.fieldLink RX4 13 "PrivateCounts" "rowCount" "I" ∈ wsX4_count := by decide +kernel
theorem uX4_count_X4 : ∀ w ∈ u_ws RX4 TX4 10, w ∈ wsX4_count := by decide +kernel
theorem fX4_count_9 : Cond.fieldLink RX4 9 "PrivateCounts" "rows" "[I" ∈ wsX4_count := by decide +kernel
set_option maxHeartbeats 4000000 in
set_option maxRecDepth 100000 in
theorem M_X4_count (l : Launch) (G : va_G) (cI cJ : ClassId) (Ax Bx Aw As Asm Bsm Ast Bst Ag Agu Bgu Agd Bgd Ae Aeu Beu Aed Bed Af Afu Bfu Afd Bfd : Nat) (row : Nat → Int32) (rc : Int32) (wa : Int32) (wb : Int32) (wlo : Int32) (whi : Int32) (wtot : Int64) (lsm : Nat → Int32) (nsm : Int32) (lst : Nat → Int32) (nst : Int32) (lgu : Nat → Int32) (ngu : Int32) (lgd : Nat → Int32) (ngd : Int32) (leu : Nat → Int32) (neu : Int32) (led : Nat → Int32) (ned : Int32) (lfu : Nat → Int32) (nfu : Int32) (lfd : Nat → Int32) (nfd : Int32) (ans : Int32) (rfc : Int32) (rfb : Int32) (p0 : Int32) (p1 : Int32) (Q : Int32 → Prop) (hw : w_X4_count row rc p0 p1 Q) : Ki l yX4_count wsX4_count rm_X4_count G cI cJ [.ref Ax, .int p0, .int p1] (wX4 cI cJ Ax Bx Aw As Asm Bsm Ast Bst Ag Agu Bgu Agd Bgd Ae Aeu Beu Aed Bed Af Afu Bfu Afd Bfd row rc wa wb wlo whi wtot lsm nsm lst nst lgu ngu lgd ngd leu neu led ned lfu nfu lfd nfd ans rfc rfb) (fun (r : Int32) (u : Unit) => Q r) (fun u => (wX4 cI cJ Ax Bx Aw As Asm Bsm Ast Bst Ag Agu Bgu Agd Bgd Ae Aeu Beu Aed Bed Af Afu Bfu Afd Bfd row rc wa wb wlo whi wtot lsm nsm lst nst lgu ngu lgd ngd leu neu led ned lfu nfu lfd nfd ans rfc rfb)) := by
  refine ki_intro (cc := cX4_count) (maxL := 5) rfl rfl (by decide) rfl (Nat.le_of_ble_eq_true rfl) ?_
  intro p e s m args below meth c A Z ls hx hb hml hts hown hP hK hD hS hA hl hret
  have hl : lv_has ls 5 [(0, .ref Ax), (1, .int p0), (2, .int p1)] := hl
  unfold w_X4_count at hw
  refine lv_iconst (v := 0) hx hb dX4_count_0 (by decide) ?_
  refine lv_istore_n (lv' := [(3, .int 0), (0, .ref Ax), (1, .int p0), (2, .int p1)]) hx hb dX4_count_1 rfl hl (by decide) rfl (fun ls hl => ?_)
  refine lv_iconst (v := 0) hx hb dX4_count_2 (by decide) ?_
  refine lv_istore (lv' := [(4, .int 0), (3, .int 0), (0, .ref Ax), (1, .int p0), (2, .int p1)]) hx hb dX4_count_3 hl (by decide) rfl (fun ls hl => ?_)
  obtain ⟨I5_3, μ5_3, hi, hw⟩ := hw
  suffices hLI5_3 : ∀ (N : Nat) (i4_1 : Int32) (i3_2 : Int32) (_ : μ5_3 i4_1 i3_2 = N) (_ : I5_3 i4_1 i3_2) (H : Heap) (locs : List Loc) (ls : Array Slot), va_P G vwCl (wX4 cI cJ Ax Bx Aw As Asm Bsm Ast Bst Ag Agu Bgu Agd Bgd Ae Aeu Beu Aed Bed Af Afu Bfu Afd Bfd row rc wa wb wlo whi wtot lsm nsm lst nst lgu ngu lgd ngd leu neu led ned lfu nfu lfd nfd ans rfc rfb) H → va_D A (wX4 cI cJ Ax Bx Aw As Asm Bsm Ast Bst Ag Agu Bgu Agd Bgd Ae Aeu Beu Aed Bed Af Afu Bfu Afd Bfd row rc wa wb wlo whi wtot lsm nsm lst nst lgu ngu lgd ngd leu neu led ned lfu nfu lfd nfd ans rfc rfb) → va_S A s.heap H locs → lv_has ls 5 [(4, .int i4_1), (3, .int i3_2), (0, .ref Ax), (1, .int p0), (2, .int p1)] → W p l e rm_X4_count s m args below meth c H locs 0 0 Z (F0 m 5 ls []) from
    hLI5_3 _ (0 : Int32) (0 : Int32) rfl hi _ _ _ hP hD hS (lv_sub hl [0, 1, 2, 3, 4] rfl)
  clear hi hP hD hS hl
  intro N
  induction N using Nat.strongRecOn with
  | ind N ihI5_3 =>
    intro i4_1 i3_2 hNI5_3 hi H locs ls hP hD hS hl
    have hw := hw i4_1 i3_2 hi
    refine lv_iload hx hb dX4_count_5 (lv_at hl 0 rfl) ?_
    refine lv_aload_n hx hb dX4_count_7 rfl (lv_at hl 2 rfl) ?_
    refine k_get hx hb hts uX4_count_X4 hown hK hP 0 4 rfl rfl 1 (by decide) fX4_count_13 (.int rc) rfl dX4_count_8 ?_
    refine lv_icmp_ge (tgt := 55) hx hb dX4_count_11 (by decide) (fun c_11 => ?_) (fun c_11 => ?_)
    · have hw := hw.1 c_11
      refine lv_iload_n hx hb dX4_count_55 rfl (lv_at hl 1 rfl) ?_
      exact hret _ () _ _ _ _ hw hP hD hS dX4_count_56
    · have hw := hw.2 c_11
      refine lv_iload hx hb dX4_count_14 (lv_at hl 0 rfl) ?_
      refine lv_aload_n hx hb dX4_count_16 rfl (lv_at hl 2 rfl) ?_
      refine k_get hx hb hts uX4_count_X4 hown hK hP 0 4 rfl rfl 0 (by decide) fX4_count_9 (.ref Bx) rfl dX4_count_17 ?_
      refine k_alen hx hb hK hP 1 rfl 60 rfl dX4_count_20 ?_
      refine lv_icmp_ge (tgt := 55) hx hb dX4_count_21 (by decide) (fun c_10 => ?_) (fun c_10 => ?_)
      · have hw := hw.1 c_10
        refine lv_iload_n hx hb dX4_count_55 rfl (lv_at hl 1 rfl) ?_
        exact hret _ () _ _ _ _ hw hP hD hS dX4_count_56
      · have hw := hw.2 c_10
        refine lv_aload_n hx hb dX4_count_24 rfl (lv_at hl 2 rfl) ?_
        refine k_get hx hb hts uX4_count_X4 hown hK hP 0 4 rfl rfl 0 (by decide) fX4_count_9 (.ref Bx) rfl dX4_count_25 ?_
        refine lv_iload hx hb dX4_count_28 (lv_at hl 0 rfl) ?_
        obtain ⟨hin, hw⟩ := hw
        refine k_iald hx hb hK hP 1 rfl hin dX4_count_30 ?_
        refine lv_iload_n hx hb dX4_count_31 rfl (lv_at hl 3 rfl) ?_
        refine lv_icmp_lt (tgt := 49) hx hb dX4_count_32 (by decide) (fun c_9 => ?_) (fun c_9 => ?_)
        · have hw := hw.1 c_9
          obtain ⟨i4_4, ei4_4⟩ : ∃ y : Int32, y = i4_1 + 1 := ⟨_, rfl⟩
          have hw := hw i4_4 ei4_4
          refine lv_iinc (v := i4_4) (lv' := [(4, .int i4_4), (3, .int i3_2), (0, .ref Ax), (1, .int p0), (2, .int p1)]) hx hb dX4_count_49 hl (k := 0) rfl (by rw [ei4_4]; rfl) (by decide) rfl (fun ls hl => ?_)
          refine lv_goto (tgt := 5) hx hb dX4_count_52 (by decide) ?_
          exact ihI5_3 _ (by rw [← hNI5_3]; exact hw.2) i4_4 i3_2 rfl hw.1 _ _ _ hP hD hS (lv_sub hl [0, 1, 2, 3, 4] rfl)
        · have hw := hw.2 c_9
          refine lv_aload_n hx hb dX4_count_35 rfl (lv_at hl 2 rfl) ?_
          refine k_get hx hb hts uX4_count_X4 hown hK hP 0 4 rfl rfl 0 (by decide) fX4_count_9 (.ref Bx) rfl dX4_count_36 ?_
          refine lv_iload hx hb dX4_count_39 (lv_at hl 0 rfl) ?_
          obtain ⟨hin, hw⟩ := hw
          refine k_iald hx hb hK hP 1 rfl hin dX4_count_41 ?_
          refine lv_iload_n hx hb dX4_count_42 rfl (lv_at hl 4 rfl) ?_
          refine lv_icmp_gt (tgt := 49) hx hb dX4_count_43 (by decide) (fun c_8 => ?_) (fun c_8 => ?_)
          · have hw := hw.1 c_8
            obtain ⟨i4_5, ei4_5⟩ : ∃ y : Int32, y = i4_1 + 1 := ⟨_, rfl⟩
            have hw := hw i4_5 ei4_5
            refine lv_iinc (v := i4_5) (lv' := [(4, .int i4_5), (3, .int i3_2), (0, .ref Ax), (1, .int p0), (2, .int p1)]) hx hb dX4_count_49 hl (k := 0) rfl (by rw [ei4_5]; rfl) (by decide) rfl (fun ls hl => ?_)
            refine lv_goto (tgt := 5) hx hb dX4_count_52 (by decide) ?_
            exact ihI5_3 _ (by rw [← hNI5_3]; exact hw.2) i4_5 i3_2 rfl hw.1 _ _ _ hP hD hS (lv_sub hl [0, 1, 2, 3, 4] rfl)
          · have hw := hw.2 c_8
            obtain ⟨i3_6, ei3_6⟩ : ∃ y : Int32, y = i3_2 + 1 := ⟨_, rfl⟩
            have hw := hw i3_6 ei3_6
            refine lv_iinc (v := i3_6) (lv' := [(3, .int i3_6), (4, .int i4_1), (0, .ref Ax), (1, .int p0), (2, .int p1)]) hx hb dX4_count_46 hl (k := 1) rfl (by rw [ei3_6]; rfl) (by decide) rfl (fun ls hl => ?_)
            obtain ⟨i4_7, ei4_7⟩ : ∃ y : Int32, y = i4_1 + 1 := ⟨_, rfl⟩
            have hw := hw i4_7 ei4_7
            refine lv_iinc (v := i4_7) (lv' := [(4, .int i4_7), (3, .int i3_6), (0, .ref Ax), (1, .int p0), (2, .int p1)]) hx hb dX4_count_49 hl (k := 1) rfl (by rw [ei4_7]; rfl) (by decide) rfl (fun ls hl => ?_)
            refine lv_goto (tgt := 5) hx hb dX4_count_52 (by decide) ?_
            exact ihI5_3 _ (by rw [← hNI5_3]; exact hw.2) i4_7 i3_6 rfl hw.1 _ _ _ hP hD hS (lv_sub hl [0, 1, 2, 3, 4] rfl)
theorem fX4_all_20 : Cond.fieldLink RX4 20 "PrivateCounts" "weights" "LPrivateCounts$Table;" ∈ wsX4_all := by decide +kernel
theorem uX4_all_X4 : ∀ w ∈ u_ws RX4 TX4 10, w ∈ wsX4_all := by decide +kernel
theorem fX4_all_73 : Cond.fieldLink RX4 73 "PrivateCounts$Table" "total" "J" ∈ wsX4_all := by decide +kernel
theorem uX4_all_X3 : ∀ w ∈ u_ws RX3 TX3 5, w ∈ wsX4_all := by decide +kernel
set_option maxHeartbeats 4000000 in
set_option maxRecDepth 100000 in
theorem M_X4_all (l : Launch) (G : va_G) (cI cJ : ClassId) (Ax Bx Aw As Asm Bsm Ast Bst Ag Agu Bgu Agd Bgd Ae Aeu Beu Aed Bed Af Afu Bfu Afd Bfd : Nat) (row : Nat → Int32) (rc : Int32) (wa : Int32) (wb : Int32) (wlo : Int32) (whi : Int32) (wtot : Int64) (lsm : Nat → Int32) (nsm : Int32) (lst : Nat → Int32) (nst : Int32) (lgu : Nat → Int32) (ngu : Int32) (lgd : Nat → Int32) (ngd : Int32) (leu : Nat → Int32) (neu : Int32) (led : Nat → Int32) (ned : Int32) (lfu : Nat → Int32) (nfu : Int32) (lfd : Nat → Int32) (nfd : Int32) (ans : Int32) (rfc : Int32) (rfb : Int32) (Q : Int64 → Prop) (hw : w_X4_all wtot Q) : Kl l yX4_all wsX4_all rm_X4_all G cI cJ [.ref Ax] (wX4 cI cJ Ax Bx Aw As Asm Bsm Ast Bst Ag Agu Bgu Agd Bgd Ae Aeu Beu Aed Bed Af Afu Bfu Afd Bfd row rc wa wb wlo whi wtot lsm nsm lst nst lgu ngu lgd ngd leu neu led ned lfu nfu lfd nfd ans rfc rfb) (fun (r : Int64) (u : Unit) => Q r) (fun u => (wX4 cI cJ Ax Bx Aw As Asm Bsm Ast Bst Ag Agu Bgu Agd Bgd Ae Aeu Beu Aed Bed Af Afu Bfu Afd Bfd row rc wa wb wlo whi wtot lsm nsm lst nst lgu ngu lgd ngd leu neu led ned lfu nfu lfd nfd ans rfc rfb)) := by
  refine kl_intro (cc := cX4_all) (maxL := 1) rfl rfl (by decide) rfl (Nat.le_of_ble_eq_true rfl) ?_
  intro p e s m args below meth c A Z ls hx hb hml hts hown hP hK hD hS hA hl hret
  have hl : lv_has ls 1 [(0, .ref Ax)] := hl
  unfold w_X4_all at hw
  refine lv_aload_n hx hb dX4_all_0 rfl (lv_at hl 0 rfl) ?_
  refine k_get hx hb hts uX4_all_X4 hown hK hP 0 4 rfl rfl 2 (by decide) fX4_all_20 (.ref Aw) rfl dX4_all_1 ?_
  refine k_get hx hb hts uX4_all_X3 hown hK hP 2 3 rfl rfl 4 (by decide) fX4_all_73 (.long wtot) rfl dX4_all_4 ?_
  exact hret _ () _ _ _ _ hw hP hD hS dX4_all_7
theorem fX4_weight_20 : Cond.fieldLink RX4 20 "PrivateCounts" "weights" "LPrivateCounts$Table;" ∈ wsX4_weight := by decide +kernel
theorem uX4_weight_X4 : ∀ w ∈ u_ws RX4 TX4 10, w ∈ wsX4_weight := by decide +kernel
set_option maxHeartbeats 4000000 in
set_option maxRecDepth 100000 in
theorem M_X4_weight (l : Launch) (G : va_G) (cI cJ : ClassId) (Ax Bx Aw As Asm Bsm Ast Bst Ag Agu Bgu Agd Bgd Ae Aeu Beu Aed Bed Af Afu Bfu Afd Bfd : Nat) (row : Nat → Int32) (rc : Int32) (wa : Int32) (wb : Int32) (wlo : Int32) (whi : Int32) (wtot : Int64) (lsm : Nat → Int32) (nsm : Int32) (lst : Nat → Int32) (nst : Int32) (lgu : Nat → Int32) (ngu : Int32) (lgd : Nat → Int32) (ngd : Int32) (leu : Nat → Int32) (neu : Int32) (led : Nat → Int32) (ned : Int32) (lfu : Nat → Int32) (nfu : Int32) (lfd : Nat → Int32) (nfd : Int32) (ans : Int32) (rfc : Int32) (rfb : Int32) (p0 : Int32) (p1 : Int32) (Q : Int64 → Prop) (hw : w_X4_weight wa wb wlo whi wtot p0 p1 Q) : Kl l yX4_weight wsX4_weight rm_X4_weight G cI cJ [.ref Ax, .int p0, .int p1] (wX4 cI cJ Ax Bx Aw As Asm Bsm Ast Bst Ag Agu Bgu Agd Bgd Ae Aeu Beu Aed Bed Af Afu Bfu Afd Bfd row rc wa wb wlo whi wtot lsm nsm lst nst lgu ngu lgd ngd leu neu led ned lfu nfu lfd nfd ans rfc rfb) (fun (r : Int64) (u : Unit) => Q r) (fun u => (wX4 cI cJ Ax Bx Aw As Asm Bsm Ast Bst Ag Agu Bgu Agd Bgd Ae Aeu Beu Aed Bed Af Afu Bfu Afd Bfd row rc wa wb wlo whi wtot lsm nsm lst nst lgu ngu lgd ngd leu neu led ned lfu nfu lfd nfd ans rfc rfb)) := by
  refine kl_intro (cc := cX4_weight) (maxL := 3) rfl rfl (by decide) rfl (Nat.le_of_ble_eq_true rfl) ?_
  intro p e s m args below meth c A Z ls hx hb hml hts hown hP hK hD hS hA hl hret
  have hl : lv_has ls 3 [(0, .ref Ax), (1, .int p0), (2, .int p1)] := hl
  unfold w_X4_weight at hw
  refine lv_aload_n hx hb dX4_weight_0 rfl (lv_at hl 0 rfl) ?_
  refine k_get hx hb hts uX4_weight_X4 hown hK hP 0 4 rfl rfl 2 (by decide) fX4_weight_20 (.ref Aw) rfl dX4_weight_1 ?_
  refine lv_iload_n hx hb dX4_weight_4 rfl (lv_at hl 1 rfl) ?_
  refine lv_iload_n hx hb dX4_weight_5 rfl (lv_at hl 2 rfl) ?_
  refine k_Vl (M_X3_weightOf l G cI cJ Aw wa wb wlo whi wtot p0 p1 _ hw) ⟨hx, hb, hml, hown, hts⟩ (cwV 2 hts gX4_weight_X3_weightOf rfl rfl rfl (by decide +kernel) ⟨Nat.le_of_ble_eq_true rfl, Nat.le_of_ble_eq_true rfl⟩) hK hP hD hS hA [2] [0, 1, 3, 4, 5, 6, 7, 8, 9, 10, 11, 12, 13, 14, 15, 16, 17, 18, 19, 20, 21, 22] [0, 1, 22, 2, 3, 4, 5, 6, 7, 8, 9, 10, 11, 12, 13, 14, 15, 16, 17, 18, 19, 20, 21] (wr := [(Ax, .inr (4, [.ref Bx, .int rc, .ref Aw, .ref As, .ref Ag, .ref Ae, .ref Af, .int ans, .int rfc, .int rfb])), (Bx, .inl (cI, 60, .inl row)), (As, .inr (2, [.ref Asm, .ref Ast])), (Asm, .inr (1, [.ref Bsm, .int nsm])), (Bsm, .inl (cI, 64, .inl lsm)), (Ast, .inr (1, [.ref Bst, .int nst])), (Bst, .inl (cI, 64, .inl lst)), (Ag, .inr (0, [.ref Agu, .ref Agd])), (Agu, .inr (1, [.ref Bgu, .int ngu])), (Bgu, .inl (cI, 64, .inl lgu)), (Agd, .inr (1, [.ref Bgd, .int ngd])), (Bgd, .inl (cI, 64, .inl lgd)), (Ae, .inr (0, [.ref Aeu, .ref Aed])), (Aeu, .inr (1, [.ref Beu, .int neu])), (Beu, .inl (cI, 64, .inl leu)), (Aed, .inr (1, [.ref Bed, .int ned])), (Bed, .inl (cI, 64, .inl led)), (Af, .inr (0, [.ref Afu, .ref Afd])), (Afu, .inr (1, [.ref Bfu, .int nfu])), (Bfu, .inl (cI, 64, .inl lfu)), (Afd, .inr (1, [.ref Bfd, .int nfd])), (Bfd, .inl (cI, 64, .inl lfd))]) (wn := fun u : Unit => (wX4 cI cJ Ax Bx Aw As Asm Bsm Ast Bst Ag Agu Bgu Agd Bgd Ae Aeu Beu Aed Bed Af Afu Bfu Afd Bfd row rc wa wb wlo whi wtot lsm nsm lst nst lgu ngu lgd ngd leu neu led ned lfu nfu lfd nfd ans rfc rfb)) rfl rfl (by decide) (by decide) (by decide) (by decide) (fun _ => rfl) (rest := []) (q0 := 0) rfl rfl rfl hl.1 rfl (Nat.le_of_ble_eq_true rfl) (Nat.zero_le _) (Nat.zero_le _) dX4_weight_6 (fun r_1 u H locs hw hP hD hS => ?_)
  exact hret _ () _ _ _ _ hw hP hD hS dX4_weight_9
theorem fX4_upTo_20 : Cond.fieldLink RX4 20 "PrivateCounts" "weights" "LPrivateCounts$Table;" ∈ wsX4_upTo := by decide +kernel
theorem uX4_upTo_X4 : ∀ w ∈ u_ws RX4 TX4 10, w ∈ wsX4_upTo := by decide +kernel
set_option maxHeartbeats 4000000 in
set_option maxRecDepth 100000 in
theorem M_X4_upTo (l : Launch) (G : va_G) (cI cJ : ClassId) (Ax Bx Aw As Asm Bsm Ast Bst Ag Agu Bgu Agd Bgd Ae Aeu Beu Aed Bed Af Afu Bfu Afd Bfd : Nat) (row : Nat → Int32) (rc : Int32) (wa : Int32) (wb : Int32) (wlo : Int32) (whi : Int32) (wtot : Int64) (lsm : Nat → Int32) (nsm : Int32) (lst : Nat → Int32) (nst : Int32) (lgu : Nat → Int32) (ngu : Int32) (lgd : Nat → Int32) (ngd : Int32) (leu : Nat → Int32) (neu : Int32) (led : Nat → Int32) (ned : Int32) (lfu : Nat → Int32) (nfu : Int32) (lfd : Nat → Int32) (nfd : Int32) (ans : Int32) (rfc : Int32) (rfb : Int32) (p0 : Int32) (p1 : Int32) (Q : Int64 → Prop) (hw : w_X4_upTo wa wb wlo whi wtot p0 p1 Q) : Kl l yX4_upTo wsX4_upTo rm_X4_upTo G cI cJ [.ref Ax, .int p0, .int p1] (wX4 cI cJ Ax Bx Aw As Asm Bsm Ast Bst Ag Agu Bgu Agd Bgd Ae Aeu Beu Aed Bed Af Afu Bfu Afd Bfd row rc wa wb wlo whi wtot lsm nsm lst nst lgu ngu lgd ngd leu neu led ned lfu nfu lfd nfd ans rfc rfb) (fun (r : Int64) (u : Unit) => Q r) (fun u => (wX4 cI cJ Ax Bx Aw As Asm Bsm Ast Bst Ag Agu Bgu Agd Bgd Ae Aeu Beu Aed Bed Af Afu Bfu Afd Bfd row rc wa wb wlo whi wtot lsm nsm lst nst lgu ngu lgd ngd leu neu led ned lfu nfu lfd nfd ans rfc rfb)) := by
  refine kl_intro (cc := cX4_upTo) (maxL := 3) rfl rfl (by decide) rfl (Nat.le_of_ble_eq_true rfl) ?_
  intro p e s m args below meth c A Z ls hx hb hml hts hown hP hK hD hS hA hl hret
  have hl : lv_has ls 3 [(0, .ref Ax), (1, .int p0), (2, .int p1)] := hl
  unfold w_X4_upTo at hw
  refine lv_aload_n hx hb dX4_upTo_0 rfl (lv_at hl 0 rfl) ?_
  refine k_get hx hb hts uX4_upTo_X4 hown hK hP 0 4 rfl rfl 2 (by decide) fX4_upTo_20 (.ref Aw) rfl dX4_upTo_1 ?_
  refine lv_iload_n hx hb dX4_upTo_4 rfl (lv_at hl 1 rfl) ?_
  refine lv_iload_n hx hb dX4_upTo_5 rfl (lv_at hl 2 rfl) ?_
  refine k_Vl (M_X3_sumTo l G cI cJ Aw wa wb wlo whi wtot p0 p1 _ hw) ⟨hx, hb, hml, hown, hts⟩ (cwV 2 hts gX4_upTo_X3_sumTo rfl rfl rfl (by decide +kernel) ⟨Nat.le_of_ble_eq_true rfl, Nat.le_of_ble_eq_true rfl⟩) hK hP hD hS hA [2] [0, 1, 3, 4, 5, 6, 7, 8, 9, 10, 11, 12, 13, 14, 15, 16, 17, 18, 19, 20, 21, 22] [0, 1, 22, 2, 3, 4, 5, 6, 7, 8, 9, 10, 11, 12, 13, 14, 15, 16, 17, 18, 19, 20, 21] (wr := [(Ax, .inr (4, [.ref Bx, .int rc, .ref Aw, .ref As, .ref Ag, .ref Ae, .ref Af, .int ans, .int rfc, .int rfb])), (Bx, .inl (cI, 60, .inl row)), (As, .inr (2, [.ref Asm, .ref Ast])), (Asm, .inr (1, [.ref Bsm, .int nsm])), (Bsm, .inl (cI, 64, .inl lsm)), (Ast, .inr (1, [.ref Bst, .int nst])), (Bst, .inl (cI, 64, .inl lst)), (Ag, .inr (0, [.ref Agu, .ref Agd])), (Agu, .inr (1, [.ref Bgu, .int ngu])), (Bgu, .inl (cI, 64, .inl lgu)), (Agd, .inr (1, [.ref Bgd, .int ngd])), (Bgd, .inl (cI, 64, .inl lgd)), (Ae, .inr (0, [.ref Aeu, .ref Aed])), (Aeu, .inr (1, [.ref Beu, .int neu])), (Beu, .inl (cI, 64, .inl leu)), (Aed, .inr (1, [.ref Bed, .int ned])), (Bed, .inl (cI, 64, .inl led)), (Af, .inr (0, [.ref Afu, .ref Afd])), (Afu, .inr (1, [.ref Bfu, .int nfu])), (Bfu, .inl (cI, 64, .inl lfu)), (Afd, .inr (1, [.ref Bfd, .int nfd])), (Bfd, .inl (cI, 64, .inl lfd))]) (wn := fun u : Unit => (wX4 cI cJ Ax Bx Aw As Asm Bsm Ast Bst Ag Agu Bgu Agd Bgd Ae Aeu Beu Aed Bed Af Afu Bfu Afd Bfd row rc wa wb wlo whi wtot lsm nsm lst nst lgu ngu lgd ngd leu neu led ned lfu nfu lfd nfd ans rfc rfb)) rfl rfl (by decide) (by decide) (by decide) (by decide) (fun _ => rfl) (rest := []) (q0 := 0) rfl rfl rfl hl.1 rfl (Nat.le_of_ble_eq_true rfl) (Nat.zero_le _) (Nat.zero_le _) dX4_upTo_6 (fun r_1 u H locs hw hP hD hS => ?_)
  exact hret _ () _ _ _ _ hw hP hD hS dX4_upTo_9
set_option maxHeartbeats 4000000 in
set_option maxRecDepth 100000 in
theorem M_X4_isDenominator (l : Launch) (G : va_G) (cI cJ : ClassId) (p0 : Int32) (Q : Int32 → Prop) (hw : w_X4_isDenominator p0 Q) : Ki l yX4_isDenominator wsX4_isDenominator rm_X4_isDenominator G cI cJ [.int p0] (w0 cI cJ) (fun (r : Int32) (u : Unit) => wB r ∧ Q r) (fun u => (w0 cI cJ)) := by
  refine kz_intro (cc := cX4_isDenominator) (maxL := 1) rfl rfl (by decide) rfl (Nat.le_of_ble_eq_true rfl) ?_
  intro p e s m args below meth c A Z ls hx hb hml hts hown hP hK hD hS hA hl hret
  have hl : lv_has ls 1 [(0, .int p0)] := hl
  unfold w_X4_isDenominator at hw
  refine lv_iload_n hx hb dX4_isDenominator_0 rfl (lv_at hl 0 rfl) ?_
  refine lv_iconst (v := 1) hx hb dX4_isDenominator_1 (by decide) ?_
  refine lv_icmp_lt (tgt := 16) hx hb dX4_isDenominator_2 (by decide) (fun c_2 => ?_) (fun c_2 => ?_)
  · have hw := hw.1 c_2
    refine lv_iconst (v := 0) hx hb dX4_isDenominator_16 (by decide) ?_
    exact hret _ () _ _ _ _ (Or.inl rfl) hw hP hD hS dX4_isDenominator_17
  · have hw := hw.2 c_2
    refine lv_iload_n hx hb dX4_isDenominator_5 rfl (lv_at hl 0 rfl) ?_
    refine lv_sipush (v := 1000) hx hb dX4_isDenominator_6 (by decide) ?_
    refine lv_icmp_gt (tgt := 16) hx hb dX4_isDenominator_9 (by decide) (fun c_1 => ?_) (fun c_1 => ?_)
    · have hw := hw.1 c_1
      refine lv_iconst (v := 0) hx hb dX4_isDenominator_16 (by decide) ?_
      exact hret _ () _ _ _ _ (Or.inl rfl) hw hP hD hS dX4_isDenominator_17
    · have hw := hw.2 c_1
      refine lv_iconst (v := 1) hx hb dX4_isDenominator_12 (by decide) ?_
      refine lv_goto (tgt := 17) hx hb dX4_isDenominator_13 (by decide) ?_
      exact hret _ () _ _ _ _ (Or.inr rfl) hw hP hD hS dX4_isDenominator_17
set_option maxHeartbeats 4000000 in
set_option maxRecDepth 100000 in
theorem M_X4_isGrant (l : Launch) (G : va_G) (cI cJ : ClassId) (p0 : Int32) (p1 : Int32) (Q : Int32 → Prop) (hw : w_X4_isGrant p0 p1 Q) : Ki l yX4_isGrant wsX4_isGrant rm_X4_isGrant G cI cJ [.int p0, .int p1] (w0 cI cJ) (fun (r : Int32) (u : Unit) => wB r ∧ Q r) (fun u => (w0 cI cJ)) := by
  refine kz_intro (cc := cX4_isGrant) (maxL := 2) rfl rfl (by decide) rfl (Nat.le_of_ble_eq_true rfl) ?_
  intro p e s m args below meth c A Z ls hx hb hml hts hown hP hK hD hS hA hl hret
  have hl : lv_has ls 2 [(0, .int p0), (1, .int p1)] := hl
  unfold w_X4_isGrant at hw
  refine lv_iload_n hx hb dX4_isGrant_0 rfl (lv_at hl 0 rfl) ?_
  refine lv_if_lt (tgt := 15) hx hb dX4_isGrant_1 (by decide) (fun c_3 => ?_) (fun c_3 => ?_)
  · have hw := hw.1 c_3
    refine lv_iconst (v := 0) hx hb dX4_isGrant_15 (by decide) ?_
    exact hret _ () _ _ _ _ (Or.inl rfl) hw hP hD hS dX4_isGrant_16
  · have hw := hw.2 c_3
    refine lv_iload_n hx hb dX4_isGrant_4 rfl (lv_at hl 1 rfl) ?_
    refine k_Si (M_X4_isDenominator l G cI cJ p1 _ hw) ⟨hx, hb, hml, hown, hts⟩ (va_cwS 1 hts gX4_isGrant_X4_isDenominator rfl rfl rfl (by decide +kernel) ⟨Nat.le_of_ble_eq_true rfl, Nat.le_of_ble_eq_true rfl⟩) hK hP hD hS hA [] [] [] (wr := []) (wn := fun u : Unit => (w0 cI cJ)) rfl rfl (by decide) (by decide) (by decide) (by decide) (fun _ => rfl) (rest := []) rfl hl.1 rfl (Nat.le_of_ble_eq_true rfl) (Nat.zero_le _) (Nat.zero_le _) dX4_isGrant_5 (fun r_1 u H locs hw hP hD hS => ?_)
    obtain ⟨hzr_1, hw⟩ := hw
    refine lv_if_eq (tgt := 15) hx hb dX4_isGrant_8 (by decide) (fun c_2 => ?_) (fun c_2 => ?_)
    · have hw := hw.1 c_2
      refine lv_iconst (v := 0) hx hb dX4_isGrant_15 (by decide) ?_
      exact hret _ () _ _ _ _ (Or.inl rfl) hw hP hD hS dX4_isGrant_16
    · have hw := hw.2 c_2
      refine lv_iconst (v := 1) hx hb dX4_isGrant_11 (by decide) ?_
      refine lv_goto (tgt := 16) hx hb dX4_isGrant_12 (by decide) ?_
      exact hret _ () _ _ _ _ (Or.inr rfl) hw hP hD hS dX4_isGrant_16
set_option maxHeartbeats 4000000 in
set_option maxRecDepth 100000 in
theorem M_X4_isCost (l : Launch) (G : va_G) (cI cJ : ClassId) (p0 : Int32) (p1 : Int32) (Q : Int32 → Prop) (hw : w_X4_isCost p0 p1 Q) : Ki l yX4_isCost wsX4_isCost rm_X4_isCost G cI cJ [.int p0, .int p1] (w0 cI cJ) (fun (r : Int32) (u : Unit) => wB r ∧ Q r) (fun u => (w0 cI cJ)) := by
  refine kz_intro (cc := cX4_isCost) (maxL := 2) rfl rfl (by decide) rfl (Nat.le_of_ble_eq_true rfl) ?_
  intro p e s m args below meth c A Z ls hx hb hml hts hown hP hK hD hS hA hl hret
  have hl : lv_has ls 2 [(0, .int p0), (1, .int p1)] := hl
  unfold w_X4_isCost at hw
  refine lv_iload_n hx hb dX4_isCost_0 rfl (lv_at hl 0 rfl) ?_
  refine lv_if_lt (tgt := 22) hx hb dX4_isCost_1 (by decide) (fun c_4 => ?_) (fun c_4 => ?_)
  · have hw := hw.1 c_4
    refine lv_iconst (v := 0) hx hb dX4_isCost_22 (by decide) ?_
    exact hret _ () _ _ _ _ (Or.inl rfl) hw hP hD hS dX4_isCost_23
  · have hw := hw.2 c_4
    refine lv_iload_n hx hb dX4_isCost_4 rfl (lv_at hl 0 rfl) ?_
    refine lv_sipush (v := 3000) hx hb dX4_isCost_5 (by decide) ?_
    refine lv_icmp_gt (tgt := 22) hx hb dX4_isCost_8 (by decide) (fun c_3 => ?_) (fun c_3 => ?_)
    · have hw := hw.1 c_3
      refine lv_iconst (v := 0) hx hb dX4_isCost_22 (by decide) ?_
      exact hret _ () _ _ _ _ (Or.inl rfl) hw hP hD hS dX4_isCost_23
    · have hw := hw.2 c_3
      refine lv_iload_n hx hb dX4_isCost_11 rfl (lv_at hl 1 rfl) ?_
      refine k_Si (M_X4_isDenominator l G cI cJ p1 _ hw) ⟨hx, hb, hml, hown, hts⟩ (va_cwS 1 hts gX4_isCost_X4_isDenominator rfl rfl rfl (by decide +kernel) ⟨Nat.le_of_ble_eq_true rfl, Nat.le_of_ble_eq_true rfl⟩) hK hP hD hS hA [] [] [] (wr := []) (wn := fun u : Unit => (w0 cI cJ)) rfl rfl (by decide) (by decide) (by decide) (by decide) (fun _ => rfl) (rest := []) rfl hl.1 rfl (Nat.le_of_ble_eq_true rfl) (Nat.zero_le _) (Nat.zero_le _) dX4_isCost_12 (fun r_1 u H locs hw hP hD hS => ?_)
      obtain ⟨hzr_1, hw⟩ := hw
      refine lv_if_eq (tgt := 22) hx hb dX4_isCost_15 (by decide) (fun c_2 => ?_) (fun c_2 => ?_)
      · have hw := hw.1 c_2
        refine lv_iconst (v := 0) hx hb dX4_isCost_22 (by decide) ?_
        exact hret _ () _ _ _ _ (Or.inl rfl) hw hP hD hS dX4_isCost_23
      · have hw := hw.2 c_2
        refine lv_iconst (v := 1) hx hb dX4_isCost_18 (by decide) ?_
        refine lv_goto (tgt := 23) hx hb dX4_isCost_19 (by decide) ?_
        exact hret _ () _ _ _ _ (Or.inr rfl) hw hP hD hS dX4_isCost_23
end
