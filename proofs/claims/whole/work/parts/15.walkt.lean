/-! Methods that throw, methods that catch: entries and calls. -/
def xTx : List (Nat × String) := [(55, "there is no such row"), (66, "a, b or the range are not as told"), (92, "x is out of the range, or the coin not below all"), (98, "x or y is out of the range"), (107, "num is below 0, or den not 1 to 1000"), (118, "p is not 0 to 3000, or q not 1 to 1000"), (127, "q is not 1 to 1000"), (129, "p, q or the coin are not as told"), (146, "another which or part"), (175, "another what")]
def xB : List Cond := [.declares (Bundle.initS xRTE), .declares (Bundle.initS xEXC), .declares (Bundle.initS Bundle.tN), .castable xIAE xIAE, .castable xIOB xIOB]
theorem wEX.ofB {tx : List (Nat × String)} {sa : Nat → Nat} {A : Nat → Prop} {U : State} {H : Heap} {args : Array Value} (h : wEX tx sa A U H) : ∀ w ∈ xB, w.before args U = true := by
  obtain ⟨-, ⟨h1, h2, h3, h4, h5⟩, -⟩ := h
  intro w hw
  simp only [xB, List.mem_cons, List.not_mem_nil, or_false] at hw
  rcases hw with rfl | rfl | rfl | rfl | rfl
  · exact va_Nw.use rfl h1
  · exact va_Nw.use rfl h2
  · exact va_Nw.use rfl h3
  · exact va_Nw.use rfl h4
  · exact va_Nw.use rfl h5
theorem k_kept {G : va_G} {ws : va_W} {H H1 : Heap} (hP : va_P G vwCl ws H) (hk : ∀ q : Nat, q < H.size → H1[q]? = H[q]?) : va_P G vwCl ws H1 := hP.kept (fun k q h => hk q.1 (vx_lt hP h))
section WalkEntryT
variable {l : Launch} {y : MethodName} {ws ws' : List Cond} {rm : Room} {sa : Nat → Nat} {G : va_G} {cI cJ : ClassId} {av : List Value} {w : va_W} {cc : ByteArray} {maxL : Nat} {E text : String} {X : Prop}
theorem kxi_intro {S : Type} {post : Int32 → S → Prop} {w' : S → va_W} (ik is ic : Nat) (hst : l.stackTraces = false) (hrc : 1 ≤ rm.cells) (hrs : 6 ≤ rm.slots) (hfr : 5 < rm.frames) (hlo : 82 ≤ rm.locals) (hy : plainName y.cls = true) (hy4 : y.cls = RX4) (hw : ws = Cond.code y cc maxL (some .int) :: ws') (hlen : (lg_sl av).length ≤ maxL)
    (hE0 : Bundle.fit E = true) (hki : Cond.classLink RX4 ik E ∈ ws) (hii : Cond.initialized E ∈ ws) (hgi : ∀ q ∈ (vx_atS RX4 ic E xNames).filter goodWord, q ∈ ws) (hbi : ∀ q ∈ (vx_atS RX4 ic E xNames).filter (fun q => !goodWord q), q ∈ xB) (hgd : ∀ q ∈ Cond.classLink RX4 ik E :: Cond.initialized E :: vx_atS RX4 ic E xNames, vx_ot q = true) (htx : (is, text) ∈ xTx)
    (body : ∀ (p : Program) (e : Env) (s : State) (m : MethodId) (args : Array Value) (below : List Frame) (meth : Method) (c : Code) (A : Nat → Prop) (Z : State → Prop) (ls : Array Slot), p.tables.exec = Jvm.exec → c.code = cc → c.maxLocals = maxL → (∀ q ∈ ws, q.before args s = true) → s.vm.findClass y.cls = some m.cls →
      va_P G vwCl w s.heap → wKK G cI cJ s → va_D A w → va_S A s.heap s.heap [] → (∀ q : Nat, s.heap.size ≤ q → A q) → lv_has ls maxL (lv_args 0 av) →
      (∀ (v : Int32) (u : S) (H : Heap) (locs : List Loc) (pc : Nat) (ls : Array Slot), post v u → va_P G vwCl (w' u) H → va_D A (w' u) → va_S A s.heap H locs → decode cc pc = .ok (.ireturn, 1) → W p l e rm s m args below meth c H locs 0 0 Z (F0 m pc ls [.int v])) →
      (∀ (H : Heap) (locs : List Loc) (pc : Nat) (ls : Array Slot), X → va_P G vwCl w H → va_D A w → va_S A s.heap H locs → ls.size = maxL → decode cc pc = .ok (.new ik, 3) → decode cc (pc + 3) = .ok (.dup, 1) → decode cc (pc + 4) = .ok (.ldc is, 2) → decode cc (pc + 6) = .ok (.invokespecial ic, 3) → decode cc (pc + 9) = .ok (.athrow, 1) → W p l e rm s m args below meth c H locs 0 0 Z (F0 m pc ls [])) →
      W p l e rm s m args below meth c s.heap [] 0 0 Z (F0 m 0 ls [])) : Kxi l y ws rm xTx sa G cI cJ av w post w' E X := by
  intro sz
  refine vx_ofW (cc := cc) (maxL := maxL) (ret := (some .int)) hy hw ?_
  intro p e s m args below meth c s₁ B hml ht hv
  obtain ⟨rfl, ⟨hsz, hP, hK, hD0⟩, hE⟩ := hv
  have hr := B.returns
  have hlocks := B.notSynchronized
  subst hsz
  have hD := hD0.self (sz := s.heap.size)
  have hl := lv_entry av (n := maxL) hlen
  have hts := atoms_spec (ws := ws) B.pre
  have hown : s.vm.findClass RX4 = some m.cls := by rw [← hy4]; exact findClass_of_methodNamed B.named
  rw [lg_entry_eq]
  refine body p e s m _ below meth c _ _ _ B.exec B.bytes hml hts (findClass_of_methodNamed B.named) hP hK hD va_S.rf (fun q h => Or.inr h) hl
    (fun v u H locs pc ls hq hP hD hS hd => vx_ret (W.widen (k := 1) (n := 6) (by omega) (by omega) (W.iret (v := v) B.exec B.bytes hr (fun t ht hW => ⟨⟨v, u, rfl, hq, by rw [ht]; exact hP, wKK.moved hW.alike hK, hD⟩, hS.F ht⟩) hS.2.2 hd))) ?_
  intro H locs pc ls hX hP hD hS hsize d0 d3 d4 d6 d9
  refine vx_throwS (names := xNames) (text := text) (A := va_A w s.heap.size) B.exec B.bytes hst hown hE0 (by decide +kernel) (hts _ hki) (hts _ hii) (hE.2.2.1 _ htx) (vx_hat (fun q h => hts q (hgi q h)) hbi hE.ofB) hgd hE.2.2.2.1 hE.2.2.2.2 hS (by rw [hml]; exact hsize) d0 d3 d4 d6 d9 (fun x hx => (ht x hx).elim) hfr hlo (by show 0 + 1 ≤ _; omega) (by show 0 + 6 ≤ _; omega) hlocks ?_ hS.2.2 (by omega) (by omega)
  intro t ha hz hk
  exact ⟨(), hX, ⟨rfl, k_kept hP hk, wKK.moved ha hK, hD⟩, Nat.le_trans hS.1 hz, fun q h1 h2 => by rw [hk q (Nat.lt_of_lt_of_le h1 hS.1)]; exact hS.2.1 q h1 h2⟩
theorem kxz_intro {S : Type} {post : Int32 → S → Prop} {w' : S → va_W} (ik is ic : Nat) (hst : l.stackTraces = false) (hrc : 1 ≤ rm.cells) (hrs : 6 ≤ rm.slots) (hfr : 5 < rm.frames) (hlo : 82 ≤ rm.locals) (hy : plainName y.cls = true) (hy4 : y.cls = RX4) (hw : ws = Cond.code y cc maxL (some .boolean) :: ws') (hlen : (lg_sl av).length ≤ maxL)
    (hE0 : Bundle.fit E = true) (hki : Cond.classLink RX4 ik E ∈ ws) (hii : Cond.initialized E ∈ ws) (hgi : ∀ q ∈ (vx_atS RX4 ic E xNames).filter goodWord, q ∈ ws) (hbi : ∀ q ∈ (vx_atS RX4 ic E xNames).filter (fun q => !goodWord q), q ∈ xB) (hgd : ∀ q ∈ Cond.classLink RX4 ik E :: Cond.initialized E :: vx_atS RX4 ic E xNames, vx_ot q = true) (htx : (is, text) ∈ xTx)
    (body : ∀ (p : Program) (e : Env) (s : State) (m : MethodId) (args : Array Value) (below : List Frame) (meth : Method) (c : Code) (A : Nat → Prop) (Z : State → Prop) (ls : Array Slot), p.tables.exec = Jvm.exec → c.code = cc → c.maxLocals = maxL → (∀ q ∈ ws, q.before args s = true) → s.vm.findClass y.cls = some m.cls →
      va_P G vwCl w s.heap → wKK G cI cJ s → va_D A w → va_S A s.heap s.heap [] → (∀ q : Nat, s.heap.size ≤ q → A q) → lv_has ls maxL (lv_args 0 av) →
      (∀ (v : Int32) (u : S) (H : Heap) (locs : List Loc) (pc : Nat) (ls : Array Slot), wB v → post v u → va_P G vwCl (w' u) H → va_D A (w' u) → va_S A s.heap H locs → decode cc pc = .ok (.ireturn, 1) → W p l e rm s m args below meth c H locs 0 0 Z (F0 m pc ls [.int v])) →
      (∀ (H : Heap) (locs : List Loc) (pc : Nat) (ls : Array Slot), X → va_P G vwCl w H → va_D A w → va_S A s.heap H locs → ls.size = maxL → decode cc pc = .ok (.new ik, 3) → decode cc (pc + 3) = .ok (.dup, 1) → decode cc (pc + 4) = .ok (.ldc is, 2) → decode cc (pc + 6) = .ok (.invokespecial ic, 3) → decode cc (pc + 9) = .ok (.athrow, 1) → W p l e rm s m args below meth c H locs 0 0 Z (F0 m pc ls [])) →
      W p l e rm s m args below meth c s.heap [] 0 0 Z (F0 m 0 ls [])) : Kxi l y ws rm xTx sa G cI cJ av w (fun r u => wB r ∧ post r u) w' E X := by
  intro sz
  refine vx_ofW (cc := cc) (maxL := maxL) (ret := (some .boolean)) hy hw ?_
  intro p e s m args below meth c s₁ B hml ht hv
  obtain ⟨rfl, ⟨hsz, hP, hK, hD0⟩, hE⟩ := hv
  have hr := B.returns
  have hlocks := B.notSynchronized
  subst hsz
  have hD := hD0.self (sz := s.heap.size)
  have hl := lv_entry av (n := maxL) hlen
  have hts := atoms_spec (ws := ws) B.pre
  have hown : s.vm.findClass RX4 = some m.cls := by rw [← hy4]; exact findClass_of_methodNamed B.named
  rw [lg_entry_eq]
  refine body p e s m _ below meth c _ _ _ B.exec B.bytes hml hts (findClass_of_methodNamed B.named) hP hK hD va_S.rf (fun q h => Or.inr h) hl
    (fun v u H locs pc ls hz hq hP hD hS hd => vx_ret (W.widen (k := 1) (n := 6) (by omega) (by omega) (W.zret (v := v) (ty := .boolean) B.exec B.bytes hr (wB_narrow hz) (fun t ht hW => ⟨⟨v, u, rfl, ⟨hz, hq⟩, by rw [ht]; exact hP, wKK.moved hW.alike hK, hD⟩, hS.F ht⟩) hS.2.2 hd))) ?_
  intro H locs pc ls hX hP hD hS hsize d0 d3 d4 d6 d9
  refine vx_throwS (names := xNames) (text := text) (A := va_A w s.heap.size) B.exec B.bytes hst hown hE0 (by decide +kernel) (hts _ hki) (hts _ hii) (hE.2.2.1 _ htx) (vx_hat (fun q h => hts q (hgi q h)) hbi hE.ofB) hgd hE.2.2.2.1 hE.2.2.2.2 hS (by rw [hml]; exact hsize) d0 d3 d4 d6 d9 (fun x hx => (ht x hx).elim) hfr hlo (by show 0 + 1 ≤ _; omega) (by show 0 + 6 ≤ _; omega) hlocks ?_ hS.2.2 (by omega) (by omega)
  intro t ha hz hk
  exact ⟨(), hX, ⟨rfl, k_kept hP hk, wKK.moved ha hK, hD⟩, Nat.le_trans hS.1 hz, fun q h1 h2 => by rw [hk q (Nat.lt_of_lt_of_le h1 hS.1)]; exact hS.2.1 q h1 h2⟩
theorem kxl_intro {S : Type} {post : Int64 → S → Prop} {w' : S → va_W} (ik is ic : Nat) (hst : l.stackTraces = false) (hrc : 1 ≤ rm.cells) (hrs : 6 ≤ rm.slots) (hfr : 5 < rm.frames) (hlo : 82 ≤ rm.locals) (hy : plainName y.cls = true) (hy4 : y.cls = RX4) (hw : ws = Cond.code y cc maxL (some .long) :: ws') (hlen : (lg_sl av).length ≤ maxL)
    (hE0 : Bundle.fit E = true) (hki : Cond.classLink RX4 ik E ∈ ws) (hii : Cond.initialized E ∈ ws) (hgi : ∀ q ∈ (vx_atS RX4 ic E xNames).filter goodWord, q ∈ ws) (hbi : ∀ q ∈ (vx_atS RX4 ic E xNames).filter (fun q => !goodWord q), q ∈ xB) (hgd : ∀ q ∈ Cond.classLink RX4 ik E :: Cond.initialized E :: vx_atS RX4 ic E xNames, vx_ot q = true) (htx : (is, text) ∈ xTx)
    (body : ∀ (p : Program) (e : Env) (s : State) (m : MethodId) (args : Array Value) (below : List Frame) (meth : Method) (c : Code) (A : Nat → Prop) (Z : State → Prop) (ls : Array Slot), p.tables.exec = Jvm.exec → c.code = cc → c.maxLocals = maxL → (∀ q ∈ ws, q.before args s = true) → s.vm.findClass y.cls = some m.cls →
      va_P G vwCl w s.heap → wKK G cI cJ s → va_D A w → va_S A s.heap s.heap [] → (∀ q : Nat, s.heap.size ≤ q → A q) → lv_has ls maxL (lv_args 0 av) →
      (∀ (v : Int64) (u : S) (H : Heap) (locs : List Loc) (pc : Nat) (ls : Array Slot), post v u → va_P G vwCl (w' u) H → va_D A (w' u) → va_S A s.heap H locs → decode cc pc = .ok (.lreturn, 1) → W p l e rm s m args below meth c H locs 0 0 Z (F0 m pc ls [.long v])) →
      (∀ (H : Heap) (locs : List Loc) (pc : Nat) (ls : Array Slot), X → va_P G vwCl w H → va_D A w → va_S A s.heap H locs → ls.size = maxL → decode cc pc = .ok (.new ik, 3) → decode cc (pc + 3) = .ok (.dup, 1) → decode cc (pc + 4) = .ok (.ldc is, 2) → decode cc (pc + 6) = .ok (.invokespecial ic, 3) → decode cc (pc + 9) = .ok (.athrow, 1) → W p l e rm s m args below meth c H locs 0 0 Z (F0 m pc ls [])) →
      W p l e rm s m args below meth c s.heap [] 0 0 Z (F0 m 0 ls [])) : Kxl l y ws rm xTx sa G cI cJ av w post w' E X := by
  intro sz
  refine vx_ofW (cc := cc) (maxL := maxL) (ret := (some .long)) hy hw ?_
  intro p e s m args below meth c s₁ B hml ht hv
  obtain ⟨rfl, ⟨hsz, hP, hK, hD0⟩, hE⟩ := hv
  have hr := B.returns
  have hlocks := B.notSynchronized
  subst hsz
  have hD := hD0.self (sz := s.heap.size)
  have hl := lv_entry av (n := maxL) hlen
  have hts := atoms_spec (ws := ws) B.pre
  have hown : s.vm.findClass RX4 = some m.cls := by rw [← hy4]; exact findClass_of_methodNamed B.named
  rw [lg_entry_eq]
  refine body p e s m _ below meth c _ _ _ B.exec B.bytes hml hts (findClass_of_methodNamed B.named) hP hK hD va_S.rf (fun q h => Or.inr h) hl
    (fun v u H locs pc ls hq hP hD hS hd => vx_ret (W.widen (k := 1) (n := 6) (by omega) (by omega) (W.lret (v := v) B.exec B.bytes hr (fun t ht hW => ⟨⟨v, u, rfl, hq, by rw [ht]; exact hP, wKK.moved hW.alike hK, hD⟩, hS.F ht⟩) hS.2.2 hd))) ?_
  intro H locs pc ls hX hP hD hS hsize d0 d3 d4 d6 d9
  refine vx_throwS (names := xNames) (text := text) (A := va_A w s.heap.size) B.exec B.bytes hst hown hE0 (by decide +kernel) (hts _ hki) (hts _ hii) (hE.2.2.1 _ htx) (vx_hat (fun q h => hts q (hgi q h)) hbi hE.ofB) hgd hE.2.2.2.1 hE.2.2.2.2 hS (by rw [hml]; exact hsize) d0 d3 d4 d6 d9 (fun x hx => (ht x hx).elim) hfr hlo (by show 0 + 1 ≤ _; omega) (by show 0 + 6 ≤ _; omega) hlocks ?_ hS.2.2 (by omega) (by omega)
  intro t ha hz hk
  exact ⟨(), hX, ⟨rfl, k_kept hP hk, wKK.moved ha hK, hD⟩, Nat.le_trans hS.1 hz, fun q h1 h2 => by rw [hk q (Nat.lt_of_lt_of_le h1 hS.1)]; exact hS.2.1 q h1 h2⟩
theorem kxv_intro {S : Type} {post : S → Prop} {w' : S → va_W} (ik is ic : Nat) (hst : l.stackTraces = false) (hrc : 1 ≤ rm.cells) (hrs : 6 ≤ rm.slots) (hfr : 5 < rm.frames) (hlo : 82 ≤ rm.locals) (hy : plainName y.cls = true) (hy4 : y.cls = RX4) (hw : ws = Cond.code y cc maxL none :: ws') (hlen : (lg_sl av).length ≤ maxL)
    (hE0 : Bundle.fit E = true) (hki : Cond.classLink RX4 ik E ∈ ws) (hii : Cond.initialized E ∈ ws) (hgi : ∀ q ∈ (vx_atS RX4 ic E xNames).filter goodWord, q ∈ ws) (hbi : ∀ q ∈ (vx_atS RX4 ic E xNames).filter (fun q => !goodWord q), q ∈ xB) (hgd : ∀ q ∈ Cond.classLink RX4 ik E :: Cond.initialized E :: vx_atS RX4 ic E xNames, vx_ot q = true) (htx : (is, text) ∈ xTx)
    (body : ∀ (p : Program) (e : Env) (s : State) (m : MethodId) (args : Array Value) (below : List Frame) (meth : Method) (c : Code) (A : Nat → Prop) (Z : State → Prop) (ls : Array Slot), p.tables.exec = Jvm.exec → c.code = cc → c.maxLocals = maxL → (∀ q ∈ ws, q.before args s = true) → s.vm.findClass y.cls = some m.cls →
      va_P G vwCl w s.heap → wKK G cI cJ s → va_D A w → va_S A s.heap s.heap [] → (∀ q : Nat, s.heap.size ≤ q → A q) → lv_has ls maxL (lv_args 0 av) →
      (∀ (u : S) (H : Heap) (locs : List Loc) (pc : Nat) (ls : Array Slot), post u → va_P G vwCl (w' u) H → va_D A (w' u) → va_S A s.heap H locs → decode cc pc = .ok (.return_, 1) → W p l e rm s m args below meth c H locs 0 0 Z (F0 m pc ls [])) →
      (∀ (H : Heap) (locs : List Loc) (pc : Nat) (ls : Array Slot), X → va_P G vwCl w H → va_D A w → va_S A s.heap H locs → ls.size = maxL → decode cc pc = .ok (.new ik, 3) → decode cc (pc + 3) = .ok (.dup, 1) → decode cc (pc + 4) = .ok (.ldc is, 2) → decode cc (pc + 6) = .ok (.invokespecial ic, 3) → decode cc (pc + 9) = .ok (.athrow, 1) → W p l e rm s m args below meth c H locs 0 0 Z (F0 m pc ls [])) →
      W p l e rm s m args below meth c s.heap [] 0 0 Z (F0 m 0 ls [])) : Kxv l y ws rm xTx sa G cI cJ av w post w' E X := by
  intro sz
  refine vx_ofW (cc := cc) (maxL := maxL) (ret := none) hy hw ?_
  intro p e s m args below meth c s₁ B hml ht hv
  obtain ⟨rfl, ⟨hsz, hP, hK, hD0⟩, hE⟩ := hv
  have hr := B.returns
  have hlocks := B.notSynchronized
  subst hsz
  have hD := hD0.self (sz := s.heap.size)
  have hl := lv_entry av (n := maxL) hlen
  have hts := atoms_spec (ws := ws) B.pre
  have hown : s.vm.findClass RX4 = some m.cls := by rw [← hy4]; exact findClass_of_methodNamed B.named
  rw [lg_entry_eq]
  refine body p e s m _ below meth c _ _ _ B.exec B.bytes hml hts (findClass_of_methodNamed B.named) hP hK hD va_S.rf (fun q h => Or.inr h) hl
    (fun u H locs pc ls hq hP hD hS hd => vx_ret (W.widen (k := 1) (n := 6) (by omega) (by omega) (W.vret B.exec B.bytes hr (fun t ht hW => ⟨⟨u, rfl, hq, by rw [ht]; exact hP, wKK.moved hW.alike hK, hD⟩, hS.F ht⟩) hS.2.2 hd))) ?_
  intro H locs pc ls hX hP hD hS hsize d0 d3 d4 d6 d9
  refine vx_throwS (names := xNames) (text := text) (A := va_A w s.heap.size) B.exec B.bytes hst hown hE0 (by decide +kernel) (hts _ hki) (hts _ hii) (hE.2.2.1 _ htx) (vx_hat (fun q h => hts q (hgi q h)) hbi hE.ofB) hgd hE.2.2.2.1 hE.2.2.2.2 hS (by rw [hml]; exact hsize) d0 d3 d4 d6 d9 (fun x hx => (ht x hx).elim) hfr hlo (by show 0 + 1 ≤ _; omega) (by show 0 + 6 ≤ _; omega) hlocks ?_ hS.2.2 (by omega) (by omega)
  intro t ha hz hk
  exact ⟨(), hX, ⟨rfl, k_kept hP hk, wKK.moved ha hK, hD⟩, Nat.le_trans hS.1 hz, fun q h1 h2 => by rw [hk q (Nat.lt_of_lt_of_le h1 hS.1)]; exact hS.2.1 q h1 h2⟩
theorem kh_intro {S : Type} {post : Int32 → S → Prop} {w' : S → va_W} (hh : List (Nat × Nat × Nat × Nat)) (hy : plainName y.cls = true) (hw : ws = Cond.codeWith y cc maxL (some .int) hh :: ws') (hlen : (lg_sl av).length ≤ maxL)
    (body : ∀ (p : Program) (e : Env) (s : State) (m : MethodId) (args : Array Value) (below : List Frame) (meth : Method) (c : Code) (A : Nat → Prop) (Z : State → Prop) (ls : Array Slot), p.tables.exec = Jvm.exec → c.code = cc → c.maxLocals = maxL → (∀ q ∈ ws, q.before args s = true) → s.vm.findClass y.cls = some m.cls → c.exceptionTable.toList = tableOf hh →
      va_P G vwCl w s.heap → wKK G cI cJ s → va_D A w → va_S A s.heap s.heap [] → (∀ q : Nat, s.heap.size ≤ q → A q) → wEX xTx sa A s s.heap → lv_has ls maxL (lv_args 0 av) →
      (∀ (v : Int32) (u : S) (H : Heap) (locs : List Loc) (pc : Nat) (ls : Array Slot), post v u → va_P G vwCl (w' u) H → va_D A (w' u) → va_S A s.heap H locs → decode cc pc = .ok (.ireturn, 1) → W p l e rm s m args below meth c H locs 1 6 Z (F0 m pc ls [.int v])) →
      W p l e rm s m args below meth c s.heap [] 0 0 Z (F0 m 0 ls [])) : Kh l y ws rm xTx sa G cI cJ av w post w' := by
  intro sz
  refine va_MetW (cc := cc) (maxL := maxL) (ret := some .int) hy hw ?_
  intro p e s m args below meth c s₁ B hml hv
  obtain ⟨rfl, ⟨hsz, hP, hK, hD0⟩, hE⟩ := hv
  have hr := B.returns
  have hlocks := B.notSynchronized
  subst hsz
  have hD := hD0.self (sz := s.heap.size)
  have hl := lv_entry av (n := maxL) hlen
  have hts := atoms_spec (ws := ws) B.pre
  rw [lg_entry_eq]
  exact body p e s m _ below meth c _ _ _ B.exec B.bytes hml hts (findClass_of_methodNamed B.named) (vx_table (x := y) B (hts _ (by rw [hw]; exact List.mem_cons_self))) hP hK hD va_S.rf (fun q h => Or.inr h) hE hl
    (fun v u H locs pc ls hq hP hD hS hd => W.iret (v := v) B.exec B.bytes hr (fun t ht hW => ⟨⟨v, u, rfl, hq, by rw [ht]; exact hP, wKK.moved hW.alike hK, hD⟩, hS.F ht⟩) hS.2.2 hd)
end WalkEntryT
section WalkCellsT
variable {p : Program} {l : Launch} {e : Env} {R : Room} {s : State} {m : MethodId} {args : Array Value} {below : List Frame} {meth : Method} {c : Code} {H : Heap} {locs : List Loc} {cells slots : Nat} {Q : State → Prop} {cc : ByteArray} {pc : Nat} {ls : Array Slot} {rest st0 : List Value} {G : va_G} {cI cJ : ClassId} {A : Nat → Prop} {H0 : Heap} {a : Nat} {ws : va_W} {sa : Nat → Nat}
variable {own C : String} {index maxL n nL : Nat} {y : MethodName} {bytes : ByteArray} {wsY Ts ws' : List Cond} {rm : Room} {b ci q0 : Nat} {As : List Value} {wd wc wr : va_W} {fs : List Value} {T : u_T} {N : Nat} {S : Type} {E : String} {X : Prop} {x : ExceptionTableEntry}
theorem k_xi {post : Int32 → S → Prop} {w' wn : S → va_W} {ret : Option FieldType} (hM : Kxi l y wsY rm xTx sa G cI cJ (.ref b :: As) wc post w' E X) (fx : CallFix p m c cc nL s args Ts own) (cw : CallW R s args own C index y bytes maxL ret wsY rm 1 6 n) (hK : wKK G cI cJ s) (hP : va_P G vwCl wd H) (hD : va_D A wd) (hS : va_S A H0 H locs) (hA : ∀ q, H0.size ≤ q → A q) (hE : wEX xTx sa A s H0) (isC isR pm : List Nat) (hC : isC.map (fun i => wd[i]?) = wc.map some) (hR : isR.map (fun i => wd[i]?) = wr.map some) (hnC : va_nd isC = true) (hn2 : va_nd isR = true) (hdis : ∀ i ∈ isR, i ∉ isC) (hpm : va_nd pm = true) (hpn : ∀ u : S, pm.map (fun i => (wr ++ w' u)[i]?) = (wn u).map some) (hpx : pm.map (fun i => (wr ++ wc)[i]?) = wd.map some)
    (hrecv : wc[q0]? = some (b, .inr (ci, fs))) (hcl : vwCl[ci]? = some (C, T, N)) (hn : As.length = n) (hls : ls.size = nL) (hst : st0 = As.reverse ++ .ref b :: rest) (hrm : (rest.map fun v => v.category).sum ≤ 8) (hc0 : cells + 1 ≤ R.cells) (hs0 : slots + 6 ≤ R.slots) (hdg : decode cc pc = .ok (.invokevirtual index, 3))
    (hx1 : c.exceptionTable.toList = [x]) (hx2 : covers x pc = true) (hx3 : x.catchType ≠ 0) (hx4 : Cond.classLink own x.catchType E ∈ Ts) (hx5 : Cond.castable E E ∈ xB)
    (kx : ∀ (q9 : Nat) (H1 : Heap) (locs1 : List Loc), X → va_P G vwCl wd H1 → va_D A wd → va_S A H0 H1 locs1 → W p l e R s m args below meth c H1 locs1 (cells + 1) (slots + 6) Q (F0 m x.handlerPc ls [.ref q9]))
    (kk : ∀ (r : Int32) (u : S) (H1 : Heap) (locs1 : List Loc), post r u → va_P G vwCl (wn u) H1 → va_D A (wn u) → va_S A H0 H1 locs1 → W p l e R s m args below meth c H1 locs1 (cells + 1) (slots + 6) Q (F0 m (pc + 3) ls (.int r :: rest))) : W p l e R s m args below meth c H locs cells slots Q (F0 m pc ls st0) := by
  have hF := va_free (wc := wc) hD hS hA isC hC
  have hpc := k_callPcE (av := .ref b :: As) hK hP hD isC hC hnC hE hS hA
  have hPc : va_P G vwCl wc H := by have h := (hpc ({ s with heap := H }) rfl (State.WarmedH.refl _)).2.1.2.1; exact h
  refine vx_calli (vx_runV (As := As) (rest := rest) fx (hM H.size) cw ⟨wInE_blind, va_recv hK.1 hPc hcl hrecv, hpc⟩ rfl hn hls hst (lv_room hrm) hdg ⟨hc0, hs0⟩) hS (fun q _ h => hF q h) hF (fun q _ h => hF q h) ?_ (fun r u t H1 locs1 ht hvm hw hB hz1 hk1 hS => ?_)
  · intro E1 ce q9 u t H1 locs1 ht hvm hX hB hz1 hk1 hS hce hcv hcl
    obtain ⟨rfl, hP1, hK1, hD1⟩ := hB
    rw [ht] at hP1
    obtain ⟨hP2, hD2⟩ := k_back (w' := fun _ : Unit => wc) (wn := fun _ => wd) hP hD hF isC isR pm hC hR hn2 hdis () hpm hpx hk1 hP1 hD1
    refine vx_catch fx.2.2.2.1 [] x [] hx1 (fun z hz => nomatch hz) hx2 hx3 (fx.2.2.2.2 _ hx4) (hE.ofB _ hx5) hce hcv hcl ?_
    exact kx q9 H1 locs1 hX hP2 hD2 hS
  · obtain ⟨hP1, hK1, hD1⟩ := hB
    rw [ht] at hP1
    obtain ⟨hP2, hD2⟩ := k_back (w' := w') (wn := wn) hP hD hF isC isR pm hC hR hn2 hdis u hpm (hpn u) hk1 hP1 hD1
    exact kk r u H1 locs1 hw hP2 hD2 hS
theorem k_xl {post : Int64 → S → Prop} {w' wn : S → va_W} {ret : Option FieldType} (hM : Kxl l y wsY rm xTx sa G cI cJ (.ref b :: As) wc post w' E X) (fx : CallFix p m c cc nL s args Ts own) (cw : CallW R s args own C index y bytes maxL ret wsY rm 1 6 n) (hK : wKK G cI cJ s) (hP : va_P G vwCl wd H) (hD : va_D A wd) (hS : va_S A H0 H locs) (hA : ∀ q, H0.size ≤ q → A q) (hE : wEX xTx sa A s H0) (isC isR pm : List Nat) (hC : isC.map (fun i => wd[i]?) = wc.map some) (hR : isR.map (fun i => wd[i]?) = wr.map some) (hnC : va_nd isC = true) (hn2 : va_nd isR = true) (hdis : ∀ i ∈ isR, i ∉ isC) (hpm : va_nd pm = true) (hpn : ∀ u : S, pm.map (fun i => (wr ++ w' u)[i]?) = (wn u).map some) (hpx : pm.map (fun i => (wr ++ wc)[i]?) = wd.map some)
    (hrecv : wc[q0]? = some (b, .inr (ci, fs))) (hcl : vwCl[ci]? = some (C, T, N)) (hn : As.length = n) (hls : ls.size = nL) (hst : st0 = As.reverse ++ .ref b :: rest) (hrm : (rest.map fun v => v.category).sum ≤ 8) (hc0 : cells + 1 ≤ R.cells) (hs0 : slots + 6 ≤ R.slots) (hdg : decode cc pc = .ok (.invokevirtual index, 3))
    (hx1 : c.exceptionTable.toList = [x]) (hx2 : covers x pc = true) (hx3 : x.catchType ≠ 0) (hx4 : Cond.classLink own x.catchType E ∈ Ts) (hx5 : Cond.castable E E ∈ xB)
    (kx : ∀ (q9 : Nat) (H1 : Heap) (locs1 : List Loc), X → va_P G vwCl wd H1 → va_D A wd → va_S A H0 H1 locs1 → W p l e R s m args below meth c H1 locs1 (cells + 1) (slots + 6) Q (F0 m x.handlerPc ls [.ref q9]))
    (kk : ∀ (r : Int64) (u : S) (H1 : Heap) (locs1 : List Loc), post r u → va_P G vwCl (wn u) H1 → va_D A (wn u) → va_S A H0 H1 locs1 → W p l e R s m args below meth c H1 locs1 (cells + 1) (slots + 6) Q (F0 m (pc + 3) ls (.long r :: rest))) : W p l e R s m args below meth c H locs cells slots Q (F0 m pc ls st0) := by
  have hF := va_free (wc := wc) hD hS hA isC hC
  have hpc := k_callPcE (av := .ref b :: As) hK hP hD isC hC hnC hE hS hA
  have hPc : va_P G vwCl wc H := by have h := (hpc ({ s with heap := H }) rfl (State.WarmedH.refl _)).2.1.2.1; exact h
  refine vx_calll (vx_runV (As := As) (rest := rest) fx (hM H.size) cw ⟨wInE_blind, va_recv hK.1 hPc hcl hrecv, hpc⟩ rfl hn hls hst (lv_room hrm) hdg ⟨hc0, hs0⟩) hS (fun q _ h => hF q h) hF (fun q _ h => hF q h) ?_ (fun r u t H1 locs1 ht hvm hw hB hz1 hk1 hS => ?_)
  · intro E1 ce q9 u t H1 locs1 ht hvm hX hB hz1 hk1 hS hce hcv hcl
    obtain ⟨rfl, hP1, hK1, hD1⟩ := hB
    rw [ht] at hP1
    obtain ⟨hP2, hD2⟩ := k_back (w' := fun _ : Unit => wc) (wn := fun _ => wd) hP hD hF isC isR pm hC hR hn2 hdis () hpm hpx hk1 hP1 hD1
    refine vx_catch fx.2.2.2.1 [] x [] hx1 (fun z hz => nomatch hz) hx2 hx3 (fx.2.2.2.2 _ hx4) (hE.ofB _ hx5) hce hcv hcl ?_
    exact kx q9 H1 locs1 hX hP2 hD2 hS
  · obtain ⟨hP1, hK1, hD1⟩ := hB
    rw [ht] at hP1
    obtain ⟨hP2, hD2⟩ := k_back (w' := w') (wn := wn) hP hD hF isC isR pm hC hR hn2 hdis u hpm (hpn u) hk1 hP1 hD1
    exact kk r u H1 locs1 hw hP2 hD2 hS
theorem k_xv {post : S → Prop} {w' wn : S → va_W} {ret : Option FieldType} (hM : Kxv l y wsY rm xTx sa G cI cJ (.ref b :: As) wc post w' E X) (fx : CallFix p m c cc nL s args Ts own) (cw : CallW R s args own C index y bytes maxL ret wsY rm 1 6 n) (hK : wKK G cI cJ s) (hP : va_P G vwCl wd H) (hD : va_D A wd) (hS : va_S A H0 H locs) (hA : ∀ q, H0.size ≤ q → A q) (hE : wEX xTx sa A s H0) (isC isR pm : List Nat) (hC : isC.map (fun i => wd[i]?) = wc.map some) (hR : isR.map (fun i => wd[i]?) = wr.map some) (hnC : va_nd isC = true) (hn2 : va_nd isR = true) (hdis : ∀ i ∈ isR, i ∉ isC) (hpm : va_nd pm = true) (hpn : ∀ u : S, pm.map (fun i => (wr ++ w' u)[i]?) = (wn u).map some) (hpx : pm.map (fun i => (wr ++ wc)[i]?) = wd.map some)
    (hrecv : wc[q0]? = some (b, .inr (ci, fs))) (hcl : vwCl[ci]? = some (C, T, N)) (hn : As.length = n) (hls : ls.size = nL) (hst : st0 = As.reverse ++ .ref b :: rest) (hrm : (rest.map fun v => v.category).sum ≤ 8) (hc0 : cells + 1 ≤ R.cells) (hs0 : slots + 6 ≤ R.slots) (hdg : decode cc pc = .ok (.invokevirtual index, 3))
    (hx1 : c.exceptionTable.toList = [x]) (hx2 : covers x pc = true) (hx3 : x.catchType ≠ 0) (hx4 : Cond.classLink own x.catchType E ∈ Ts) (hx5 : Cond.castable E E ∈ xB)
    (kx : ∀ (q9 : Nat) (H1 : Heap) (locs1 : List Loc), X → va_P G vwCl wd H1 → va_D A wd → va_S A H0 H1 locs1 → W p l e R s m args below meth c H1 locs1 (cells + 1) (slots + 6) Q (F0 m x.handlerPc ls [.ref q9]))
    (kk : ∀ (u : S) (H1 : Heap) (locs1 : List Loc), post u → va_P G vwCl (wn u) H1 → va_D A (wn u) → va_S A H0 H1 locs1 → W p l e R s m args below meth c H1 locs1 (cells + 1) (slots + 6) Q (F0 m (pc + 3) ls (rest))) : W p l e R s m args below meth c H locs cells slots Q (F0 m pc ls st0) := by
  have hF := va_free (wc := wc) hD hS hA isC hC
  have hpc := k_callPcE (av := .ref b :: As) hK hP hD isC hC hnC hE hS hA
  have hPc : va_P G vwCl wc H := by have h := (hpc ({ s with heap := H }) rfl (State.WarmedH.refl _)).2.1.2.1; exact h
  refine vx_callv (vx_runV (As := As) (rest := rest) fx (hM H.size) cw ⟨wInE_blind, va_recv hK.1 hPc hcl hrecv, hpc⟩ rfl hn hls hst (lv_room hrm) hdg ⟨hc0, hs0⟩) hS (fun q _ h => hF q h) hF (fun q _ h => hF q h) ?_ (fun u t H1 locs1 ht hvm hw hB hz1 hk1 hS => ?_)
  · intro E1 ce q9 u t H1 locs1 ht hvm hX hB hz1 hk1 hS hce hcv hcl
    obtain ⟨rfl, hP1, hK1, hD1⟩ := hB
    rw [ht] at hP1
    obtain ⟨hP2, hD2⟩ := k_back (w' := fun _ : Unit => wc) (wn := fun _ => wd) hP hD hF isC isR pm hC hR hn2 hdis () hpm hpx hk1 hP1 hD1
    refine vx_catch fx.2.2.2.1 [] x [] hx1 (fun z hz => nomatch hz) hx2 hx3 (fx.2.2.2.2 _ hx4) (hE.ofB _ hx5) hce hcv hcl ?_
    exact kx q9 H1 locs1 hX hP2 hD2 hS
  · obtain ⟨hP1, hK1, hD1⟩ := hB
    rw [ht] at hP1
    obtain ⟨hP2, hD2⟩ := k_back (w' := w') (wn := wn) hP hD hF isC isR pm hC hR hn2 hdis u hpm (hpn u) hk1 hP1 hD1
    exact kk u H1 locs1 hw hP2 hD2 hS
theorem k_SW {post : Int32 → S → Prop} {w' wn : S → va_W} {ret : Option FieldType} {hh : List (Nat × Nat × Nat × Nat)} (hM : Kh l y wsY rm xTx sa G cI cJ As wc post w') (fx : CallFix p m c cc nL s args Ts own) (cw : vx_CSW R s args own index y bytes maxL ret hh wsY rm 1 6 n) (hK : wKK G cI cJ s) (hP : va_P G vwCl wd H) (hD : va_D A wd) (hS : va_S A H0 H locs) (hA : ∀ q, H0.size ≤ q → A q) (hE : wEX xTx sa A s H0) (isC isR pm : List Nat) (hC : isC.map (fun i => wd[i]?) = wc.map some) (hR : isR.map (fun i => wd[i]?) = wr.map some) (hnC : va_nd isC = true) (hn2 : va_nd isR = true) (hdis : ∀ i ∈ isR, i ∉ isC) (hpm : va_nd pm = true) (hpn : ∀ u : S, pm.map (fun i => (wr ++ w' u)[i]?) = (wn u).map some)
    (hn : As.length = n) (hls : ls.size = nL) (hst : st0 = As.reverse ++ rest) (hrm : (rest.map fun v => v.category).sum ≤ 8) (hc0 : cells + 1 ≤ R.cells) (hs0 : slots + 6 ≤ R.slots) (hdg : decode cc pc = .ok (.invokestatic index, 3))
    (kk : ∀ (r : Int32) (u : S) (H1 : Heap) (locs1 : List Loc), post r u → va_P G vwCl (wn u) H1 → va_D A (wn u) → va_S A H0 H1 locs1 → W p l e R s m args below meth c H1 locs1 (cells + 1) (slots + 6) Q (F0 m (pc + 3) ls (.int r :: rest))) : W p l e R s m args below meth c H locs cells slots Q (F0 m pc ls st0) := by
  have hF := va_free (wc := wc) hD hS hA isC hC
  refine va_calli (vx_runSW (As := As) (rest := rest) fx (hM H.size) cw ⟨wInE_blind, k_callPcE (av := As) hK hP hD isC hC hnC hE hS hA⟩ rfl hn hls hst (lv_room hrm) hdg ⟨hc0, hs0⟩) hS (fun q _ h => hF q h) hF (fun r u t H1 locs1 ht hvm hw hB hz1 hk1 hS => ?_)
  obtain ⟨hP1, hK1, hD1⟩ := hB
  rw [ht] at hP1
  obtain ⟨hP2, hD2⟩ := k_back (w' := w') (wn := wn) hP hD hF isC isR pm hC hR hn2 hdis u hpm (hpn u) hk1 hP1 hD1
  exact kk r u H1 locs1 hw hP2 hD2 hS
end WalkCellsT
