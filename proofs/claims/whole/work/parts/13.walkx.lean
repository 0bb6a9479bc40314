/-! What a throw, a nest mate's constructor and a handler need of the launch, carried from the law's start into each call. -/
def xRTE : String := "java/lang/RuntimeException"
def xEXC : String := "java/lang/Exception"
def xIAE : String := "java/lang/IllegalArgumentException"
def xIOB : String := "java/lang/IndexOutOfBoundsException"
def xNames : List String := ["java/lang/RuntimeException", "java/lang/Exception"]
def wEX (tx : List (Nat × String)) (sa : Nat → Nat) (A : Nat → Prop) (U : State) (H : Heap) : Prop :=
  (va_Nw (.methodLinkNest RX0 9 yX1_init RX4) U ∧ va_Nw (.methodLinkNest RX2 9 yX1_init RX4) U ∧ va_Nw (.methodLinkNest RX4 26 yX2_init RX4) U) ∧
  (va_Nw (.declares (Bundle.initS xRTE)) U ∧ va_Nw (.declares (Bundle.initS xEXC)) U ∧ va_Nw (.declares (Bundle.initS Bundle.tN)) U ∧ va_Nw (.castable xIAE xIAE) U ∧ va_Nw (.castable xIOB xIOB) U) ∧
  (∀ q ∈ tx, vk_R RX4 q.1 q.2 (sa q.1) U) ∧
  vx_Zq Bundle.tN "UNASSIGNED_STACK" Bundle.steD A U H ∧ vx_Zq Bundle.tN "SUPPRESSED_SENTINEL" Bundle.listD A U H
theorem wEX.warm {tx : List (Nat × String)} {sa : Nat → Nat} {A : Nat → Prop} {s U : State} {H : Heap} (hW : s.WarmedH U.vm) (h : wEX tx sa A s H) : wEX tx sa A U H :=
  ⟨⟨va_Nw.warmM hW h.1.1, va_Nw.warmM hW h.1.2.1, va_Nw.warmM hW h.1.2.2⟩,
   ⟨va_Nw.warmD hW h.2.1.1, va_Nw.warmD hW h.2.1.2.1, va_Nw.warmD hW h.2.1.2.2.1, va_Nw.warmC hW h.2.1.2.2.2.1, va_Nw.warmC hW h.2.1.2.2.2.2⟩,
   fun q hq => vk_R.warm hW (h.2.2.1 q hq), vx_Zq.moved hW.alike h.2.2.2.1, vx_Zq.moved hW.alike h.2.2.2.2⟩
theorem wEX.kept {tx : List (Nat × String)} {sa : Nat → Nat} {A : Nat → Prop} {U : State} {H H1 : Heap} (hq : ∀ a : Nat, a < H.size → ¬ A a → H1[a]? = H[a]?) (h : wEX tx sa A U H) : wEX tx sa A U H1 :=
  ⟨h.1, h.2.1, h.2.2.1, h.2.2.2.1.kept hq, h.2.2.2.2.kept hq⟩
theorem wEX.narrow {tx : List (Nat × String)} {sa : Nat → Nat} {A B : Nat → Prop} {U : State} {H : Heap} (hAB : ∀ q, B q → A q) (h : wEX tx sa A U H) : wEX tx sa B U H :=
  ⟨h.1, h.2.1, h.2.2.1, h.2.2.2.1.narrow hAB, h.2.2.2.2.narrow hAB⟩
def wInE (tx : List (Nat × String)) (sa : Nat → Nat) (G : va_G) (cI cJ : ClassId) (w : va_W) (sz : Nat) (U : State) : Prop := wIn G cI cJ w sz U ∧ wEX tx sa (va_A w sz) U U.heap
theorem wInE_blind {tx : List (Nat × String)} {sa : Nat → Nat} {G : va_G} {cI cJ : ClassId} {w : va_W} {sz : Nat} {av : List Value} : FrameBlind (va_Pc av (wInE tx sa G cI cJ w sz)) :=
  fun a U g mk q => ⟨(wIn_blind a U g mk ⟨q.1, q.2.1⟩).1, (wIn_blind a U g mk ⟨q.1, q.2.1⟩).2, wEX.warm (s := U) (U := U.calling g mk a) (State.WarmedH.refl U) q.2.2⟩
/-- a constructor: it makes mc cells of ms slots -/
def Kw {S : Type} (l : Launch) (y : MethodName) (ws : List Cond) (rm : Room) (tx : List (Nat × String)) (sa : Nat → Nat) (G : va_G) (cI cJ : ClassId) (av : List Value) (w : va_W) (post : S → Prop) (w' : S → va_W) (mc ms : Nat) : Prop :=
  ∀ sz : Nat, Met l y ws rm (va_Pc av (wInE tx sa G cI cJ w sz)) (va_Qv post (fun u => wOut G cI cJ (va_A w sz) (w' u)) (va_A w sz)) mc ms (va_A w sz)
/-- a method that answers, or throws E: then nothing has changed and X holds -/
def Ex (G : va_G) (cI cJ : ClassId) (w : va_W) (sz : Nat) (E : String) (X : Prop) : String → State → State → Prop := vx_X (fun _ : Unit => X) (fun E' _ t => E' = E ∧ wOut G cI cJ (va_A w sz) w t) (va_A w sz)
def Kxi {S : Type} (l : Launch) (y : MethodName) (ws : List Cond) (rm : Room) (tx : List (Nat × String)) (sa : Nat → Nat) (G : va_G) (cI cJ : ClassId) (av : List Value) (w : va_W) (post : Int32 → S → Prop) (w' : S → va_W) (E : String) (X : Prop) : Prop :=
  ∀ sz : Nat, vx_Met l y ws rm (va_Pc av (wInE tx sa G cI cJ w sz)) (va_Qi post (fun u => wOut G cI cJ (va_A w sz) (w' u)) (va_A w sz)) (Ex G cI cJ w sz E X) 1 6 (va_A w sz)
def Kxl {S : Type} (l : Launch) (y : MethodName) (ws : List Cond) (rm : Room) (tx : List (Nat × String)) (sa : Nat → Nat) (G : va_G) (cI cJ : ClassId) (av : List Value) (w : va_W) (post : Int64 → S → Prop) (w' : S → va_W) (E : String) (X : Prop) : Prop :=
  ∀ sz : Nat, vx_Met l y ws rm (va_Pc av (wInE tx sa G cI cJ w sz)) (va_Ql post (fun u => wOut G cI cJ (va_A w sz) (w' u)) (va_A w sz)) (Ex G cI cJ w sz E X) 1 6 (va_A w sz)
def Kxv {S : Type} (l : Launch) (y : MethodName) (ws : List Cond) (rm : Room) (tx : List (Nat × String)) (sa : Nat → Nat) (G : va_G) (cI cJ : ClassId) (av : List Value) (w : va_W) (post : S → Prop) (w' : S → va_W) (E : String) (X : Prop) : Prop :=
  ∀ sz : Nat, vx_Met l y ws rm (va_Pc av (wInE tx sa G cI cJ w sz)) (va_Qv post (fun u => wOut G cI cJ (va_A w sz) (w' u)) (va_A w sz)) (Ex G cI cJ w sz E X) 1 6 (va_A w sz)
/-- a method with a handler that answers an int; it makes at most a throwable -/
def Kh {S : Type} (l : Launch) (y : MethodName) (ws : List Cond) (rm : Room) (tx : List (Nat × String)) (sa : Nat → Nat) (G : va_G) (cI cJ : ClassId) (av : List Value) (w : va_W) (post : Int32 → S → Prop) (w' : S → va_W) : Prop :=
  ∀ sz : Nat, Met l y ws rm (va_Pc av (wInE tx sa G cI cJ w sz)) (va_Qi post (fun u => wOut G cI cJ (va_A w sz) (w' u)) (va_A w sz)) 1 6 (va_A w sz)
section WalkEntryX
variable {l : Launch} {y : MethodName} {ws ws' : List Cond} {rm : Room} {tx : List (Nat × String)} {sa : Nat → Nat} {G : va_G} {cI cJ : ClassId} {av : List Value} {w : va_W} {cc : ByteArray} {maxL : Nat}
theorem kw_intro {S : Type} {post : S → Prop} {w' : S → va_W} (mc ms : Nat) (hy : plainName y.cls = true) (hw : ws = Cond.code y cc maxL none :: ws') (hlen : (lg_sl av).length ≤ maxL)
    (body : ∀ (p : Program) (e : Env) (s : State) (m : MethodId) (args : Array Value) (below : List Frame) (meth : Method) (c : Code) (A : Nat → Prop) (Z : State → Prop) (ls : Array Slot), p.tables.exec = Jvm.exec → c.code = cc → c.maxLocals = maxL → (∀ q ∈ ws, q.before args s = true) → s.vm.findClass y.cls = some m.cls → meth.name = y.name →
      va_P G vwCl w s.heap → wKK G cI cJ s → va_D A w → va_S A s.heap s.heap [] → (∀ q : Nat, s.heap.size ≤ q → A q) → wEX tx sa A s s.heap → lv_has ls maxL (lv_args 0 av) →
      (∀ (u : S) (H : Heap) (locs : List Loc) (pc : Nat) (ls : Array Slot), post u → va_P G vwCl (w' u) H → va_D A (w' u) → va_S A s.heap H locs → decode cc pc = .ok (.return_, 1) → W p l e rm s m args below meth c H locs mc ms Z (F0 m pc ls [])) →
      W p l e rm s m args below meth c s.heap [] 0 0 Z (F0 m 0 ls [])) : Kw l y ws rm tx sa G cI cJ av w post w' mc ms := by
  intro sz
  refine Met.ofW (cc := cc) (maxL := maxL) (ret := none) hy hw ?_
  intro p e s m args below meth c s₁ B hml hv
  obtain ⟨rfl, ⟨hsz, hP, hK, hD0⟩, hE⟩ := hv
  have hr := B.returns
  have hlocks := B.notSynchronized
  subst hsz
  have hD := hD0.self (sz := s.heap.size)
  have hl := lv_entry av (n := maxL) hlen
  rw [lg_entry_eq]
  exact body p e s m _ below meth c _ _ _ B.exec B.bytes hml (atoms_spec B.pre) (findClass_of_methodNamed B.named) (name_of_methodNamed B.named B.method).1 hP hK hD va_S.rf (fun q h => Or.inr h) hE hl
    (fun u H locs pc ls hq hP hD hS hd => W.vret B.exec B.bytes hr (fun t ht hW => ⟨⟨u, rfl, hq, by rw [ht]; exact hP, wKK.moved hW.alike hK, hD⟩, hS.F ht⟩) hS.2.2 hd)
end WalkEntryX
section WalkCellsX
variable {p : Program} {l : Launch} {e : Env} {R : Room} {s : State} {m : MethodId} {args : Array Value} {below : List Frame} {meth : Method} {c : Code} {H : Heap} {locs : List Loc} {cells slots : Nat} {Q : State → Prop} {cc : ByteArray} {pc : Nat} {ls : Array Slot} {rest st0 : List Value} {G : va_G} {cI cJ : ClassId} {A : Nat → Prop} {H0 : Heap} {a : Nat} {ws : va_W} {tx : List (Nat × String)} {sa : Nat → Nat}
theorem k_newI (hx : p.tables.exec = Jvm.exec) (hb : c.code = cc) (harr : (Cond.arrayClass .int).before args s = true) (hK : wKK G cI cJ s) (hP : va_P G vwCl ws H) (hD : va_D A ws) (hS : va_S A H0 H locs) (hA : ∀ q, H0.size ≤ q → A q) {n : Int32} (N : Nat) (hn : ¬ n < 0) (hN : n.toNatClampNeg = N) (hbytes : N * 4 ≤ 536870912) (hcells : cells + 1 ≤ R.cells) (hslots : slots + N ≤ R.slots) (hdg : decode cc pc = .ok (.newarray .int, 2))
    (kk : ∀ (q : Nat) (H1 : Heap), va_P G vwCl (ws ++ [(q, .inl (cI, N, .inl (fun _ => 0)))]) H1 → va_D A (ws ++ [(q, .inl (cI, N, .inl (fun _ => 0)))]) → va_S A H0 H1 locs → W p l e R s m args below meth c H1 locs (cells + 1) (slots + N) Q (F0 m (pc + 2) ls (.ref q :: rest))) : W p l e R s m args below meth c H locs cells slots Q (F0 m pc ls (.int n :: rest)) := by
  refine va_newa (atype := .int) (ty := .int) (a0 := (N, .inl (fun _ => 0))) hx hb harr rfl hK.1 hP hD hS hA (fun _ => rfl) hn hN hbytes hcells hslots hdg (fun q cA H1 hK1 hP1 hD1 hS1 => ?_)
  have h2 : ArrOfT s cA .int ∧ va_RA s cA .int := hK1.2 2 (cA, .int) rfl
  have h3 : s.vm.findClass "[I" = some cA := h2.2
  have h4 : cA = cI := Option.some.inj (h3.symm.trans hK.2.1)
  subst h4
  exact kk q H1 hP1 hD1 hS1
theorem k_newJ (hx : p.tables.exec = Jvm.exec) (hb : c.code = cc) (harr : (Cond.arrayClass .long).before args s = true) (hK : wKK G cI cJ s) (hP : va_P G vwCl ws H) (hD : va_D A ws) (hS : va_S A H0 H locs) (hA : ∀ q, H0.size ≤ q → A q) {n : Int32} (N : Nat) (hn : ¬ n < 0) (hN : n.toNatClampNeg = N) (hbytes : N * 8 ≤ 536870912) (hcells : cells + 1 ≤ R.cells) (hslots : slots + N ≤ R.slots) (hdg : decode cc pc = .ok (.newarray .long, 2))
    (kk : ∀ (q : Nat) (H1 : Heap), va_P G vwCl (ws ++ [(q, .inl (cJ, N, .inr (.inl (fun _ => 0))))]) H1 → va_D A (ws ++ [(q, .inl (cJ, N, .inr (.inl (fun _ => 0))))]) → va_S A H0 H1 locs → W p l e R s m args below meth c H1 locs (cells + 1) (slots + N) Q (F0 m (pc + 2) ls (.ref q :: rest))) : W p l e R s m args below meth c H locs cells slots Q (F0 m pc ls (.int n :: rest)) := by
  refine va_newa (atype := .long) (ty := .long) (a0 := (N, .inr (.inl (fun _ => 0)))) hx hb harr rfl hK.1 hP hD hS hA (fun _ => rfl) hn hN hbytes hcells hslots hdg (fun q cA H1 hK1 hP1 hD1 hS1 => ?_)
  have h2 : ArrOfT s cA .long ∧ va_RA s cA .long := hK1.2 2 (cA, .long) rfl
  have h3 : s.vm.findClass "[J" = some cA := h2.2
  have h4 : cA = cJ := Option.some.inj (h3.symm.trans hK.2.2)
  subst h4
  exact kk q H1 hP1 hD1 hS1
theorem k_putF (hx : p.tables.exec = Jvm.exec) (hb : c.code = cc) {own C : String} {T : u_T} {N index : Nat} {Ts : List Cond} (hts : ∀ w ∈ Ts, w.before args s = true) (hin : ∀ w ∈ u_ws C T N, w ∈ Ts) (ty0 : Nat → FieldType) (hty : ∀ k, k < N → parseFieldDescriptor (T k).2.2.1 = some (ty0 k)) (hnm : ∀ a, a < N → ∀ b, b < N → a ≠ b → (T a).2.1 ≠ (T b).2.1) (hown : s.vm.findClass own = some m.cls) (hK : wKK G cI cJ s) (hP : va_P G vwCl ws H) (hD : va_D A ws) (hS0 : va_S A H0 H locs) (q0 ci : Nat) {fs : List Value} (he : ws[q0]? = some (a, .inr (ci, fs))) (hc : vwCl[ci]? = some (C, T, N)) (k : Nat) (hk : k < N) (hlink : Cond.fieldLink own index (T k).1 (T k).2.1 (T k).2.2.1 ∈ Ts) (hfin : (T k).2.2.2 = true) (hin2 : meth.name = "<init>") (hdecl : (T k).1 = own) {v : Value} (hn : narrow (ty0 k) v = v) (hfit : fits (ty0 k) v = true) (hl : k < fs.length) {w' : va_W} (hw' : ws.set q0 (a, .inr (ci, fs.set k v)) = w')
    (hdg : decode cc pc = .ok (.putfield index, 3)) (kk : ∀ (H1 : Heap) (locs1 : List Loc), va_P G vwCl w' H1 → va_D A w' → va_S A H0 H1 locs1 → W p l e R s m args below meth c H1 locs1 cells slots Q (F0 m (pc + 3) ls rest)) : W p l e R s m args below meth c H locs cells slots Q (F0 m pc ls (v :: .ref a :: rest)) :=
  va_putF hx hb hts hin ty0 hty hnm hown hK.1 hP hD hS0 q0 he hc k hk (hts _ hlink) (fun _ h => h) hfin hin2 hdecl (hty k hk) hn hfit hl hdg (fun H1 l1 h1 h2 h3 => by subst hw'; exact kk H1 l1 h1 h2 h3)
theorem k_callPcE {wd wc : va_W} {av : List Value} (hK : wKK G cI cJ s) (hP : va_P G vwCl wd H) (hD : va_D A wd) (isC : List Nat) (hC : isC.map (fun i => wd[i]?) = wc.map some) (hnC : va_nd isC = true) (hE : wEX tx sa A s H0) (hS : va_S A H0 H locs) (hA : ∀ q, H0.size ≤ q → A q) :
    ∀ U : State, U.heap = H → s.WarmedH U.vm → va_Pc av (wInE tx sa G cI cJ wc H.size) av.toArray U :=
  fun U hU hW => ⟨rfl, (k_callPc (av := av) hK hP hD isC hC hnC U hU hW).2, by rw [hU]; exact wEX.warm hW (wEX.kept hS.2.1 hE |>.narrow (va_free (wc := wc) hD hS hA isC hC))⟩
variable {own C host : String} {index maxL n nL : Nat} {y : MethodName} {bytes : ByteArray} {wsY Ts ws' : List Cond} {rm : Room} {b ci q0 : Nat} {As : List Value} {wd wc wr : va_W} {fs : List Value} {T : u_T} {N : Nat} {S : Type} {mc ms : Nat}
theorem k_I {post : S → Prop} {w' : S → va_W} (hM : Kw l y wsY rm tx sa G cI cJ (.ref b :: As) wc post w' mc ms) (fx : CallFix p m c cc nL s args Ts own) (cw : CallB R s args own index y bytes maxL none wsY rm mc ms n ∧ y.name = "<init>" ∧ (Cond.instanceMethod y).before args s = true) (hK : wKK G cI cJ s) (hP : va_P G vwCl wd H) (hD : va_D A wd) (hS : va_S A H0 H locs) (hA : ∀ q, H0.size ≤ q → A q) (hE : wEX tx sa A s H0) (isC isR : List Nat) (hC : isC.map (fun i => wd[i]?) = wc.map some) (hR : isR.map (fun i => wd[i]?) = wr.map some) (hnC : va_nd isC = true) (hn2 : va_nd isR = true) (hdis : ∀ i ∈ isR, i ∉ isC)
    (hn : As.length = n) (hls : ls.size = nL) (hst : st0 = As.reverse ++ .ref b :: rest) (hrm : (rest.map fun v => v.category).sum ≤ 8) (hc0 : cells + mc ≤ R.cells) (hs0 : slots + ms ≤ R.slots) (hdg : decode cc pc = .ok (.invokespecial index, 3))
    (kk : ∀ (u : S) (H1 : Heap) (locs1 : List Loc), post u → va_P G vwCl (wr ++ w' u) H1 → va_D A (wr ++ w' u) → va_S A H0 H1 locs1 → W p l e R s m args below meth c H1 locs1 (cells + mc) (slots + ms) Q (F0 m (pc + 3) ls rest)) : W p l e R s m args below meth c H locs cells slots Q (F0 m pc ls st0) := by
  have hF := va_free (wc := wc) hD hS hA isC hC
  refine va_callv (va_runI (As := As) (rest := rest) fx (hM H.size) cw ⟨wInE_blind, k_callPcE (av := .ref b :: As) hK hP hD isC hC hnC hE hS hA⟩ rfl hn hls hst (lv_room hrm) hdg ⟨hc0, hs0⟩) hS (fun q _ h => hF q h) hF (fun u t H1 locs1 ht hvm hw hB hz1 hk1 hS => ?_)
  obtain ⟨hP1, hK1, hD1⟩ := hB
  rw [ht] at hP1
  obtain ⟨hP2, hD2⟩ := va_join hP hD isC isR hC hR hn2 hdis hk1 hF hP1 hD1
  exact kk u H1 locs1 hw hP2 hD2 hS
theorem k_IN {post : S → Prop} {w' : S → va_W} (hM : Kw l y wsY rm tx sa G cI cJ (.ref b :: As) wc post w' mc ms) (fx : CallFix p m c cc nL s args Ts own) (cw : va_CN R s args own index y host bytes maxL none wsY rm mc ms n ∧ y.name = "<init>" ∧ (Cond.instanceMethod y).before args s = true) (hK : wKK G cI cJ s) (hP : va_P G vwCl wd H) (hD : va_D A wd) (hS : va_S A H0 H locs) (hA : ∀ q, H0.size ≤ q → A q) (hE : wEX tx sa A s H0) (isC isR : List Nat) (hC : isC.map (fun i => wd[i]?) = wc.map some) (hR : isR.map (fun i => wd[i]?) = wr.map some) (hnC : va_nd isC = true) (hn2 : va_nd isR = true) (hdis : ∀ i ∈ isR, i ∉ isC)
    (hn : As.length = n) (hls : ls.size = nL) (hst : st0 = As.reverse ++ .ref b :: rest) (hrm : (rest.map fun v => v.category).sum ≤ 8) (hc0 : cells + mc ≤ R.cells) (hs0 : slots + ms ≤ R.slots) (hdg : decode cc pc = .ok (.invokespecial index, 3))
    (kk : ∀ (u : S) (H1 : Heap) (locs1 : List Loc), post u → va_P G vwCl (wr ++ w' u) H1 → va_D A (wr ++ w' u) → va_S A H0 H1 locs1 → W p l e R s m args below meth c H1 locs1 (cells + mc) (slots + ms) Q (F0 m (pc + 3) ls rest)) : W p l e R s m args below meth c H locs cells slots Q (F0 m pc ls st0) := by
  have hF := va_free (wc := wc) hD hS hA isC hC
  refine va_callv (va_runIN (As := As) (rest := rest) fx (hM H.size) cw ⟨wInE_blind, k_callPcE (av := .ref b :: As) hK hP hD isC hC hnC hE hS hA⟩ rfl hn hls hst (lv_room hrm) hdg ⟨hc0, hs0⟩) hS (fun q _ h => hF q h) hF (fun u t H1 locs1 ht hvm hw hB hz1 hk1 hS => ?_)
  obtain ⟨hP1, hK1, hD1⟩ := hB
  rw [ht] at hP1
  obtain ⟨hP2, hD2⟩ := va_join hP hD isC isR hC hR hn2 hdis hk1 hF hP1 hD1
  exact kk u H1 locs1 hw hP2 hD2 hS
end WalkCellsX
