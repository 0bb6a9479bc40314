/-! The shape in which every contract of this claim is written: a world of cells before, a world of cells behind, the post condition a predicate that the caller chooses. -/
def wT (cI cJ : ClassId) : List (ClassId × FieldType) := [(cI, .int), (cJ, .long)]
def wKK (G : va_G) (cI cJ : ClassId) (U : State) : Prop := va_K G vwCl (wT cI cJ) U ∧ U.vm.findClass "[I" = some cI ∧ U.vm.findClass "[J" = some cJ
theorem wKK.moved {G : va_G} {cI cJ : ClassId} {u U : State} (hvm : u.vm.Alike U.vm) (h : wKK G cI cJ u) : wKK G cI cJ U :=
  ⟨va_K.moved hvm h.1, by rw [hvm.findClass]; exact h.2.1, by rw [hvm.findClass]; exact h.2.2⟩
def wIn (G : va_G) (cI cJ : ClassId) (w : va_W) (sz : Nat) (U : State) : Prop := U.heap.size = sz ∧ va_P G vwCl w U.heap ∧ wKK G cI cJ U ∧ va_D (fun _ => True) w
def wOut (G : va_G) (cI cJ : ClassId) (A : Nat → Prop) (w : va_W) (t : State) : Prop := va_P G vwCl w t.heap ∧ wKK G cI cJ t ∧ va_D A w
theorem wIn_blind {G : va_G} {cI cJ : ClassId} {w : va_W} {sz : Nat} {av : List Value} : FrameBlind (va_Pc av (wIn G cI cJ w sz)) :=
  fun a U g mk q => by obtain ⟨q0, q1, qP, qK, qD⟩ := q; exact ⟨q0, q1, qP, wKK.moved (u := U) (U := U.calling g mk a) (Vm.Alike.refl U.vm) qK, qD⟩
def Ki {S : Type} (l : Launch) (y : MethodName) (ws : List Cond) (rm : Room) (G : va_G) (cI cJ : ClassId) (av : List Value) (w : va_W) (post : Int32 → S → Prop) (w' : S → va_W) : Prop :=
  ∀ sz : Nat, Met l y ws rm (va_Pc av (wIn G cI cJ w sz)) (va_Qi post (fun u => wOut G cI cJ (va_A w sz) (w' u)) (va_A w sz)) 0 0 (va_A w sz)
def Kl {S : Type} (l : Launch) (y : MethodName) (ws : List Cond) (rm : Room) (G : va_G) (cI cJ : ClassId) (av : List Value) (w : va_W) (post : Int64 → S → Prop) (w' : S → va_W) : Prop :=
  ∀ sz : Nat, Met l y ws rm (va_Pc av (wIn G cI cJ w sz)) (va_Ql post (fun u => wOut G cI cJ (va_A w sz) (w' u)) (va_A w sz)) 0 0 (va_A w sz)
def Kv {S : Type} (l : Launch) (y : MethodName) (ws : List Cond) (rm : Room) (G : va_G) (cI cJ : ClassId) (av : List Value) (w : va_W) (post : S → Prop) (w' : S → va_W) : Prop :=
  ∀ sz : Nat, Met l y ws rm (va_Pc av (wIn G cI cJ w sz)) (va_Qv post (fun u => wOut G cI cJ (va_A w sz) (w' u)) (va_A w sz)) 0 0 (va_A w sz)
/-- an answer that is a boolean -/
def wB (r : Int32) : Prop := r = 0 ∨ r = 1
theorem wB_narrow {r : Int32} (h : wB r) : narrow .boolean (.int r) = .int r := by rcases h with rfl | rfl <;> rfl
section WalkEntry
variable {l : Launch} {y : MethodName} {ws ws' : List Cond} {rm : Room} {G : va_G} {cI cJ : ClassId} {av : List Value} {w : va_W} {cc : ByteArray} {maxL : Nat}
theorem ki_intro {S : Type} {post : Int32 → S → Prop} {w' : S → va_W} (hrc : rm.cells = 0) (hrs : rm.slots = 0) (hy : plainName y.cls = true) (hw : ws = Cond.code y cc maxL (some .int) :: ws') (hlen : (lg_sl av).length ≤ maxL)
    (body : ∀ (p : Program) (e : Env) (s : State) (m : MethodId) (args : Array Value) (below : List Frame) (meth : Method) (c : Code) (A : Nat → Prop) (Z : State → Prop) (ls : Array Slot), p.tables.exec = Jvm.exec → c.code = cc → c.maxLocals = maxL → (∀ q ∈ ws, q.before args s = true) → s.vm.findClass y.cls = some m.cls →
      va_P G vwCl w s.heap → wKK G cI cJ s → va_D A w → va_S A s.heap s.heap [] → (∀ q : Nat, s.heap.size ≤ q → A q) → lv_has ls maxL (lv_args 0 av) →
      (∀ (v : Int32) (u : S) (H : Heap) (locs : List Loc) (pc : Nat) (ls : Array Slot), post v u → va_P G vwCl (w' u) H → va_D A (w' u) → va_S A s.heap H locs → decode cc pc = .ok (.ireturn, 1) → W p l e rm s m args below meth c H locs 0 0 Z (F0 m pc ls [.int v])) →
      W p l e rm s m args below meth c s.heap [] 0 0 Z (F0 m 0 ls [])) : Ki l y ws rm G cI cJ av w post w' := by
  intro sz
  refine Met.ofW (cc := cc) (maxL := maxL) (ret := some .int) hy hw ?_
  intro p e s m args below meth c s₁ B hml hv
  obtain ⟨rfl, hsz, hP, hK, hD0⟩ := hv
  have hr := B.returns
  have hlocks := B.notSynchronized
  subst hsz
  have hD := hD0.self (sz := s.heap.size)
  have hl := lv_entry av (n := maxL) hlen
  rw [lg_entry_eq]
  exact body p e s m _ below meth c _ _ _ B.exec B.bytes hml (atoms_spec B.pre) (findClass_of_methodNamed B.named) hP hK hD va_S.rf (fun q h => Or.inr h) hl
    (fun v u H locs pc ls hq hP hD hS hd => W.iret (v := v) B.exec B.bytes hr (fun t ht hW => ⟨⟨v, u, rfl, hq, by rw [ht]; exact hP, wKK.moved hW.alike hK, hD⟩, hS.F ht⟩) hS.2.2 hd)
theorem kz_intro {S : Type} {post : Int32 → S → Prop} {w' : S → va_W} (hrc : rm.cells = 0) (hrs : rm.slots = 0) (hy : plainName y.cls = true) (hw : ws = Cond.code y cc maxL (some .boolean) :: ws') (hlen : (lg_sl av).length ≤ maxL)
    (body : ∀ (p : Program) (e : Env) (s : State) (m : MethodId) (args : Array Value) (below : List Frame) (meth : Method) (c : Code) (A : Nat → Prop) (Z : State → Prop) (ls : Array Slot), p.tables.exec = Jvm.exec → c.code = cc → c.maxLocals = maxL → (∀ q ∈ ws, q.before args s = true) → s.vm.findClass y.cls = some m.cls →
      va_P G vwCl w s.heap → wKK G cI cJ s → va_D A w → va_S A s.heap s.heap [] → (∀ q : Nat, s.heap.size ≤ q → A q) → lv_has ls maxL (lv_args 0 av) →
      (∀ (v : Int32) (u : S) (H : Heap) (locs : List Loc) (pc : Nat) (ls : Array Slot), wB v → post v u → va_P G vwCl (w' u) H → va_D A (w' u) → va_S A s.heap H locs → decode cc pc = .ok (.ireturn, 1) → W p l e rm s m args below meth c H locs 0 0 Z (F0 m pc ls [.int v])) →
      W p l e rm s m args below meth c s.heap [] 0 0 Z (F0 m 0 ls [])) : Ki l y ws rm G cI cJ av w (fun r u => wB r ∧ post r u) w' := by
  intro sz
  refine Met.ofW (cc := cc) (maxL := maxL) (ret := some .boolean) hy hw ?_
  intro p e s m args below meth c s₁ B hml hv
  obtain ⟨rfl, hsz, hP, hK, hD0⟩ := hv
  have hr := B.returns
  have hlocks := B.notSynchronized
  subst hsz
  have hD := hD0.self (sz := s.heap.size)
  have hl := lv_entry av (n := maxL) hlen
  rw [lg_entry_eq]
  exact body p e s m _ below meth c _ _ _ B.exec B.bytes hml (atoms_spec B.pre) (findClass_of_methodNamed B.named) hP hK hD va_S.rf (fun q h => Or.inr h) hl
    (fun v u H locs pc ls hz hq hP hD hS hd => W.zret (v := v) (ty := .boolean) B.exec B.bytes hr (wB_narrow hz) (fun t ht hW => ⟨⟨v, u, rfl, ⟨hz, hq⟩, by rw [ht]; exact hP, wKK.moved hW.alike hK, hD⟩, hS.F ht⟩) hS.2.2 hd)
theorem kl_intro {S : Type} {post : Int64 → S → Prop} {w' : S → va_W} (hrc : rm.cells = 0) (hrs : rm.slots = 0) (hy : plainName y.cls = true) (hw : ws = Cond.code y cc maxL (some .long) :: ws') (hlen : (lg_sl av).length ≤ maxL)
    (body : ∀ (p : Program) (e : Env) (s : State) (m : MethodId) (args : Array Value) (below : List Frame) (meth : Method) (c : Code) (A : Nat → Prop) (Z : State → Prop) (ls : Array Slot), p.tables.exec = Jvm.exec → c.code = cc → c.maxLocals = maxL → (∀ q ∈ ws, q.before args s = true) → s.vm.findClass y.cls = some m.cls →
      va_P G vwCl w s.heap → wKK G cI cJ s → va_D A w → va_S A s.heap s.heap [] → (∀ q : Nat, s.heap.size ≤ q → A q) → lv_has ls maxL (lv_args 0 av) →
      (∀ (v : Int64) (u : S) (H : Heap) (locs : List Loc) (pc : Nat) (ls : Array Slot), post v u → va_P G vwCl (w' u) H → va_D A (w' u) → va_S A s.heap H locs → decode cc pc = .ok (.lreturn, 1) → W p l e rm s m args below meth c H locs 0 0 Z (F0 m pc ls [.long v])) →
      W p l e rm s m args below meth c s.heap [] 0 0 Z (F0 m 0 ls [])) : Kl l y ws rm G cI cJ av w post w' := by
  intro sz
  refine Met.ofW (cc := cc) (maxL := maxL) (ret := some .long) hy hw ?_
  intro p e s m args below meth c s₁ B hml hv
  obtain ⟨rfl, hsz, hP, hK, hD0⟩ := hv
  have hr := B.returns
  have hlocks := B.notSynchronized
  subst hsz
  have hD := hD0.self (sz := s.heap.size)
  have hl := lv_entry av (n := maxL) hlen
  rw [lg_entry_eq]
  exact body p e s m _ below meth c _ _ _ B.exec B.bytes hml (atoms_spec B.pre) (findClass_of_methodNamed B.named) hP hK hD va_S.rf (fun q h => Or.inr h) hl
    (fun v u H locs pc ls hq hP hD hS hd => W.lret (v := v) B.exec B.bytes hr (fun t ht hW => ⟨⟨v, u, rfl, hq, by rw [ht]; exact hP, wKK.moved hW.alike hK, hD⟩, hS.F ht⟩) hS.2.2 hd)
theorem kv_intro {S : Type} {post : S → Prop} {w' : S → va_W} (hrc : rm.cells = 0) (hrs : rm.slots = 0) (hy : plainName y.cls = true) (hw : ws = Cond.code y cc maxL none :: ws') (hlen : (lg_sl av).length ≤ maxL)
    (body : ∀ (p : Program) (e : Env) (s : State) (m : MethodId) (args : Array Value) (below : List Frame) (meth : Method) (c : Code) (A : Nat → Prop) (Z : State → Prop) (ls : Array Slot), p.tables.exec = Jvm.exec → c.code = cc → c.maxLocals = maxL → (∀ q ∈ ws, q.before args s = true) → s.vm.findClass y.cls = some m.cls →
      va_P G vwCl w s.heap → wKK G cI cJ s → va_D A w → va_S A s.heap s.heap [] → (∀ q : Nat, s.heap.size ≤ q → A q) → lv_has ls maxL (lv_args 0 av) →
      (∀ (u : S) (H : Heap) (locs : List Loc) (pc : Nat) (ls : Array Slot), post u → va_P G vwCl (w' u) H → va_D A (w' u) → va_S A s.heap H locs → decode cc pc = .ok (.return_, 1) → W p l e rm s m args below meth c H locs 0 0 Z (F0 m pc ls [])) →
      W p l e rm s m args below meth c s.heap [] 0 0 Z (F0 m 0 ls [])) : Kv l y ws rm G cI cJ av w post w' := by
  intro sz
  refine Met.ofW (cc := cc) (maxL := maxL) (ret := none) hy hw ?_
  intro p e s m args below meth c s₁ B hml hv
  obtain ⟨rfl, hsz, hP, hK, hD0⟩ := hv
  have hr := B.returns
  have hlocks := B.notSynchronized
  subst hsz
  have hD := hD0.self (sz := s.heap.size)
  have hl := lv_entry av (n := maxL) hlen
  rw [lg_entry_eq]
  exact body p e s m _ below meth c _ _ _ B.exec B.bytes hml (atoms_spec B.pre) (findClass_of_methodNamed B.named) hP hK hD va_S.rf (fun q h => Or.inr h) hl
    (fun u H locs pc ls hq hP hD hS hd => W.vret B.exec B.bytes hr (fun t ht hW => ⟨⟨u, rfl, hq, by rw [ht]; exact hP, wKK.moved hW.alike hK, hD⟩, hS.F ht⟩) hS.2.2 hd)
end WalkEntry
section WalkCells
variable {p : Program} {l : Launch} {e : Env} {R : Room} {s : State} {m : MethodId} {args : Array Value} {below : List Frame} {meth : Method} {c : Code} {H : Heap} {locs : List Loc} {cells slots : Nat} {Q : State → Prop} {cc : ByteArray} {pc : Nat} {ls : Array Slot} {rest st0 : List Value} {G : va_G} {cI cJ : ClassId} {A : Nat → Prop} {H0 : Heap} {a : Nat} {ws : va_W}
theorem k_get (hx : p.tables.exec = Jvm.exec) (hb : c.code = cc) {own C : String} {T : u_T} {N index : Nat} {Ts : List Cond} (hts : ∀ w ∈ Ts, w.before args s = true) (hin : ∀ w ∈ u_ws C T N, w ∈ Ts) (hown : s.vm.findClass own = some m.cls) (hK : wKK G cI cJ s) (hP : va_P G vwCl ws H) (q0 ci : Nat) {fs : List Value} (he : ws[q0]? = some (a, .inr (ci, fs))) (hc : vwCl[ci]? = some (C, T, N)) (k : Nat) (hk : k < N) (hlink : Cond.fieldLink own index (T k).1 (T k).2.1 (T k).2.2.1 ∈ Ts) (v : Value) (hv : fs[k]? = some v) (hdg : decode cc pc = .ok (.getfield index, 3))
    (kk : W p l e R s m args below meth c H locs cells slots Q (F0 m (pc + 3) ls (v :: rest))) : W p l e R s m args below meth c H locs cells slots Q (F0 m pc ls (.ref a :: rest)) :=
  va_get hx hb hts hin hown hK.1 hP q0 he hc k hk (hts _ hlink) (fun _ h => h) hv hdg kk
theorem k_put (hx : p.tables.exec = Jvm.exec) (hb : c.code = cc) {own C : String} {T : u_T} {N index : Nat} {Ts : List Cond} (hts : ∀ w ∈ Ts, w.before args s = true) (hin : ∀ w ∈ u_ws C T N, w ∈ Ts) (ty0 : Nat → FieldType) (hty : ∀ k, k < N → parseFieldDescriptor (T k).2.2.1 = some (ty0 k)) (hnm : ∀ a, a < N → ∀ b, b < N → a ≠ b → (T a).2.1 ≠ (T b).2.1) (hown : s.vm.findClass own = some m.cls) (hK : wKK G cI cJ s) (hP : va_P G vwCl ws H) (hD : va_D A ws) (hS0 : va_S A H0 H locs) (q0 ci : Nat) {fs : List Value} (he : ws[q0]? = some (a, .inr (ci, fs))) (hc : vwCl[ci]? = some (C, T, N)) (k : Nat) (hk : k < N) (hlink : Cond.fieldLink own index (T k).1 (T k).2.1 (T k).2.2.1 ∈ Ts) (hfin : (T k).2.2.2 = false) {v : Value} (hn : narrow (ty0 k) v = v) (hfit : fits (ty0 k) v = true) (hl : k < fs.length) {w' : va_W} (hw' : ws.set q0 (a, .inr (ci, fs.set k v)) = w')
    (hdg : decode cc pc = .ok (.putfield index, 3)) (kk : ∀ (H1 : Heap) (locs1 : List Loc), va_P G vwCl w' H1 → va_D A w' → va_S A H0 H1 locs1 → W p l e R s m args below meth c H1 locs1 cells slots Q (F0 m (pc + 3) ls rest)) : W p l e R s m args below meth c H locs cells slots Q (F0 m pc ls (v :: .ref a :: rest)) :=
  va_put hx hb hts hin ty0 hty hnm hown hK.1 hP hD hS0 q0 he hc k hk (hts _ hlink) (fun _ h => h) hfin (hty k hk) hn hfit hl hdg (fun H1 l1 h1 h2 h3 => by subst hw'; exact kk H1 l1 h1 h2 h3)
theorem k_iald (hx : p.tables.exec = Jvm.exec) (hb : c.code = cc) (hK : wKK G cI cJ s) (hP : va_P G vwCl ws H) (q0 : Nat) {n : Nat} {f : Nat → Int32} (ha : ws[q0]? = some (a, .inl (cI, n, .inl f))) {i : Int32} (hin : vp_in i n) (hdg : decode cc pc = .ok (.iaload, 1))
    (kk : W p l e R s m args below meth c H locs cells slots Q (F0 m (pc + 1) ls (.int (f i.toNatClampNeg) :: rest))) : W p l e R s m args below meth c H locs cells slots Q (F0 m pc ls (.int i :: .ref a :: rest)) :=
  va_iald hx hb hK.1 hP q0 0 ha rfl hin hdg kk
theorem k_lald (hx : p.tables.exec = Jvm.exec) (hb : c.code = cc) (hK : wKK G cI cJ s) (hP : va_P G vwCl ws H) (q0 : Nat) {n : Nat} {f : Nat → Int64} (ha : ws[q0]? = some (a, .inl (cJ, n, .inr (.inl f)))) {i : Int32} (hin : vp_in i n) (hdg : decode cc pc = .ok (.laload, 1))
    (kk : W p l e R s m args below meth c H locs cells slots Q (F0 m (pc + 1) ls (.long (f i.toNatClampNeg) :: rest))) : W p l e R s m args below meth c H locs cells slots Q (F0 m pc ls (.int i :: .ref a :: rest)) :=
  va_lald hx hb hK.1 hP q0 1 ha rfl hin hdg kk
theorem k_iast (hx : p.tables.exec = Jvm.exec) (hb : c.code = cc) (hK : wKK G cI cJ s) (hP : va_P G vwCl ws H) (hD : va_D A ws) (hS : va_S A H0 H locs) (q0 : Nat) {n : Nat} {f : Nat → Int32} (ha : ws[q0]? = some (a, .inl (cI, n, .inl f))) {i x : Int32} (hin : vp_in i n) {w' : (Nat → Int32) → va_W} (hw' : ∀ g : Nat → Int32, ws.set q0 (a, .inl (cI, n, .inl g)) = w' g) (hdg : decode cc pc = .ok (.iastore, 1))
    (kk : ∀ (g : Nat → Int32), g = upd f i.toNatClampNeg x → ∀ (H1 : Heap) (locs1 : List Loc), va_P G vwCl (w' g) H1 → va_D A (w' g) → va_S A H0 H1 locs1 → W p l e R s m args below meth c H1 locs1 cells slots Q (F0 m (pc + 1) ls rest)) : W p l e R s m args below meth c H locs cells slots Q (F0 m pc ls (.int x :: .int i :: .ref a :: rest)) :=
  va_iast hx hb hK.1 hP hD hS q0 0 ha rfl hin hdg (fun H1 l1 h1 h2 h3 => kk _ rfl H1 l1 (by rw [← hw']; exact h1) (by rw [← hw']; exact h2) h3)
theorem k_last (hx : p.tables.exec = Jvm.exec) (hb : c.code = cc) (hK : wKK G cI cJ s) (hP : va_P G vwCl ws H) (hD : va_D A ws) (hS : va_S A H0 H locs) (q0 : Nat) {n : Nat} {f : Nat → Int64} (ha : ws[q0]? = some (a, .inl (cJ, n, .inr (.inl f)))) {i : Int32} {x : Int64} (hin : vp_in i n) {w' : (Nat → Int64) → va_W} (hw' : ∀ g : Nat → Int64, ws.set q0 (a, .inl (cJ, n, .inr (.inl g))) = w' g) (hdg : decode cc pc = .ok (.lastore, 1))
    (kk : ∀ (g : Nat → Int64), g = vp_updL f i.toNatClampNeg x → ∀ (H1 : Heap) (locs1 : List Loc), va_P G vwCl (w' g) H1 → va_D A (w' g) → va_S A H0 H1 locs1 → W p l e R s m args below meth c H1 locs1 cells slots Q (F0 m (pc + 1) ls rest)) : W p l e R s m args below meth c H locs cells slots Q (F0 m pc ls (.long x :: .int i :: .ref a :: rest)) :=
  va_last hx hb hK.1 hP hD hS q0 1 ha rfl hin hdg (fun H1 l1 h1 h2 h3 => kk _ rfl H1 l1 (by rw [← hw']; exact h1) (by rw [← hw']; exact h2) h3)
theorem k_alen (hx : p.tables.exec = Jvm.exec) (hb : c.code = cc) (hK : wKK G cI cJ s) (hP : va_P G vwCl ws H) (q0 : Nat) {n : Nat} {x : (Nat → Int32) ⊕ (Nat → Int64) ⊕ (Nat → UInt32) ⊕ (Nat → UInt64) ⊕ (Nat → Option Nat)} (ha : ws[q0]? = some (a, .inl (cI, n, x))) (v : Int32) (hv : Int32.ofNat n = v) (hdg : decode cc pc = .ok (.arraylength, 1))
    (kk : W p l e R s m args below meth c H locs cells slots Q (F0 m (pc + 1) ls (.int v :: rest))) : W p l e R s m args below meth c H locs cells slots Q (F0 m pc ls (.ref a :: rest)) :=
  va_alen hx hb hK.1 hP q0 0 ha (ty := .int) rfl hv hdg kk
/-- what a caller gives beside the callee's contract: the callee's cells among its own, and how the world is ordered behind -/
theorem k_back {S : Type} {wd wc wr : va_W} {w' wn : S → va_W} {H1 : Heap} (hP : va_P G vwCl wd H) (hD : va_D A wd) (hF : ∀ q, va_A wc H.size q → A q) (isC isR pm : List Nat) (hC : isC.map (fun i => wd[i]?) = wc.map some) (hR : isR.map (fun i => wd[i]?) = wr.map some) (hn2 : va_nd isR = true) (hdis : ∀ i ∈ isR, i ∉ isC) (u : S) (hpm : va_nd pm = true) (hpn : pm.map (fun i => (wr ++ w' u)[i]?) = (wn u).map some)
    (hk : ∀ q : Nat, q < H.size → ¬ va_A wc H.size q → H1[q]? = H[q]?) (hP1 : va_P G vwCl (w' u) H1) (hD1 : va_D (va_A wc H.size) (w' u)) : va_P G vwCl (wn u) H1 ∧ va_D A (wn u) := by
  obtain ⟨h1, h2⟩ := va_join hP hD isC isR hC hR hn2 hdis hk hF hP1 hD1
  refine ⟨?_, h2.sub pm hpm hpn⟩
  intro k q hq
  have h3 : (pm.map (fun i => (wr ++ w' u)[i]?))[k]? = ((wn u).map some)[k]? := by rw [hpn]
  rw [List.getElem?_map, List.getElem?_map, hq] at h3
  cases h4 : pm[k]? with
  | none => rw [h4] at h3; simp at h3
  | some i =>
    rw [h4] at h3
    exact h1 i q (by simpa using h3)
theorem k_callPc {wd wc : va_W} {av : List Value} (hK : wKK G cI cJ s) (hP : va_P G vwCl wd H) (hD : va_D A wd) (isC : List Nat) (hC : isC.map (fun i => wd[i]?) = wc.map some) (hnC : va_nd isC = true) :
    ∀ U : State, U.heap = H → s.WarmedH U.vm → va_Pc av (wIn G cI cJ wc H.size) av.toArray U := by
  intro U hU hW
  refine ⟨rfl, by rw [hU], ?_, wKK.moved hW.alike hK, (hD.sub isC hnC hC).weaken (fun _ _ _ _ => trivial)⟩
  rw [hU]
  intro k q hq
  have h3 : (isC.map (fun i => wd[i]?))[k]? = (wc.map some)[k]? := by rw [hC]
  rw [List.getElem?_map, List.getElem?_map, hq] at h3
  cases h4 : isC[k]? with
  | none => rw [h4] at h3; simp at h3
  | some i =>
    rw [h4] at h3
    exact hP i q (by simpa using h3)
variable {own C : String} {index maxL n nL : Nat} {y : MethodName} {bytes : ByteArray} {wsY Ts ws' : List Cond} {rm : Room} {b ci q0 : Nat} {As : List Value} {wd wc wr : va_W} {fs : List Value} {T : u_T} {N : Nat} {S : Type}
theorem k_Vi {post : Int32 → S → Prop} {w' wn : S → va_W} {ret : Option FieldType} (hM : Ki l y wsY rm G cI cJ (.ref b :: As) wc post w') (fx : CallFix p m c cc nL s args Ts own) (cw : CallW R s args own C index y bytes maxL ret wsY rm 0 0 n) (hK : wKK G cI cJ s) (hP : va_P G vwCl wd H) (hD : va_D A wd) (hS : va_S A H0 H locs) (hA : ∀ q, H0.size ≤ q → A q) (isC isR pm : List Nat) (hC : isC.map (fun i => wd[i]?) = wc.map some) (hR : isR.map (fun i => wd[i]?) = wr.map some) (hnC : va_nd isC = true) (hn2 : va_nd isR = true) (hdis : ∀ i ∈ isR, i ∉ isC) (hpm : va_nd pm = true) (hpn : ∀ u : S, pm.map (fun i => (wr ++ w' u)[i]?) = (wn u).map some)
    (hrecv : wc[q0]? = some (b, .inr (ci, fs))) (hcl : vwCl[ci]? = some (C, T, N)) (hn : As.length = n) (hls : ls.size = nL) (hst : st0 = As.reverse ++ .ref b :: rest) (hrm : (rest.map fun v => v.category).sum ≤ 8) (hc0 : cells ≤ R.cells) (hs0 : slots ≤ R.slots) (hdg : decode cc pc = .ok (.invokevirtual index, 3))
    (kk : ∀ (r : Int32) (u : S) (H1 : Heap) (locs1 : List Loc), post r u → va_P G vwCl (wn u) H1 → va_D A (wn u) → va_S A H0 H1 locs1 → W p l e R s m args below meth c H1 locs1 cells slots Q (F0 m (pc + 3) ls (.int r :: rest))) : W p l e R s m args below meth c H locs cells slots Q (F0 m pc ls st0) := by
  have hF := va_free (wc := wc) hD hS hA isC hC
  have hpc := k_callPc (av := .ref b :: As) hK hP hD isC hC hnC
  have hPc : va_P G vwCl wc H := by have h := (hpc ({ s with heap := H }) rfl (State.WarmedH.refl _)).2.2.1; exact h
  refine va_calli (va_runV (As := As) (rest := rest) fx (hM H.size) cw ⟨wIn_blind, va_recv hK.1 hPc hcl hrecv, hpc⟩ rfl hn hls hst (lv_room hrm) hdg ⟨hc0, hs0⟩) hS (fun q _ h => hF q h) hF (fun r u t H1 locs1 ht hvm hw hB hz1 hk1 hS => ?_)
  obtain ⟨hP1, hK1, hD1⟩ := hB
  rw [ht] at hP1
  obtain ⟨hP2, hD2⟩ := k_back (w' := w') (wn := wn) hP hD hF isC isR pm hC hR hn2 hdis u hpm (hpn u) hk1 hP1 hD1
  exact kk r u H1 locs1 hw hP2 hD2 hS
theorem k_Vl {post : Int64 → S → Prop} {w' wn : S → va_W} {ret : Option FieldType} (hM : Kl l y wsY rm G cI cJ (.ref b :: As) wc post w') (fx : CallFix p m c cc nL s args Ts own) (cw : CallW R s args own C index y bytes maxL ret wsY rm 0 0 n) (hK : wKK G cI cJ s) (hP : va_P G vwCl wd H) (hD : va_D A wd) (hS : va_S A H0 H locs) (hA : ∀ q, H0.size ≤ q → A q) (isC isR pm : List Nat) (hC : isC.map (fun i => wd[i]?) = wc.map some) (hR : isR.map (fun i => wd[i]?) = wr.map some) (hnC : va_nd isC = true) (hn2 : va_nd isR = true) (hdis : ∀ i ∈ isR, i ∉ isC) (hpm : va_nd pm = true) (hpn : ∀ u : S, pm.map (fun i => (wr ++ w' u)[i]?) = (wn u).map some)
    (hrecv : wc[q0]? = some (b, .inr (ci, fs))) (hcl : vwCl[ci]? = some (C, T, N)) (hn : As.length = n) (hls : ls.size = nL) (hst : st0 = As.reverse ++ .ref b :: rest) (hrm : (rest.map fun v => v.category).sum ≤ 8) (hc0 : cells ≤ R.cells) (hs0 : slots ≤ R.slots) (hdg : decode cc pc = .ok (.invokevirtual index, 3))
    (kk : ∀ (r : Int64) (u : S) (H1 : Heap) (locs1 : List Loc), post r u → va_P G vwCl (wn u) H1 → va_D A (wn u) → va_S A H0 H1 locs1 → W p l e R s m args below meth c H1 locs1 cells slots Q (F0 m (pc + 3) ls (.long r :: rest))) : W p l e R s m args below meth c H locs cells slots Q (F0 m pc ls st0) := by
  have hF := va_free (wc := wc) hD hS hA isC hC
  have hpc := k_callPc (av := .ref b :: As) hK hP hD isC hC hnC
  have hPc : va_P G vwCl wc H := by have h := (hpc ({ s with heap := H }) rfl (State.WarmedH.refl _)).2.2.1; exact h
  refine va_calll (va_runV (As := As) (rest := rest) fx (hM H.size) cw ⟨wIn_blind, va_recv hK.1 hPc hcl hrecv, hpc⟩ rfl hn hls hst (lv_room hrm) hdg ⟨hc0, hs0⟩) hS (fun q _ h => hF q h) hF (fun r u t H1 locs1 ht hvm hw hB hz1 hk1 hS => ?_)
  obtain ⟨hP1, hK1, hD1⟩ := hB
  rw [ht] at hP1
  obtain ⟨hP2, hD2⟩ := k_back (w' := w') (wn := wn) hP hD hF isC isR pm hC hR hn2 hdis u hpm (hpn u) hk1 hP1 hD1
  exact kk r u H1 locs1 hw hP2 hD2 hS
theorem k_Vv {post : S → Prop} {w' wn : S → va_W} {ret : Option FieldType} (hM : Kv l y wsY rm G cI cJ (.ref b :: As) wc post w') (fx : CallFix p m c cc nL s args Ts own) (cw : CallW R s args own C index y bytes maxL ret wsY rm 0 0 n) (hK : wKK G cI cJ s) (hP : va_P G vwCl wd H) (hD : va_D A wd) (hS : va_S A H0 H locs) (hA : ∀ q, H0.size ≤ q → A q) (isC isR pm : List Nat) (hC : isC.map (fun i => wd[i]?) = wc.map some) (hR : isR.map (fun i => wd[i]?) = wr.map some) (hnC : va_nd isC = true) (hn2 : va_nd isR = true) (hdis : ∀ i ∈ isR, i ∉ isC) (hpm : va_nd pm = true) (hpn : ∀ u : S, pm.map (fun i => (wr ++ w' u)[i]?) = (wn u).map some)
    (hrecv : wc[q0]? = some (b, .inr (ci, fs))) (hcl : vwCl[ci]? = some (C, T, N)) (hn : As.length = n) (hls : ls.size = nL) (hst : st0 = As.reverse ++ .ref b :: rest) (hrm : (rest.map fun v => v.category).sum ≤ 8) (hc0 : cells ≤ R.cells) (hs0 : slots ≤ R.slots) (hdg : decode cc pc = .ok (.invokevirtual index, 3))
    (kk : ∀ (u : S) (H1 : Heap) (locs1 : List Loc), post u → va_P G vwCl (wn u) H1 → va_D A (wn u) → va_S A H0 H1 locs1 → W p l e R s m args below meth c H1 locs1 cells slots Q (F0 m (pc + 3) ls rest)) : W p l e R s m args below meth c H locs cells slots Q (F0 m pc ls st0) := by
  have hF := va_free (wc := wc) hD hS hA isC hC
  have hpc := k_callPc (av := .ref b :: As) hK hP hD isC hC hnC
  have hPc : va_P G vwCl wc H := by have h := (hpc ({ s with heap := H }) rfl (State.WarmedH.refl _)).2.2.1; exact h
  refine va_callv (va_runV (As := As) (rest := rest) fx (hM H.size) cw ⟨wIn_blind, va_recv hK.1 hPc hcl hrecv, hpc⟩ rfl hn hls hst (lv_room hrm) hdg ⟨hc0, hs0⟩) hS (fun q _ h => hF q h) hF (fun u t H1 locs1 ht hvm hw hB hz1 hk1 hS => ?_)
  obtain ⟨hP1, hK1, hD1⟩ := hB
  rw [ht] at hP1
  obtain ⟨hP2, hD2⟩ := k_back (w' := w') (wn := wn) hP hD hF isC isR pm hC hR hn2 hdis u hpm (hpn u) hk1 hP1 hD1
  exact kk u H1 locs1 hw hP2 hD2 hS
theorem k_Si {post : Int32 → S → Prop} {w' wn : S → va_W} {ret : Option FieldType} (hM : Ki l y wsY rm G cI cJ As wc post w') (fx : CallFix p m c cc nL s args Ts own) (cw : CallB R s args own index y bytes maxL ret wsY rm 0 0 n ∧ (Cond.static y).before args s = true) (hK : wKK G cI cJ s) (hP : va_P G vwCl wd H) (hD : va_D A wd) (hS : va_S A H0 H locs) (hA : ∀ q, H0.size ≤ q → A q) (isC isR pm : List Nat) (hC : isC.map (fun i => wd[i]?) = wc.map some) (hR : isR.map (fun i => wd[i]?) = wr.map some) (hnC : va_nd isC = true) (hn2 : va_nd isR = true) (hdis : ∀ i ∈ isR, i ∉ isC) (hpm : va_nd pm = true) (hpn : ∀ u : S, pm.map (fun i => (wr ++ w' u)[i]?) = (wn u).map some)
    (hn : As.length = n) (hls : ls.size = nL) (hst : st0 = As.reverse ++ rest) (hrm : (rest.map fun v => v.category).sum ≤ 8) (hc0 : cells ≤ R.cells) (hs0 : slots ≤ R.slots) (hdg : decode cc pc = .ok (.invokestatic index, 3))
    (kk : ∀ (r : Int32) (u : S) (H1 : Heap) (locs1 : List Loc), post r u → va_P G vwCl (wn u) H1 → va_D A (wn u) → va_S A H0 H1 locs1 → W p l e R s m args below meth c H1 locs1 cells slots Q (F0 m (pc + 3) ls (.int r :: rest))) : W p l e R s m args below meth c H locs cells slots Q (F0 m pc ls st0) := by
  have hF := va_free (wc := wc) hD hS hA isC hC
  have hpc := k_callPc (av := As) hK hP hD isC hC hnC
  refine va_calli (va_runS (As := As) (rest := rest) fx (hM H.size) cw ⟨wIn_blind, hpc⟩ rfl hn hls hst (lv_room hrm) hdg ⟨hc0, hs0⟩) hS (fun q _ h => hF q h) hF (fun r u t H1 locs1 ht hvm hw hB hz1 hk1 hS => ?_)
  obtain ⟨hP1, hK1, hD1⟩ := hB
  rw [ht] at hP1
  obtain ⟨hP2, hD2⟩ := k_back (w' := w') (wn := wn) hP hD hF isC isR pm hC hR hn2 hdis u hpm (hpn u) hk1 hP1 hD1
  exact kk r u H1 locs1 hw hP2 hD2 hS
theorem k_Sl {post : Int64 → S → Prop} {w' wn : S → va_W} {ret : Option FieldType} (hM : Kl l y wsY rm G cI cJ As wc post w') (fx : CallFix p m c cc nL s args Ts own) (cw : CallB R s args own index y bytes maxL ret wsY rm 0 0 n ∧ (Cond.static y).before args s = true) (hK : wKK G cI cJ s) (hP : va_P G vwCl wd H) (hD : va_D A wd) (hS : va_S A H0 H locs) (hA : ∀ q, H0.size ≤ q → A q) (isC isR pm : List Nat) (hC : isC.map (fun i => wd[i]?) = wc.map some) (hR : isR.map (fun i => wd[i]?) = wr.map some) (hnC : va_nd isC = true) (hn2 : va_nd isR = true) (hdis : ∀ i ∈ isR, i ∉ isC) (hpm : va_nd pm = true) (hpn : ∀ u : S, pm.map (fun i => (wr ++ w' u)[i]?) = (wn u).map some)
    (hn : As.length = n) (hls : ls.size = nL) (hst : st0 = As.reverse ++ rest) (hrm : (rest.map fun v => v.category).sum ≤ 8) (hc0 : cells ≤ R.cells) (hs0 : slots ≤ R.slots) (hdg : decode cc pc = .ok (.invokestatic index, 3))
    (kk : ∀ (r : Int64) (u : S) (H1 : Heap) (locs1 : List Loc), post r u → va_P G vwCl (wn u) H1 → va_D A (wn u) → va_S A H0 H1 locs1 → W p l e R s m args below meth c H1 locs1 cells slots Q (F0 m (pc + 3) ls (.long r :: rest))) : W p l e R s m args below meth c H locs cells slots Q (F0 m pc ls st0) := by
  have hF := va_free (wc := wc) hD hS hA isC hC
  have hpc := k_callPc (av := As) hK hP hD isC hC hnC
  refine va_calll (va_runS (As := As) (rest := rest) fx (hM H.size) cw ⟨wIn_blind, hpc⟩ rfl hn hls hst (lv_room hrm) hdg ⟨hc0, hs0⟩) hS (fun q _ h => hF q h) hF (fun r u t H1 locs1 ht hvm hw hB hz1 hk1 hS => ?_)
  obtain ⟨hP1, hK1, hD1⟩ := hB
  rw [ht] at hP1
  obtain ⟨hP2, hD2⟩ := k_back (w' := w') (wn := wn) hP hD hF isC isR pm hC hR hn2 hdis u hpm (hpn u) hk1 hP1 hD1
  exact kk r u H1 locs1 hw hP2 hD2 hS
end WalkCells
