/-! The law's start: the classes known, the arrays' classes, what a throw needs; then the walk of the law with its pure picture. -/
theorem wt_mem {w : Cond} (i : Nat) (h : tables_1[i]? = some w) : w ∈ lw_tbl := List.mem_append_right _ (List.mem_of_getElem? h)
theorem wt_i0 : Cond.instantiable RX0 2 ∈ lw_tbl := wt_mem 85 (by decide +kernel)
theorem wt_i1 : Cond.instantiable RX1 2 ∈ lw_tbl := wt_mem 64 (by decide +kernel)
theorem wt_i2 : Cond.instantiable RX2 2 ∈ lw_tbl := wt_mem 58 (by decide +kernel)
theorem wt_i3 : Cond.instantiable RX3 5 ∈ lw_tbl := wt_mem 21 (by decide +kernel)
theorem wt_i4 : Cond.instantiable RX4 10 ∈ lw_tbl := wt_mem 13 (by decide +kernel)
theorem wt_i5 : Cond.instantiable RX5 16 ∈ lw_tbl := wt_mem 439 (by decide +kernel)
theorem wt_aI : Cond.arrayClass FieldType.int ∈ lw_tbl := wt_mem 56 (by decide +kernel)
theorem wt_aJ : Cond.arrayClass FieldType.long ∈ lw_tbl := wt_mem 502 (by decide +kernel)
theorem wt_n0 : Cond.methodLinkNest RX0 9 yX1_init RX4 ∈ lw_tbl := wt_mem 91 (by decide +kernel)
theorem wt_n2 : Cond.methodLinkNest RX2 9 yX1_init RX4 ∈ lw_tbl := wt_mem 65 (by decide +kernel)
theorem wt_n4 : Cond.methodLinkNest RX4 26 yX2_init RX4 ∈ lw_tbl := wt_mem 59 (by decide +kernel)
theorem wt_d1 : Cond.declares (Bundle.initS xRTE) ∈ lw_tbl := wt_mem 185 (by decide +kernel)
theorem wt_d2 : Cond.declares (Bundle.initS xEXC) ∈ lw_tbl := wt_mem 187 (by decide +kernel)
theorem wt_d3 : Cond.declares (Bundle.initS Bundle.tN) ∈ lw_tbl := wt_mem 189 (by decide +kernel)
theorem wt_c1 : Cond.castable xIAE xIAE ∈ lw_tbl := wt_mem 261 (by decide +kernel)
theorem wt_c2 : Cond.castable xIOB xIOB ∈ lw_tbl := wt_mem 183 (by decide +kernel)
theorem wt_lu : Cond.laysStatic Bundle.tN "UNASSIGNED_STACK" Bundle.steD ∈ lw_tbl := wt_mem 208 (by decide +kernel)
theorem wt_ls : Cond.laysStatic Bundle.tN "SUPPRESSED_SENTINEL" Bundle.listD ∈ lw_tbl := wt_mem 210 (by decide +kernel)
theorem wt_it : Cond.initialized Bundle.tN ∈ lw_tbl := wt_mem 7 (by decide +kernel)
theorem wt_s55 : Cond.stringRef RX4 55 "there is no such row" ∈ lw_tbl := wt_mem 221 (by decide +kernel)
theorem wt_s66 : Cond.stringRef RX4 66 "a, b or the range are not as told" ∈ lw_tbl := wt_mem 268 (by decide +kernel)
theorem wt_s92 : Cond.stringRef RX4 92 "x is out of the range, or the coin not below all" ∈ lw_tbl := wt_mem 288 (by decide +kernel)
theorem wt_s98 : Cond.stringRef RX4 98 "x or y is out of the range" ∈ lw_tbl := wt_mem 300 (by decide +kernel)
theorem wt_s107 : Cond.stringRef RX4 107 "num is below 0, or den not 1 to 1000" ∈ lw_tbl := wt_mem 318 (by decide +kernel)
theorem wt_s118 : Cond.stringRef RX4 118 "p is not 0 to 3000, or q not 1 to 1000" ∈ lw_tbl := wt_mem 379 (by decide +kernel)
theorem wt_s127 : Cond.stringRef RX4 127 "q is not 1 to 1000" ∈ lw_tbl := wt_mem 397 (by decide +kernel)
theorem wt_s129 : Cond.stringRef RX4 129 "p, q or the coin are not as told" ∈ lw_tbl := wt_mem 405 (by decide +kernel)
theorem wt_s146 : Cond.stringRef RX4 146 "another which or part" ∈ lw_tbl := wt_mem 428 (by decide +kernel)
theorem wt_s175 : Cond.stringRef RX4 175 "another what" ∈ lw_tbl := wt_mem 437 (by decide +kernel)
theorem ws_K {s : State} {b : Nat} (hts : ∀ w ∈ lw_tbl, w.before #[Value.ref b] s = true) : ∃ (G : va_G) (cI cJ : ClassId), wKK G cI cJ s := by
  obtain ⟨c0, i0, k0⟩ := u_known (C := RX0) (T := TX0) (N := 2) (n := 2) hts inX0 (hts _ wt_i0)
  obtain ⟨c1, i1, k1⟩ := u_known (C := RX1) (T := TX1) (N := 2) (n := 2) hts inX1 (hts _ wt_i1)
  obtain ⟨c2, i2, k2⟩ := u_known (C := RX2) (T := TX2) (N := 2) (n := 2) hts inX2 (hts _ wt_i2)
  obtain ⟨c3, i3, k3⟩ := u_known (C := RX3) (T := TX3) (N := 5) (n := 5) hts inX3 (hts _ wt_i3)
  obtain ⟨c4, i4, k4⟩ := u_known (C := RX4) (T := TX4) (N := 10) (n := 10) hts inX4 (hts _ wt_i4)
  obtain ⟨c5, i5, k5⟩ := u_known (C := RX5) (T := TX5) (N := 16) (n := 16) hts inX5 (hts _ wt_i5)
  obtain ⟨cI, kI, pI, hI1, hI2, hI3⟩ := Cond.arrayClass_spec (type := .int) (hts _ wt_aI)
  obtain ⟨cJ, kJ, pJ, hJ1, hJ2, hJ3⟩ := Cond.arrayClass_spec (type := .long) (hts _ wt_aJ)
  have hRI : va_RA s cI .int := hI1
  have hRJ : va_RA s cJ .long := hJ1
  have hAI : ArrOfT s cI .int := fun n z => ⟨fun k h => (by cases h), kI, hI2, pI, hI3⟩
  have hAJ : ArrOfT s cJ .long := fun n z => ⟨fun k h => (by cases h), kJ, hJ2, pJ, hJ3⟩
  obtain ⟨dC, dI, hKc⟩ : ∃ (dC : Nat → ClassId) (dI : Nat → Nat → Nat), ∀ (k : Nat) (q : vw_C), vwCl[k]? = some q → u_Kn s q.1 q.2.1 q.2.2 (dC k) (dI k) := by
    refine ⟨fun k => if k = 0 then c0 else if k = 1 then c1 else if k = 2 then c2 else if k = 3 then c3 else if k = 4 then c4 else c5, fun k => if k = 0 then i0 else if k = 1 then i1 else if k = 2 then i2 else if k = 3 then i3 else if k = 4 then i4 else i5, ?_⟩
    intro k q hq
    match k, hq with
    | 0, hq => cases hq; exact k0
    | 1, hq => cases hq; exact k1
    | 2, hq => cases hq; exact k2
    | 3, hq => cases hq; exact k3
    | 4, hq => cases hq; exact k4
    | 5, hq => cases hq; exact k5
    | k + 6, hq => simp [vwCl] at hq
  refine ⟨(dC, dI), cI, cJ, ⟨hKc, ?_⟩, va_nm_int hRI, va_nm_long hRJ⟩
  intro k q hq
  have hq : [(cI, FieldType.int), (cJ, FieldType.long)][k]? = some q := hq
  match k, hq with
  | 0, hq => cases hq; exact ⟨hAI, hRI⟩
  | 1, hq => cases hq; exact ⟨hAJ, hRJ⟩
  | k + 2, hq => simp at hq
theorem ws_E {s : State} {b : Nat} (hts : ∀ w ∈ lw_tbl, w.before #[Value.ref b] s = true) (hgv : (Jvm.Cond.and given_1 narrow_1).before #[Value.ref b] s = true) : ∃ sa : Nat → Nat, wEX xTx sa (fun q => s.heap.size ≤ q) s s.heap := by
  have hs := flat_of_before _ hgv
  have e55 : (Cond.exactly (.string RX4 55) "java/lang/String").before #[Value.ref b] s = true := hs _ (by decide +kernel)
  obtain ⟨a55, -, -, -, h55, -⟩ := Cond.exactly_spec e55
  have e66 : (Cond.exactly (.string RX4 66) "java/lang/String").before #[Value.ref b] s = true := hs _ (by decide +kernel)
  obtain ⟨a66, -, -, -, h66, -⟩ := Cond.exactly_spec e66
  have e92 : (Cond.exactly (.string RX4 92) "java/lang/String").before #[Value.ref b] s = true := hs _ (by decide +kernel)
  obtain ⟨a92, -, -, -, h92, -⟩ := Cond.exactly_spec e92
  have e98 : (Cond.exactly (.string RX4 98) "java/lang/String").before #[Value.ref b] s = true := hs _ (by decide +kernel)
  obtain ⟨a98, -, -, -, h98, -⟩ := Cond.exactly_spec e98
  have e107 : (Cond.exactly (.string RX4 107) "java/lang/String").before #[Value.ref b] s = true := hs _ (by decide +kernel)
  obtain ⟨a107, -, -, -, h107, -⟩ := Cond.exactly_spec e107
  have e118 : (Cond.exactly (.string RX4 118) "java/lang/String").before #[Value.ref b] s = true := hs _ (by decide +kernel)
  obtain ⟨a118, -, -, -, h118, -⟩ := Cond.exactly_spec e118
  have e127 : (Cond.exactly (.string RX4 127) "java/lang/String").before #[Value.ref b] s = true := hs _ (by decide +kernel)
  obtain ⟨a127, -, -, -, h127, -⟩ := Cond.exactly_spec e127
  have e129 : (Cond.exactly (.string RX4 129) "java/lang/String").before #[Value.ref b] s = true := hs _ (by decide +kernel)
  obtain ⟨a129, -, -, -, h129, -⟩ := Cond.exactly_spec e129
  have e146 : (Cond.exactly (.string RX4 146) "java/lang/String").before #[Value.ref b] s = true := hs _ (by decide +kernel)
  obtain ⟨a146, -, -, -, h146, -⟩ := Cond.exactly_spec e146
  have e175 : (Cond.exactly (.string RX4 175) "java/lang/String").before #[Value.ref b] s = true := hs _ (by decide +kernel)
  obtain ⟨a175, -, -, -, h175, -⟩ := Cond.exactly_spec e175
  have eu : (Cond.isRef (.static Bundle.tN "UNASSIGNED_STACK" Bundle.steD)).before #[Value.ref b] s = true := hs _ (by decide +kernel)
  have es : (Cond.isRef (.static Bundle.tN "SUPPRESSED_SENTINEL" Bundle.listD)).before #[Value.ref b] s = true := hs _ (by decide +kernel)
  refine ⟨fun k => if k = 55 then a55 else if k = 66 then a66 else if k = 92 then a92 else if k = 98 then a98 else if k = 107 then a107 else if k = 118 then a118 else if k = 127 then a127 else if k = 129 then a129 else if k = 146 then a146 else if k = 175 then a175 else 0, ⟨va_Nw.of rfl (hts _ wt_n0), va_Nw.of rfl (hts _ wt_n2), va_Nw.of rfl (hts _ wt_n4)⟩, ⟨va_Nw.of rfl (hts _ wt_d1), va_Nw.of rfl (hts _ wt_d2), va_Nw.of rfl (hts _ wt_d3), va_Nw.of rfl (hts _ wt_c1), va_Nw.of rfl (hts _ wt_c2)⟩, ?_, vx_Zqof (hts _ wt_lu) (hts _ wt_it) eu (fun a ha h => absurd h (Nat.not_le.mpr ha)), vx_Zqof (hts _ wt_ls) (hts _ wt_it) es (fun a ha h => absurd h (Nat.not_le.mpr ha))⟩
  intro q hq
  simp only [xTx, List.mem_cons, List.not_mem_nil, or_false] at hq
  rcases hq with rfl | rfl | rfl | rfl | rfl | rfl | rfl | rfl | rfl | rfl
  · exact vk_R.of (hts _ wt_s55) h55
  · exact vk_R.of (hts _ wt_s66) h66
  · exact vk_R.of (hts _ wt_s92) h92
  · exact vk_R.of (hts _ wt_s98) h98
  · exact vk_R.of (hts _ wt_s107) h107
  · exact vk_R.of (hts _ wt_s118) h118
  · exact vk_R.of (hts _ wt_s127) h127
  · exact vk_R.of (hts _ wt_s129) h129
  · exact vk_R.of (hts _ wt_s146) h146
  · exact vk_R.of (hts _ wt_s175) h175
theorem whole_start {p : Program} {e : Env} {s : State} {m : MethodId} {below : List Frame} {meth : Method} {c : Code} (l : Launch) (hflags : l.flags = flags0) {b L : Nat} {xs : Nat → Int32} (hL : L ≤ 448) (C0 : lw_At p s m meth c b L xs) : W p l e room_1 s m #[Value.ref b] below meth c s.heap [] 0 0 (lw_Z below #[Value.ref b] s) (entryFrame m ([Value.ref b] : List Value).toArray 8) := by
  have hst : l.stackTraces = false := by unfold Launch.stackTraces; rw [hflags]; decide +kernel
  have C1 := C0
  obtain ⟨-, -, -, -, -, hts, -, -, -, hgv⟩ := C1
  obtain ⟨G, cI, cJ, hK⟩ := ws_K hts
  obtain ⟨sa, hE⟩ := ws_E hts hgv
  exact M_L_law l hst hL C0 sa G cI cJ hK hE (law_pure L xs hL)
