/-! Constructors (laid by wip/whole/gen.py) -/
def wX2 (cI cJ : ClassId) (As Asm Bsm Ast Bst : Nat) (lsm : Nat → Int32) (nsm : Int32) (lst : Nat → Int32) (nst : Int32) : va_W := [(As, .inr (2, [.ref Asm, .ref Ast])), (Asm, .inr (1, [.ref Bsm, .int nsm])), (Bsm, .inl (cI, 64, .inl lsm)), (Ast, .inr (1, [.ref Bst, .int nst])), (Bst, .inl (cI, 64, .inl lst))]
abbrev rm_X1_init : Room := { frames := 1, cells := 1, slots := 64, locals := 12 }
abbrev rm_X0_init : Room := { frames := 2, cells := 4, slots := 132, locals := 43 }
abbrev rm_X2_init : Room := { frames := 2, cells := 4, slots := 132, locals := 32 }
abbrev rm_X3_init : Room := { frames := 2, cells := 0, slots := 0, locals := 48 }
abbrev rm_X4_init : Room := { frames := 3, cells := 22, slots := 601, locals := 68 }
abbrev rm_X5_init : Room := { frames := 2, cells := 7, slots := 5746, locals := 46 }
def w_X1_init (Q : (Nat → Int32) → Int32 → Prop) : Prop :=
  Q (fun _ => 0) 0

def w_X0_init (Q : (Nat → Int32) → Int32 → (Nat → Int32) → Int32 → Prop) : Prop :=
  w_X1_init (fun (ln1_1 : Nat → Int32) (nn1_2 : Int32) =>
  w_X1_init (fun (ln2_3 : Nat → Int32) (nn2_4 : Int32) =>
  w_X1_become ln2_3 nn2_4 (1 : Int32) (fun (ln2_5 : Nat → Int32) (nn2_6 : Int32) =>
  Q ln1_1 nn1_2 ln2_5 nn2_6)))

def w_X2_init (Q : (Nat → Int32) → Int32 → (Nat → Int32) → Int32 → Prop) : Prop :=
  w_X1_init (fun (ln1_1 : Nat → Int32) (nn1_2 : Int32) =>
  w_X1_init (fun (ln2_3 : Nat → Int32) (nn2_4 : Int32) =>
  Q ln1_1 nn1_2 ln2_3 nn2_4))

def w_X3_init (Q : Int32 → Int32 → Int32 → Int32 → Int64 → Prop) : Prop :=
  w_X3_become 0 0 0 0 0 (1 : Int32) (2 : Int32) (0 : Int32) (10 : Int32) (fun (wa_1 : Int32) (wb_2 : Int32) (wlo_3 : Int32) (whi_4 : Int32) (wtot_5 : Int64) =>
  Q wa_1 wb_2 wlo_3 whi_4 wtot_5)

def w_X4_init (Q : (Nat → Int32) → Int32 → Int32 → Int32 → Int32 → Int32 → Int64 → (Nat → Int32) → Int32 → (Nat → Int32) → Int32 → (Nat → Int32) → Int32 → (Nat → Int32) → Int32 → (Nat → Int32) → Int32 → (Nat → Int32) → Int32 → (Nat → Int32) → Int32 → (Nat → Int32) → Int32 → Int32 → Int32 → Int32 → Prop) : Prop :=
  w_X3_init (fun (wa_1 : Int32) (wb_2 : Int32) (wlo_3 : Int32) (whi_4 : Int32) (wtot_5 : Int64) =>
  w_X2_init (fun (ln3m_6 : Nat → Int32) (nn3m_7 : Int32) (ln3t_8 : Nat → Int32) (nn3t_9 : Int32) =>
  w_X0_init (fun (ln4u_10 : Nat → Int32) (nn4u_11 : Int32) (ln4d_12 : Nat → Int32) (nn4d_13 : Int32) =>
  w_X0_init (fun (ln5u_14 : Nat → Int32) (nn5u_15 : Int32) (ln5d_16 : Nat → Int32) (nn5d_17 : Int32) =>
  w_X0_init (fun (ln6u_18 : Nat → Int32) (nn6u_19 : Int32) (ln6d_20 : Nat → Int32) (nn6d_21 : Int32) =>
  Q (fun _ => 0) 0 wa_1 wb_2 wlo_3 whi_4 wtot_5 ln3m_6 nn3m_7 ln3t_8 nn3t_9 ln4u_10 nn4u_11 ln4d_12 nn4d_13 ln5u_14 nn5u_15 ln5d_16 nn5d_17 ln6u_18 nn6u_19 ln6d_20 nn6d_21 0 0 0)))))

def w_X5_init (Q : (Nat → Int32) → Int32 → Int32 → Int32 → Int32 → Int32 → Int32 → Int32 → Int32 → (Nat → Int64) → (Nat → Int32) → (Nat → Int64) → (Nat → Int64) → Int32 → (Nat → Int32) → (Nat → Int32) → Prop) : Prop :=
  ∃ (I81_4 : Int32 → (Nat → Int64) → (Nat → Int32) → Prop) (μ81_4 : Int32 → (Nat → Int64) → (Nat → Int32) → Nat), I81_4 (0 : Int32) (fun _ => 0) (fun _ => 0) ∧ ∀ (i1_1 : Int32) (fig_2 : Nat → Int64) (len_3 : Nat → Int32), I81_4 i1_1 fig_2 len_3 →
    ((5 ≤ i1_1 →
      Q (fun _ => 0) 0 1 2 0 10 0 0 0 fig_2 len_3 (fun _ => 0) (fun _ => 0) 0 (fun _ => 0) (fun _ => 0)
     ) ∧ (¬ 5 ≤ i1_1 →
      ∀ (v_5 : Int32), v_5 = (2 * i1_1) + 1 →
      w_X5_put fig_2 len_3 v_5 (1 : Int64) (fun (fig_6 : Nat → Int64) (len_7 : Nat → Int32) =>
      ∀ (i1_8 : Int32), i1_8 = i1_1 + 1 →
      I81_4 i1_8 fig_6 len_7 ∧ μ81_4 i1_8 fig_6 len_7 < μ81_4 i1_1 fig_2 len_3)
     ))

theorem fX1_init_o1 : Cond.methodLink RX1 1 objectInit ∈ wsX1_init := by decide +kernel
theorem fX1_init_o2 : Cond.instanceMethod objectInit ∈ wsX1_init := by decide +kernel
theorem fX1_init_o3 : Cond.code objectInit ⟨#[0xb1]⟩ 1 none ∈ wsX1_init := by decide +kernel
theorem fX1_init_aI : Cond.arrayClass .int ∈ wsX1_init := by decide +kernel
theorem fX1_init_9 : Cond.fieldLink RX1 9 "PrivateCounts$Natural" "limbs" "[I" ∈ wsX1_init := by decide +kernel
theorem uX1_init_X1 : ∀ w ∈ u_ws RX1 TX1 2, w ∈ wsX1_init := by decide +kernel
theorem fX1_init_13 : Cond.fieldLink RX1 13 "PrivateCounts$Natural" "size" "I" ∈ wsX1_init := by decide +kernel
set_option maxHeartbeats 4000000 in
set_option maxRecDepth 100000 in
theorem M_X1_init (l : Launch) (tx : List (Nat × String)) (sa : Nat → Nat) (G : va_G) (cI cJ : ClassId) (Az : Nat) (Q : (Nat → Int32) → Int32 → Prop) (hw : w_X1_init Q) : Kw l yX1_init wsX1_init rm_X1_init tx sa G cI cJ [.ref Az] [(Az, .inr (1, [.null, .int 0]))] (fun u : Nat × (Nat → Int32) × (Int32) => Q u.2.1 u.2.2) (fun u => wX1 cI cJ Az u.1 u.2.1 u.2.2) 1 64 := by
  refine kw_intro (cc := cX1_init) (maxL := 1) 1 64 (by decide) rfl (Nat.le_of_ble_eq_true rfl) ?_
  intro p e s m args below meth c A Z ls hx hb hml hts hown hin2 hP hK hD hS hA hE hl hret
  have hin2 : meth.name = "<init>" := hin2
  have hl : lv_has ls 1 [(0, .ref Az)] := hl
  unfold w_X1_init at hw
  refine lv_aload_n hx hb dX1_init_0 rfl (lv_at hl 0 rfl) ?_
  refine W.objInit hx hb hown (hts _ fX1_init_o1) (hts _ fX1_init_o2) (hts _ fX1_init_o3) rfl (by rw [hml]; exact hl.1) rfl dX1_init_1 (Nat.le_of_ble_eq_true rfl) (Nat.le_of_ble_eq_true rfl) ?_
  refine W.eq (g2 := F0 m 4 ls []) rfl ?_
  refine lv_aload_n hx hb dX1_init_4 rfl (lv_at hl 0 rfl) ?_
  refine lv_bipush (v := 64) hx hb dX1_init_5 (by decide) ?_
  refine k_newI hx hb (hts _ fX1_init_aI) hK hP hD hS hA 64 (by decide) rfl (Nat.le_of_ble_eq_true rfl) (Nat.le_of_ble_eq_true rfl) (Nat.le_of_ble_eq_true rfl) dX1_init_7 (fun Bn1 H hP hD hS => ?_)
  refine W.widen (k := 1) (n := 64) (Nat.le_of_ble_eq_true rfl) (Nat.le_of_ble_eq_true rfl) ?_
  have hP : va_P G vwCl [(Az, .inr (1, [.null, .int 0])), (Bn1, .inl (cI, 64, .inl (fun _ => 0)))] H := hP
  have hD : va_D A [(Az, .inr (1, [.null, .int 0])), (Bn1, .inl (cI, 64, .inl (fun _ => 0)))] := hD
  refine k_putF hx hb hts uX1_init_X1 tyX1 tyX1_ok nmX1 hown hK hP hD hS 0 1 rfl rfl 0 (by decide) fX1_init_9 rfl hin2 rfl rfl rfl (Nat.le_of_ble_eq_true rfl) (w' := [(Az, .inr (1, [.ref Bn1, .int 0])), (Bn1, .inl (cI, 64, .inl (fun _ => 0)))]) rfl dX1_init_9 (fun H locs hP hD hS => ?_)
  refine lv_aload_n hx hb dX1_init_12 rfl (lv_at hl 0 rfl) ?_
  refine lv_iconst (v := 0) hx hb dX1_init_13 (by decide) ?_
  refine k_put hx hb hts uX1_init_X1 tyX1 tyX1_ok nmX1 hown hK hP hD hS 0 1 rfl rfl 1 (by decide) fX1_init_13 rfl rfl rfl (Nat.le_of_ble_eq_true rfl) (w' := [(Az, .inr (1, [.ref Bn1, .int 0])), (Bn1, .inl (cI, 64, .inl (fun _ => 0)))]) rfl dX1_init_14 (fun H locs hP hD hS => ?_)
  exact hret (Bn1, (fun _ => 0), 0) _ _ _ _ hw (hP.sub [0, 1] rfl) (hD.sub [0, 1] (by decide) rfl) hS dX1_init_17
theorem fX0_init_o1 : Cond.methodLink RX0 1 objectInit ∈ wsX0_init := by decide +kernel
theorem fX0_init_o2 : Cond.instanceMethod objectInit ∈ wsX0_init := by decide +kernel
theorem fX0_init_o3 : Cond.code objectInit ⟨#[0xb1]⟩ 1 none ∈ wsX0_init := by decide +kernel
theorem uX0_init_X1 : ∀ w ∈ u_ws RX1 TX1 2, w ∈ wsX0_init := by decide +kernel
theorem fX0_init_7 : Cond.classLink RX0 7 RX1 ∈ wsX0_init := by decide +kernel
theorem fX0_init_iX1 : Cond.instantiable RX1 2 ∈ wsX0_init := by decide +kernel
theorem fX0_init_jX1 : Cond.initialized RX1 ∈ wsX0_init := by decide +kernel
theorem fX0_init_mX1_init : Cond.instanceMethod yX1_init ∈ wsX0_init := by decide +kernel
theorem fX0_init_10 : Cond.fieldLink RX0 10 "PrivateCounts$Fraction" "numerator" "LPrivateCounts$Natural;" ∈ wsX0_init := by decide +kernel
theorem uX0_init_X0 : ∀ w ∈ u_ws RX0 TX0 2, w ∈ wsX0_init := by decide +kernel
theorem fX0_init_16 : Cond.fieldLink RX0 16 "PrivateCounts$Fraction" "denominator" "LPrivateCounts$Natural;" ∈ wsX0_init := by decide +kernel
set_option maxHeartbeats 4000000 in
set_option maxRecDepth 100000 in
theorem M_X0_init (l : Launch) (tx : List (Nat × String)) (sa : Nat → Nat) (G : va_G) (cI cJ : ClassId) (Ak : Nat) (Q : (Nat → Int32) → Int32 → (Nat → Int32) → Int32 → Prop) (hw : w_X0_init Q) : Kw l yX0_init wsX0_init rm_X0_init tx sa G cI cJ [.ref Ak] [(Ak, .inr (0, [.null, .null]))] (fun u : Nat × Nat × Nat × Nat × (Nat → Int32) × (Int32) × (Nat → Int32) × (Int32) => Q u.2.2.2.2.1 u.2.2.2.2.2.1 u.2.2.2.2.2.2.1 u.2.2.2.2.2.2.2) (fun u => wX0 cI cJ Ak u.1 u.2.1 u.2.2.1 u.2.2.2.1 u.2.2.2.2.1 u.2.2.2.2.2.1 u.2.2.2.2.2.2.1 u.2.2.2.2.2.2.2) 4 132 := by
  refine kw_intro (cc := cX0_init) (maxL := 1) 4 132 (by decide) rfl (Nat.le_of_ble_eq_true rfl) ?_
  intro p e s m args below meth c A Z ls hx hb hml hts hown hin2 hP hK hD hS hA hE hl hret
  have hin2 : meth.name = "<init>" := hin2
  have hl : lv_has ls 1 [(0, .ref Ak)] := hl
  unfold w_X0_init at hw
  refine lv_aload_n hx hb dX0_init_0 rfl (lv_at hl 0 rfl) ?_
  refine W.objInit hx hb hown (hts _ fX0_init_o1) (hts _ fX0_init_o2) (hts _ fX0_init_o3) rfl (by rw [hml]; exact hl.1) rfl dX0_init_1 (Nat.le_of_ble_eq_true rfl) (Nat.le_of_ble_eq_true rfl) ?_
  refine W.eq (g2 := F0 m 4 ls []) rfl ?_
  refine lv_aload_n hx hb dX0_init_4 rfl (lv_at hl 0 rfl) ?_
  refine va_new (ci := 1) (fs := [.null, .int 0]) (C := RX1) (T := TX1) (N := 2) hx hb hts uX0_init_X1 tyX1 tyX1_ok hown (hts _ fX0_init_7) (hts _ fX0_init_iX1) (hts _ fX0_init_jX1) hK.1 hP hD hS hA rfl (fun j hj => by rcases (show j = 0 ∨ j = 1 by omega) with rfl | rfl <;> rfl) (Nat.le_of_ble_eq_true rfl) (Nat.le_of_ble_eq_true rfl) dX0_init_5 (fun An1 H hP hD hS => ?_)
  refine W.widen (k := 1) (n := 2) (Nat.le_of_ble_eq_true rfl) (Nat.le_of_ble_eq_true rfl) ?_
  have hP : va_P G vwCl [(Ak, .inr (0, [.null, .null])), (An1, .inr (1, [.null, .int 0]))] H := hP
  have hD : va_D A [(Ak, .inr (0, [.null, .null])), (An1, .inr (1, [.null, .int 0]))] := hD
  refine lv_dup hx hb dX0_init_8 rfl ?_
  refine k_IN (M_X1_init l tx sa G cI cJ An1 _ hw) ⟨hx, hb, hml, hown, hts⟩ ⟨va_cnB 0 hts gX0_init_X1_init_n9 rfl rfl rfl hE.1.1 (hts _ fX0_init_jX1) (by decide +kernel) ⟨(Nat.le_of_ble_eq_true rfl), (Nat.le_of_ble_eq_true rfl)⟩, rfl, hts _ fX0_init_mX1_init⟩ hK hP hD hS hA hE [1] [0] (wr := [(Ak, .inr (0, [.null, .null]))]) rfl rfl (by decide) (by decide) (by decide) (rest := [.ref An1, .ref Ak]) rfl hl.1 rfl (Nat.le_of_ble_eq_true rfl) (Nat.le_of_ble_eq_true rfl) (Nat.le_of_ble_eq_true rfl) dX0_init_9 (fun u H locs hw hP hD hS => ?_)
  obtain ⟨Bn1, ln1_1, nn1_2⟩ := u
  have hP : va_P G vwCl [(Ak, .inr (0, [.null, .null])), (An1, .inr (1, [.ref Bn1, .int nn1_2])), (Bn1, .inl (cI, 64, .inl ln1_1))] H := hP
  have hD : va_D A [(Ak, .inr (0, [.null, .null])), (An1, .inr (1, [.ref Bn1, .int nn1_2])), (Bn1, .inl (cI, 64, .inl ln1_1))] := hD
  refine W.widen (k := 2) (n := 66) (Nat.le_of_ble_eq_true rfl) (Nat.le_of_ble_eq_true rfl) ?_
  refine k_putF hx hb hts uX0_init_X0 tyX0 tyX0_ok nmX0 hown hK hP hD hS 0 0 rfl rfl 0 (by decide) fX0_init_10 rfl hin2 rfl rfl rfl (Nat.le_of_ble_eq_true rfl) (w' := [(Ak, .inr (0, [.ref An1, .null])), (An1, .inr (1, [.ref Bn1, .int nn1_2])), (Bn1, .inl (cI, 64, .inl ln1_1))]) rfl dX0_init_12 (fun H locs hP hD hS => ?_)
  refine lv_aload_n hx hb dX0_init_15 rfl (lv_at hl 0 rfl) ?_
  refine va_new (ci := 1) (fs := [.null, .int 0]) (C := RX1) (T := TX1) (N := 2) hx hb hts uX0_init_X1 tyX1 tyX1_ok hown (hts _ fX0_init_7) (hts _ fX0_init_iX1) (hts _ fX0_init_jX1) hK.1 hP hD hS hA rfl (fun j hj => by rcases (show j = 0 ∨ j = 1 by omega) with rfl | rfl <;> rfl) (Nat.le_of_ble_eq_true rfl) (Nat.le_of_ble_eq_true rfl) dX0_init_16 (fun An2 H hP hD hS => ?_)
  refine W.widen (k := 3) (n := 68) (Nat.le_of_ble_eq_true rfl) (Nat.le_of_ble_eq_true rfl) ?_
  have hP : va_P G vwCl [(Ak, .inr (0, [.ref An1, .null])), (An1, .inr (1, [.ref Bn1, .int nn1_2])), (Bn1, .inl (cI, 64, .inl ln1_1)), (An2, .inr (1, [.null, .int 0]))] H := hP
  have hD : va_D A [(Ak, .inr (0, [.ref An1, .null])), (An1, .inr (1, [.ref Bn1, .int nn1_2])), (Bn1, .inl (cI, 64, .inl ln1_1)), (An2, .inr (1, [.null, .int 0]))] := hD
  refine lv_dup hx hb dX0_init_19 rfl ?_
  refine k_IN (M_X1_init l tx sa G cI cJ An2 _ hw) ⟨hx, hb, hml, hown, hts⟩ ⟨va_cnB 0 hts gX0_init_X1_init_n9 rfl rfl rfl hE.1.1 (hts _ fX0_init_jX1) (by decide +kernel) ⟨(Nat.le_of_ble_eq_true rfl), (Nat.le_of_ble_eq_true rfl)⟩, rfl, hts _ fX0_init_mX1_init⟩ hK hP hD hS hA hE [3] [0, 1, 2] (wr := [(Ak, .inr (0, [.ref An1, .null])), (An1, .inr (1, [.ref Bn1, .int nn1_2])), (Bn1, .inl (cI, 64, .inl ln1_1))]) rfl rfl (by decide) (by decide) (by decide) (rest := [.ref An2, .ref Ak]) rfl hl.1 rfl (Nat.le_of_ble_eq_true rfl) (Nat.le_of_ble_eq_true rfl) (Nat.le_of_ble_eq_true rfl) dX0_init_20 (fun u H locs hw hP hD hS => ?_)
  obtain ⟨Bn2, ln2_3, nn2_4⟩ := u
  have hP : va_P G vwCl [(Ak, .inr (0, [.ref An1, .null])), (An1, .inr (1, [.ref Bn1, .int nn1_2])), (Bn1, .inl (cI, 64, .inl ln1_1)), (An2, .inr (1, [.ref Bn2, .int nn2_4])), (Bn2, .inl (cI, 64, .inl ln2_3))] H := hP
  have hD : va_D A [(Ak, .inr (0, [.ref An1, .null])), (An1, .inr (1, [.ref Bn1, .int nn1_2])), (Bn1, .inl (cI, 64, .inl ln1_1)), (An2, .inr (1, [.ref Bn2, .int nn2_4])), (Bn2, .inl (cI, 64, .inl ln2_3))] := hD
  refine W.widen (k := 4) (n := 132) (Nat.le_of_ble_eq_true rfl) (Nat.le_of_ble_eq_true rfl) ?_
  refine k_putF hx hb hts uX0_init_X0 tyX0 tyX0_ok nmX0 hown hK hP hD hS 0 0 rfl rfl 1 (by decide) fX0_init_16 rfl hin2 rfl rfl rfl (Nat.le_of_ble_eq_true rfl) (w' := [(Ak, .inr (0, [.ref An1, .ref An2])), (An1, .inr (1, [.ref Bn1, .int nn1_2])), (Bn1, .inl (cI, 64, .inl ln1_1)), (An2, .inr (1, [.ref Bn2, .int nn2_4])), (Bn2, .inl (cI, 64, .inl ln2_3))]) rfl dX0_init_23 (fun H locs hP hD hS => ?_)
  refine lv_aload_n hx hb dX0_init_26 rfl (lv_at hl 0 rfl) ?_
  refine k_get hx hb hts uX0_init_X0 hown hK hP 0 0 rfl rfl 1 (by decide) fX0_init_16 (.ref An2) rfl dX0_init_27 ?_
  refine lv_iconst (v := 1) hx hb dX0_init_30 (by decide) ?_
  refine k_Vv (M_X1_become l G cI cJ An2 Bn2 ln2_3 nn2_4 (1 : Int32) _ hw) ⟨hx, hb, hml, hown, hts⟩ (cwV 1 hts gX0_init_X1_become rfl rfl rfl (by decide +kernel) ⟨Nat.le_of_ble_eq_true rfl, Nat.le_of_ble_eq_true rfl⟩) hK hP hD hS hA [3, 4] [0, 1, 2] [0, 1, 2, 3, 4] (wr := [(Ak, .inr (0, [.ref An1, .ref An2])), (An1, .inr (1, [.ref Bn1, .int nn1_2])), (Bn1, .inl (cI, 64, .inl ln1_1))]) (wn := fun u : (Nat → Int32) × (Int32) => [(Ak, .inr (0, [.ref An1, .ref An2])), (An1, .inr (1, [.ref Bn1, .int nn1_2])), (Bn1, .inl (cI, 64, .inl ln1_1)), (An2, .inr (1, [.ref Bn2, .int u.2])), (Bn2, .inl (cI, 64, .inl u.1))]) rfl rfl (by decide) (by decide) (by decide) (by decide) (fun _ => rfl) (rest := []) (q0 := 0) rfl rfl rfl hl.1 rfl (Nat.le_of_ble_eq_true rfl) (Nat.le_of_ble_eq_true rfl) (Nat.le_of_ble_eq_true rfl) dX0_init_31 (fun u H locs hw hP hD hS => ?_)
  obtain ⟨ln2_5, nn2_6⟩ := u
  have hP : va_P G vwCl [(Ak, .inr (0, [.ref An1, .ref An2])), (An1, .inr (1, [.ref Bn1, .int nn1_2])), (Bn1, .inl (cI, 64, .inl ln1_1)), (An2, .inr (1, [.ref Bn2, .int nn2_6])), (Bn2, .inl (cI, 64, .inl ln2_5))] H := hP
  have hD : va_D A [(Ak, .inr (0, [.ref An1, .ref An2])), (An1, .inr (1, [.ref Bn1, .int nn1_2])), (Bn1, .inl (cI, 64, .inl ln1_1)), (An2, .inr (1, [.ref Bn2, .int nn2_6])), (Bn2, .inl (cI, 64, .inl ln2_5))] := hD
  exact hret (An1, Bn1, An2, Bn2, ln1_1, nn1_2, ln2_5, nn2_6) _ _ _ _ hw (hP.sub [0, 1, 2, 3, 4] rfl) (hD.sub [0, 1, 2, 3, 4] (by decide) rfl) hS dX0_init_34
theorem fX2_init_o1 : Cond.methodLink RX2 1 objectInit ∈ wsX2_init := by decide +kernel
theorem fX2_init_o2 : Cond.instanceMethod objectInit ∈ wsX2_init := by decide +kernel
theorem fX2_init_o3 : Cond.code objectInit ⟨#[0xb1]⟩ 1 none ∈ wsX2_init := by decide +kernel
theorem uX2_init_X1 : ∀ w ∈ u_ws RX1 TX1 2, w ∈ wsX2_init := by decide +kernel
theorem fX2_init_7 : Cond.classLink RX2 7 RX1 ∈ wsX2_init := by decide +kernel
theorem fX2_init_iX1 : Cond.instantiable RX1 2 ∈ wsX2_init := by decide +kernel
theorem fX2_init_jX1 : Cond.initialized RX1 ∈ wsX2_init := by decide +kernel
theorem fX2_init_mX1_init : Cond.instanceMethod yX1_init ∈ wsX2_init := by decide +kernel
theorem fX2_init_10 : Cond.fieldLink RX2 10 "PrivateCounts$Series" "missing" "LPrivateCounts$Natural;" ∈ wsX2_init := by decide +kernel
theorem uX2_init_X2 : ∀ w ∈ u_ws RX2 TX2 2, w ∈ wsX2_init := by decide +kernel
theorem fX2_init_16 : Cond.fieldLink RX2 16 "PrivateCounts$Series" "term" "LPrivateCounts$Natural;" ∈ wsX2_init := by decide +kernel
set_option maxHeartbeats 4000000 in
set_option maxRecDepth 100000 in
theorem M_X2_init (l : Launch) (tx : List (Nat × String)) (sa : Nat → Nat) (G : va_G) (cI cJ : ClassId) (As : Nat) (Q : (Nat → Int32) → Int32 → (Nat → Int32) → Int32 → Prop) (hw : w_X2_init Q) : Kw l yX2_init wsX2_init rm_X2_init tx sa G cI cJ [.ref As] [(As, .inr (2, [.null, .null]))] (fun u : Nat × Nat × Nat × Nat × (Nat → Int32) × (Int32) × (Nat → Int32) × (Int32) => Q u.2.2.2.2.1 u.2.2.2.2.2.1 u.2.2.2.2.2.2.1 u.2.2.2.2.2.2.2) (fun u => wX2 cI cJ As u.1 u.2.1 u.2.2.1 u.2.2.2.1 u.2.2.2.2.1 u.2.2.2.2.2.1 u.2.2.2.2.2.2.1 u.2.2.2.2.2.2.2) 4 132 := by
  refine kw_intro (cc := cX2_init) (maxL := 1) 4 132 (by decide) rfl (Nat.le_of_ble_eq_true rfl) ?_
  intro p e s m args below meth c A Z ls hx hb hml hts hown hin2 hP hK hD hS hA hE hl hret
  have hin2 : meth.name = "<init>" := hin2
  have hl : lv_has ls 1 [(0, .ref As)] := hl
  unfold w_X2_init at hw
  refine lv_aload_n hx hb dX2_init_0 rfl (lv_at hl 0 rfl) ?_
  refine W.objInit hx hb hown (hts _ fX2_init_o1) (hts _ fX2_init_o2) (hts _ fX2_init_o3) rfl (by rw [hml]; exact hl.1) rfl dX2_init_1 (Nat.le_of_ble_eq_true rfl) (Nat.le_of_ble_eq_true rfl) ?_
  refine W.eq (g2 := F0 m 4 ls []) rfl ?_
  refine lv_aload_n hx hb dX2_init_4 rfl (lv_at hl 0 rfl) ?_
  refine va_new (ci := 1) (fs := [.null, .int 0]) (C := RX1) (T := TX1) (N := 2) hx hb hts uX2_init_X1 tyX1 tyX1_ok hown (hts _ fX2_init_7) (hts _ fX2_init_iX1) (hts _ fX2_init_jX1) hK.1 hP hD hS hA rfl (fun j hj => by rcases (show j = 0 ∨ j = 1 by omega) with rfl | rfl <;> rfl) (Nat.le_of_ble_eq_true rfl) (Nat.le_of_ble_eq_true rfl) dX2_init_5 (fun An1 H hP hD hS => ?_)
  refine W.widen (k := 1) (n := 2) (Nat.le_of_ble_eq_true rfl) (Nat.le_of_ble_eq_true rfl) ?_
  have hP : va_P G vwCl [(As, .inr (2, [.null, .null])), (An1, .inr (1, [.null, .int 0]))] H := hP
  have hD : va_D A [(As, .inr (2, [.null, .null])), (An1, .inr (1, [.null, .int 0]))] := hD
  refine lv_dup hx hb dX2_init_8 rfl ?_
  refine k_IN (M_X1_init l tx sa G cI cJ An1 _ hw) ⟨hx, hb, hml, hown, hts⟩ ⟨va_cnB 0 hts gX2_init_X1_init_n9 rfl rfl rfl hE.1.2.1 (hts _ fX2_init_jX1) (by decide +kernel) ⟨(Nat.le_of_ble_eq_true rfl), (Nat.le_of_ble_eq_true rfl)⟩, rfl, hts _ fX2_init_mX1_init⟩ hK hP hD hS hA hE [1] [0] (wr := [(As, .inr (2, [.null, .null]))]) rfl rfl (by decide) (by decide) (by decide) (rest := [.ref An1, .ref As]) rfl hl.1 rfl (Nat.le_of_ble_eq_true rfl) (Nat.le_of_ble_eq_true rfl) (Nat.le_of_ble_eq_true rfl) dX2_init_9 (fun u H locs hw hP hD hS => ?_)
  obtain ⟨Bn1, ln1_1, nn1_2⟩ := u
  have hP : va_P G vwCl [(As, .inr (2, [.null, .null])), (An1, .inr (1, [.ref Bn1, .int nn1_2])), (Bn1, .inl (cI, 64, .inl ln1_1))] H := hP
  have hD : va_D A [(As, .inr (2, [.null, .null])), (An1, .inr (1, [.ref Bn1, .int nn1_2])), (Bn1, .inl (cI, 64, .inl ln1_1))] := hD
  refine W.widen (k := 2) (n := 66) (Nat.le_of_ble_eq_true rfl) (Nat.le_of_ble_eq_true rfl) ?_
  refine k_putF hx hb hts uX2_init_X2 tyX2 tyX2_ok nmX2 hown hK hP hD hS 0 2 rfl rfl 0 (by decide) fX2_init_10 rfl hin2 rfl rfl rfl (Nat.le_of_ble_eq_true rfl) (w' := [(As, .inr (2, [.ref An1, .null])), (An1, .inr (1, [.ref Bn1, .int nn1_2])), (Bn1, .inl (cI, 64, .inl ln1_1))]) rfl dX2_init_12 (fun H locs hP hD hS => ?_)
  refine lv_aload_n hx hb dX2_init_15 rfl (lv_at hl 0 rfl) ?_
  refine va_new (ci := 1) (fs := [.null, .int 0]) (C := RX1) (T := TX1) (N := 2) hx hb hts uX2_init_X1 tyX1 tyX1_ok hown (hts _ fX2_init_7) (hts _ fX2_init_iX1) (hts _ fX2_init_jX1) hK.1 hP hD hS hA rfl (fun j hj => by rcases (show j = 0 ∨ j = 1 by omega) with rfl | rfl <;> rfl) (Nat.le_of_ble_eq_true rfl) (Nat.le_of_ble_eq_true rfl) dX2_init_16 (fun An2 H hP hD hS => ?_)
  refine W.widen (k := 3) (n := 68) (Nat.le_of_ble_eq_true rfl) (Nat.le_of_ble_eq_true rfl) ?_
  have hP : va_P G vwCl [(As, .inr (2, [.ref An1, .null])), (An1, .inr (1, [.ref Bn1, .int nn1_2])), (Bn1, .inl (cI, 64, .inl ln1_1)), (An2, .inr (1, [.null, .int 0]))] H := hP
  have hD : va_D A [(As, .inr (2, [.ref An1, .null])), (An1, .inr (1, [.ref Bn1, .int nn1_2])), (Bn1, .inl (cI, 64, .inl ln1_1)), (An2, .inr (1, [.null, .int 0]))] := hD
  refine lv_dup hx hb dX2_init_19 rfl ?_
  refine k_IN (M_X1_init l tx sa G cI cJ An2 _ hw) ⟨hx, hb, hml, hown, hts⟩ ⟨va_cnB 0 hts gX2_init_X1_init_n9 rfl rfl rfl hE.1.2.1 (hts _ fX2_init_jX1) (by decide +kernel) ⟨(Nat.le_of_ble_eq_true rfl), (Nat.le_of_ble_eq_true rfl)⟩, rfl, hts _ fX2_init_mX1_init⟩ hK hP hD hS hA hE [3] [0, 1, 2] (wr := [(As, .inr (2, [.ref An1, .null])), (An1, .inr (1, [.ref Bn1, .int nn1_2])), (Bn1, .inl (cI, 64, .inl ln1_1))]) rfl rfl (by decide) (by decide) (by decide) (rest := [.ref An2, .ref As]) rfl hl.1 rfl (Nat.le_of_ble_eq_true rfl) (Nat.le_of_ble_eq_true rfl) (Nat.le_of_ble_eq_true rfl) dX2_init_20 (fun u H locs hw hP hD hS => ?_)
  obtain ⟨Bn2, ln2_3, nn2_4⟩ := u
  have hP : va_P G vwCl [(As, .inr (2, [.ref An1, .null])), (An1, .inr (1, [.ref Bn1, .int nn1_2])), (Bn1, .inl (cI, 64, .inl ln1_1)), (An2, .inr (1, [.ref Bn2, .int nn2_4])), (Bn2, .inl (cI, 64, .inl ln2_3))] H := hP
  have hD : va_D A [(As, .inr (2, [.ref An1, .null])), (An1, .inr (1, [.ref Bn1, .int nn1_2])), (Bn1, .inl (cI, 64, .inl ln1_1)), (An2, .inr (1, [.ref Bn2, .int nn2_4])), (Bn2, .inl (cI, 64, .inl ln2_3))] := hD
  refine W.widen (k := 4) (n := 132) (Nat.le_of_ble_eq_true rfl) (Nat.le_of_ble_eq_true rfl) ?_
  refine k_putF hx hb hts uX2_init_X2 tyX2 tyX2_ok nmX2 hown hK hP hD hS 0 2 rfl rfl 1 (by decide) fX2_init_16 rfl hin2 rfl rfl rfl (Nat.le_of_ble_eq_true rfl) (w' := [(As, .inr (2, [.ref An1, .ref An2])), (An1, .inr (1, [.ref Bn1, .int nn1_2])), (Bn1, .inl (cI, 64, .inl ln1_1)), (An2, .inr (1, [.ref Bn2, .int nn2_4])), (Bn2, .inl (cI, 64, .inl ln2_3))]) rfl dX2_init_23 (fun H locs hP hD hS => ?_)
  exact hret (An1, Bn1, An2, Bn2, ln1_1, nn1_2, ln2_3, nn2_4) _ _ _ _ hw (hP.sub [0, 1, 2, 3, 4] rfl) (hD.sub [0, 1, 2, 3, 4] (by decide) rfl) hS dX2_init_26
theorem fX3_init_o1 : Cond.methodLink RX3 1 objectInit ∈ wsX3_init := by decide +kernel
theorem fX3_init_o2 : Cond.instanceMethod objectInit ∈ wsX3_init := by decide +kernel
theorem fX3_init_o3 : Cond.code objectInit ⟨#[0xb1]⟩ 1 none ∈ wsX3_init := by decide +kernel
set_option maxHeartbeats 4000000 in
set_option maxRecDepth 100000 in
theorem M_X3_init (l : Launch) (tx : List (Nat × String)) (sa : Nat → Nat) (G : va_G) (cI cJ : ClassId) (Aw : Nat) (Q : Int32 → Int32 → Int32 → Int32 → Int64 → Prop) (hw : w_X3_init Q) : Kw l yX3_init wsX3_init rm_X3_init tx sa G cI cJ [.ref Aw] [(Aw, .inr (3, [.int 0, .int 0, .int 0, .int 0, .long 0]))] (fun u : (Int32) × (Int32) × (Int32) × (Int32) × (Int64) => Q u.1 u.2.1 u.2.2.1 u.2.2.2.1 u.2.2.2.2) (fun u => wX3 cI cJ Aw u.1 u.2.1 u.2.2.1 u.2.2.2.1 u.2.2.2.2) 0 0 := by
  refine kw_intro (cc := cX3_init) (maxL := 1) 0 0 (by decide) rfl (Nat.le_of_ble_eq_true rfl) ?_
  intro p e s m args below meth c A Z ls hx hb hml hts hown hin2 hP hK hD hS hA hE hl hret
  have hin2 : meth.name = "<init>" := hin2
  have hl : lv_has ls 1 [(0, .ref Aw)] := hl
  unfold w_X3_init at hw
  refine lv_aload_n hx hb dX3_init_0 rfl (lv_at hl 0 rfl) ?_
  refine W.objInit hx hb hown (hts _ fX3_init_o1) (hts _ fX3_init_o2) (hts _ fX3_init_o3) rfl (by rw [hml]; exact hl.1) rfl dX3_init_1 (Nat.le_of_ble_eq_true rfl) (Nat.le_of_ble_eq_true rfl) ?_
  refine W.eq (g2 := F0 m 4 ls []) rfl ?_
  refine lv_aload_n hx hb dX3_init_4 rfl (lv_at hl 0 rfl) ?_
  refine lv_iconst (v := 1) hx hb dX3_init_5 (by decide) ?_
  refine lv_iconst (v := 2) hx hb dX3_init_6 (by decide) ?_
  refine lv_iconst (v := 0) hx hb dX3_init_7 (by decide) ?_
  refine lv_bipush (v := 10) hx hb dX3_init_8 (by decide) ?_
  refine k_Vv (M_X3_become l G cI cJ Aw 0 0 0 0 0 (1 : Int32) (2 : Int32) (0 : Int32) (10 : Int32) _ hw) ⟨hx, hb, hml, hown, hts⟩ (cwV 4 hts gX3_init_X3_become rfl rfl rfl (by decide +kernel) ⟨Nat.le_of_ble_eq_true rfl, Nat.le_of_ble_eq_true rfl⟩) hK hP hD hS hA [0] [] [0] (wr := []) (wn := fun u : (Int32) × (Int32) × (Int32) × (Int32) × (Int64) => [(Aw, .inr (3, [.int u.1, .int u.2.1, .int u.2.2.1, .int u.2.2.2.1, .long u.2.2.2.2]))]) rfl rfl (by decide) (by decide) (by decide) (by decide) (fun _ => rfl) (rest := []) (q0 := 0) rfl rfl rfl hl.1 rfl (Nat.le_of_ble_eq_true rfl) (Nat.le_of_ble_eq_true rfl) (Nat.le_of_ble_eq_true rfl) dX3_init_10 (fun u H locs hw hP hD hS => ?_)
  obtain ⟨wa_1, wb_2, wlo_3, whi_4, wtot_5⟩ := u
  have hP : va_P G vwCl [(Aw, .inr (3, [.int wa_1, .int wb_2, .int wlo_3, .int whi_4, .long wtot_5]))] H := hP
  have hD : va_D A [(Aw, .inr (3, [.int wa_1, .int wb_2, .int wlo_3, .int whi_4, .long wtot_5]))] := hD
  exact hret (wa_1, wb_2, wlo_3, whi_4, wtot_5) _ _ _ _ hw (hP.sub [0] rfl) (hD.sub [0] (by decide) rfl) hS dX3_init_13
theorem fX4_init_o1 : Cond.methodLink RX4 1 objectInit ∈ wsX4_init := by decide +kernel
theorem fX4_init_o2 : Cond.instanceMethod objectInit ∈ wsX4_init := by decide +kernel
theorem fX4_init_o3 : Cond.code objectInit ⟨#[0xb1]⟩ 1 none ∈ wsX4_init := by decide +kernel
theorem fX4_init_aI : Cond.arrayClass .int ∈ wsX4_init := by decide +kernel
theorem fX4_init_9 : Cond.fieldLink RX4 9 "PrivateCounts" "rows" "[I" ∈ wsX4_init := by decide +kernel
theorem uX4_init_X4 : ∀ w ∈ u_ws RX4 TX4 10, w ∈ wsX4_init := by decide +kernel
theorem fX4_init_13 : Cond.fieldLink RX4 13 "PrivateCounts" "rowCount" "I" ∈ wsX4_init := by decide +kernel
theorem uX4_init_X3 : ∀ w ∈ u_ws RX3 TX3 5, w ∈ wsX4_init := by decide +kernel
theorem fX4_init_17 : Cond.classLink RX4 17 RX3 ∈ wsX4_init := by decide +kernel
theorem fX4_init_iX3 : Cond.instantiable RX3 5 ∈ wsX4_init := by decide +kernel
theorem fX4_init_jX3 : Cond.initialized RX3 ∈ wsX4_init := by decide +kernel
theorem fX4_init_mX3_init : Cond.instanceMethod yX3_init ∈ wsX4_init := by decide +kernel
theorem fX4_init_19 : Cond.methodLink RX4 19 yX3_init ∈ wsX4_init := by decide +kernel
theorem fX4_init_20 : Cond.fieldLink RX4 20 "PrivateCounts" "weights" "LPrivateCounts$Table;" ∈ wsX4_init := by decide +kernel
theorem uX4_init_X2 : ∀ w ∈ u_ws RX2 TX2 2, w ∈ wsX4_init := by decide +kernel
theorem fX4_init_24 : Cond.classLink RX4 24 RX2 ∈ wsX4_init := by decide +kernel
theorem fX4_init_iX2 : Cond.instantiable RX2 2 ∈ wsX4_init := by decide +kernel
theorem fX4_init_jX2 : Cond.initialized RX2 ∈ wsX4_init := by decide +kernel
theorem fX4_init_mX2_init : Cond.instanceMethod yX2_init ∈ wsX4_init := by decide +kernel
theorem fX4_init_27 : Cond.fieldLink RX4 27 "PrivateCounts" "series" "LPrivateCounts$Series;" ∈ wsX4_init := by decide +kernel
theorem uX4_init_X0 : ∀ w ∈ u_ws RX0 TX0 2, w ∈ wsX4_init := by decide +kernel
theorem fX4_init_31 : Cond.classLink RX4 31 RX0 ∈ wsX4_init := by decide +kernel
theorem fX4_init_iX0 : Cond.instantiable RX0 2 ∈ wsX4_init := by decide +kernel
theorem fX4_init_jX0 : Cond.initialized RX0 ∈ wsX4_init := by decide +kernel
theorem fX4_init_mX0_init : Cond.instanceMethod yX0_init ∈ wsX4_init := by decide +kernel
theorem fX4_init_33 : Cond.methodLink RX4 33 yX0_init ∈ wsX4_init := by decide +kernel
theorem fX4_init_34 : Cond.fieldLink RX4 34 "PrivateCounts" "granted" "LPrivateCounts$Fraction;" ∈ wsX4_init := by decide +kernel
theorem fX4_init_38 : Cond.fieldLink RX4 38 "PrivateCounts" "spent" "LPrivateCounts$Fraction;" ∈ wsX4_init := by decide +kernel
theorem fX4_init_41 : Cond.fieldLink RX4 41 "PrivateCounts" "left" "LPrivateCounts$Fraction;" ∈ wsX4_init := by decide +kernel
theorem fX4_init_44 : Cond.fieldLink RX4 44 "PrivateCounts" "answered" "I" ∈ wsX4_init := by decide +kernel
theorem fX4_init_47 : Cond.fieldLink RX4 47 "PrivateCounts" "refusedForCost" "I" ∈ wsX4_init := by decide +kernel
theorem fX4_init_50 : Cond.fieldLink RX4 50 "PrivateCounts" "refusedForBudget" "I" ∈ wsX4_init := by decide +kernel
set_option maxHeartbeats 4000000 in
set_option maxRecDepth 100000 in
theorem M_X4_init (l : Launch) (tx : List (Nat × String)) (sa : Nat → Nat) (G : va_G) (cI cJ : ClassId) (Ax : Nat) (Q : (Nat → Int32) → Int32 → Int32 → Int32 → Int32 → Int32 → Int64 → (Nat → Int32) → Int32 → (Nat → Int32) → Int32 → (Nat → Int32) → Int32 → (Nat → Int32) → Int32 → (Nat → Int32) → Int32 → (Nat → Int32) → Int32 → (Nat → Int32) → Int32 → (Nat → Int32) → Int32 → Int32 → Int32 → Int32 → Prop) (hw : w_X4_init Q) : Kw l yX4_init wsX4_init rm_X4_init tx sa G cI cJ [.ref Ax] [(Ax, .inr (4, [.null, .int 0, .null, .null, .null, .null, .null, .int 0, .int 0, .int 0]))] (fun u : Nat × Nat × Nat × Nat × Nat × Nat × Nat × Nat × Nat × Nat × Nat × Nat × Nat × Nat × Nat × Nat × Nat × Nat × Nat × Nat × Nat × Nat × (Nat → Int32) × (Int32) × (Int32) × (Int32) × (Int32) × (Int32) × (Int64) × (Nat → Int32) × (Int32) × (Nat → Int32) × (Int32) × (Nat → Int32) × (Int32) × (Nat → Int32) × (Int32) × (Nat → Int32) × (Int32) × (Nat → Int32) × (Int32) × (Nat → Int32) × (Int32) × (Nat → Int32) × (Int32) × (Int32) × (Int32) × (Int32) => Q u.2.2.2.2.2.2.2.2.2.2.2.2.2.2.2.2.2.2.2.2.2.2.1 u.2.2.2.2.2.2.2.2.2.2.2.2.2.2.2.2.2.2.2.2.2.2.2.1 u.2.2.2.2.2.2.2.2.2.2.2.2.2.2.2.2.2.2.2.2.2.2.2.2.1 u.2.2.2.2.2.2.2.2.2.2.2.2.2.2.2.2.2.2.2.2.2.2.2.2.2.1 u.2.2.2.2.2.2.2.2.2.2.2.2.2.2.2.2.2.2.2.2.2.2.2.2.2.2.1 u.2.2.2.2.2.2.2.2.2.2.2.2.2.2.2.2.2.2.2.2.2.2.2.2.2.2.2.1 u.2.2.2.2.2.2.2.2.2.2.2.2.2.2.2.2.2.2.2.2.2.2.2.2.2.2.2.2.1 u.2.2.2.2.2.2.2.2.2.2.2.2.2.2.2.2.2.2.2.2.2.2.2.2.2.2.2.2.2.1 u.2.2.2.2.2.2.2.2.2.2.2.2.2.2.2.2.2.2.2.2.2.2.2.2.2.2.2.2.2.2.1 u.2.2.2.2.2.2.2.2.2.2.2.2.2.2.2.2.2.2.2.2.2.2.2.2.2.2.2.2.2.2.2.1 u.2.2.2.2.2.2.2.2.2.2.2.2.2.2.2.2.2.2.2.2.2.2.2.2.2.2.2.2.2.2.2.2.1 u.2.2.2.2.2.2.2.2.2.2.2.2.2.2.2.2.2.2.2.2.2.2.2.2.2.2.2.2.2.2.2.2.2.1 u.2.2.2.2.2.2.2.2.2.2.2.2.2.2.2.2.2.2.2.2.2.2.2.2.2.2.2.2.2.2.2.2.2.2.1 u.2.2.2.2.2.2.2.2.2.2.2.2.2.2.2.2.2.2.2.2.2.2.2.2.2.2.2.2.2.2.2.2.2.2.2.1 u.2.2.2.2.2.2.2.2.2.2.2.2.2.2.2.2.2.2.2.2.2.2.2.2.2.2.2.2.2.2.2.2.2.2.2.2.1 u.2.2.2.2.2.2.2.2.2.2.2.2.2.2.2.2.2.2.2.2.2.2.2.2.2.2.2.2.2.2.2.2.2.2.2.2.2.1 u.2.2.2.2.2.2.2.2.2.2.2.2.2.2.2.2.2.2.2.2.2.2.2.2.2.2.2.2.2.2.2.2.2.2.2.2.2.2.1 u.2.2.2.2.2.2.2.2.2.2.2.2.2.2.2.2.2.2.2.2.2.2.2.2.2.2.2.2.2.2.2.2.2.2.2.2.2.2.2.1 u.2.2.2.2.2.2.2.2.2.2.2.2.2.2.2.2.2.2.2.2.2.2.2.2.2.2.2.2.2.2.2.2.2.2.2.2.2.2.2.2.1 u.2.2.2.2.2.2.2.2.2.2.2.2.2.2.2.2.2.2.2.2.2.2.2.2.2.2.2.2.2.2.2.2.2.2.2.2.2.2.2.2.2.1 u.2.2.2.2.2.2.2.2.2.2.2.2.2.2.2.2.2.2.2.2.2.2.2.2.2.2.2.2.2.2.2.2.2.2.2.2.2.2.2.2.2.2.1 u.2.2.2.2.2.2.2.2.2.2.2.2.2.2.2.2.2.2.2.2.2.2.2.2.2.2.2.2.2.2.2.2.2.2.2.2.2.2.2.2.2.2.2.1 u.2.2.2.2.2.2.2.2.2.2.2.2.2.2.2.2.2.2.2.2.2.2.2.2.2.2.2.2.2.2.2.2.2.2.2.2.2.2.2.2.2.2.2.2.1 u.2.2.2.2.2.2.2.2.2.2.2.2.2.2.2.2.2.2.2.2.2.2.2.2.2.2.2.2.2.2.2.2.2.2.2.2.2.2.2.2.2.2.2.2.2.1 u.2.2.2.2.2.2.2.2.2.2.2.2.2.2.2.2.2.2.2.2.2.2.2.2.2.2.2.2.2.2.2.2.2.2.2.2.2.2.2.2.2.2.2.2.2.2.1 u.2.2.2.2.2.2.2.2.2.2.2.2.2.2.2.2.2.2.2.2.2.2.2.2.2.2.2.2.2.2.2.2.2.2.2.2.2.2.2.2.2.2.2.2.2.2.2) (fun u => wX4 cI cJ Ax u.1 u.2.1 u.2.2.1 u.2.2.2.1 u.2.2.2.2.1 u.2.2.2.2.2.1 u.2.2.2.2.2.2.1 u.2.2.2.2.2.2.2.1 u.2.2.2.2.2.2.2.2.1 u.2.2.2.2.2.2.2.2.2.1 u.2.2.2.2.2.2.2.2.2.2.1 u.2.2.2.2.2.2.2.2.2.2.2.1 u.2.2.2.2.2.2.2.2.2.2.2.2.1 u.2.2.2.2.2.2.2.2.2.2.2.2.2.1 u.2.2.2.2.2.2.2.2.2.2.2.2.2.2.1 u.2.2.2.2.2.2.2.2.2.2.2.2.2.2.2.1 u.2.2.2.2.2.2.2.2.2.2.2.2.2.2.2.2.1 u.2.2.2.2.2.2.2.2.2.2.2.2.2.2.2.2.2.1 u.2.2.2.2.2.2.2.2.2.2.2.2.2.2.2.2.2.2.1 u.2.2.2.2.2.2.2.2.2.2.2.2.2.2.2.2.2.2.2.1 u.2.2.2.2.2.2.2.2.2.2.2.2.2.2.2.2.2.2.2.2.1 u.2.2.2.2.2.2.2.2.2.2.2.2.2.2.2.2.2.2.2.2.2.1 u.2.2.2.2.2.2.2.2.2.2.2.2.2.2.2.2.2.2.2.2.2.2.1 u.2.2.2.2.2.2.2.2.2.2.2.2.2.2.2.2.2.2.2.2.2.2.2.1 u.2.2.2.2.2.2.2.2.2.2.2.2.2.2.2.2.2.2.2.2.2.2.2.2.1 u.2.2.2.2.2.2.2.2.2.2.2.2.2.2.2.2.2.2.2.2.2.2.2.2.2.1 u.2.2.2.2.2.2.2.2.2.2.2.2.2.2.2.2.2.2.2.2.2.2.2.2.2.2.1 u.2.2.2.2.2.2.2.2.2.2.2.2.2.2.2.2.2.2.2.2.2.2.2.2.2.2.2.1 u.2.2.2.2.2.2.2.2.2.2.2.2.2.2.2.2.2.2.2.2.2.2.2.2.2.2.2.2.1 u.2.2.2.2.2.2.2.2.2.2.2.2.2.2.2.2.2.2.2.2.2.2.2.2.2.2.2.2.2.1 u.2.2.2.2.2.2.2.2.2.2.2.2.2.2.2.2.2.2.2.2.2.2.2.2.2.2.2.2.2.2.1 u.2.2.2.2.2.2.2.2.2.2.2.2.2.2.2.2.2.2.2.2.2.2.2.2.2.2.2.2.2.2.2.1 u.2.2.2.2.2.2.2.2.2.2.2.2.2.2.2.2.2.2.2.2.2.2.2.2.2.2.2.2.2.2.2.2.1 u.2.2.2.2.2.2.2.2.2.2.2.2.2.2.2.2.2.2.2.2.2.2.2.2.2.2.2.2.2.2.2.2.2.1 u.2.2.2.2.2.2.2.2.2.2.2.2.2.2.2.2.2.2.2.2.2.2.2.2.2.2.2.2.2.2.2.2.2.2.1 u.2.2.2.2.2.2.2.2.2.2.2.2.2.2.2.2.2.2.2.2.2.2.2.2.2.2.2.2.2.2.2.2.2.2.2.1 u.2.2.2.2.2.2.2.2.2.2.2.2.2.2.2.2.2.2.2.2.2.2.2.2.2.2.2.2.2.2.2.2.2.2.2.2.1 u.2.2.2.2.2.2.2.2.2.2.2.2.2.2.2.2.2.2.2.2.2.2.2.2.2.2.2.2.2.2.2.2.2.2.2.2.2.1 u.2.2.2.2.2.2.2.2.2.2.2.2.2.2.2.2.2.2.2.2.2.2.2.2.2.2.2.2.2.2.2.2.2.2.2.2.2.2.1 u.2.2.2.2.2.2.2.2.2.2.2.2.2.2.2.2.2.2.2.2.2.2.2.2.2.2.2.2.2.2.2.2.2.2.2.2.2.2.2.1 u.2.2.2.2.2.2.2.2.2.2.2.2.2.2.2.2.2.2.2.2.2.2.2.2.2.2.2.2.2.2.2.2.2.2.2.2.2.2.2.2.1 u.2.2.2.2.2.2.2.2.2.2.2.2.2.2.2.2.2.2.2.2.2.2.2.2.2.2.2.2.2.2.2.2.2.2.2.2.2.2.2.2.2.1 u.2.2.2.2.2.2.2.2.2.2.2.2.2.2.2.2.2.2.2.2.2.2.2.2.2.2.2.2.2.2.2.2.2.2.2.2.2.2.2.2.2.2.1 u.2.2.2.2.2.2.2.2.2.2.2.2.2.2.2.2.2.2.2.2.2.2.2.2.2.2.2.2.2.2.2.2.2.2.2.2.2.2.2.2.2.2.2.1 u.2.2.2.2.2.2.2.2.2.2.2.2.2.2.2.2.2.2.2.2.2.2.2.2.2.2.2.2.2.2.2.2.2.2.2.2.2.2.2.2.2.2.2.2.1 u.2.2.2.2.2.2.2.2.2.2.2.2.2.2.2.2.2.2.2.2.2.2.2.2.2.2.2.2.2.2.2.2.2.2.2.2.2.2.2.2.2.2.2.2.2.1 u.2.2.2.2.2.2.2.2.2.2.2.2.2.2.2.2.2.2.2.2.2.2.2.2.2.2.2.2.2.2.2.2.2.2.2.2.2.2.2.2.2.2.2.2.2.2.1 u.2.2.2.2.2.2.2.2.2.2.2.2.2.2.2.2.2.2.2.2.2.2.2.2.2.2.2.2.2.2.2.2.2.2.2.2.2.2.2.2.2.2.2.2.2.2.2) 22 601 := by
  refine kw_intro (cc := cX4_init) (maxL := 1) 22 601 (by decide) rfl (Nat.le_of_ble_eq_true rfl) ?_
  intro p e s m args below meth c A Z ls hx hb hml hts hown hin2 hP hK hD hS hA hE hl hret
  have hin2 : meth.name = "<init>" := hin2
  have hl : lv_has ls 1 [(0, .ref Ax)] := hl
  unfold w_X4_init at hw
  refine lv_aload_n hx hb dX4_init_0 rfl (lv_at hl 0 rfl) ?_
  refine W.objInit hx hb hown (hts _ fX4_init_o1) (hts _ fX4_init_o2) (hts _ fX4_init_o3) rfl (by rw [hml]; exact hl.1) rfl dX4_init_1 (Nat.le_of_ble_eq_true rfl) (Nat.le_of_ble_eq_true rfl) ?_
  refine W.eq (g2 := F0 m 4 ls []) rfl ?_
  refine lv_aload_n hx hb dX4_init_4 rfl (lv_at hl 0 rfl) ?_
  refine lv_bipush (v := 60) hx hb dX4_init_5 (by decide) ?_
  refine k_newI hx hb (hts _ fX4_init_aI) hK hP hD hS hA 60 (by decide) rfl (Nat.le_of_ble_eq_true rfl) (Nat.le_of_ble_eq_true rfl) (Nat.le_of_ble_eq_true rfl) dX4_init_7 (fun Bn1 H hP hD hS => ?_)
  refine W.widen (k := 1) (n := 60) (Nat.le_of_ble_eq_true rfl) (Nat.le_of_ble_eq_true rfl) ?_
  have hP : va_P G vwCl [(Ax, .inr (4, [.null, .int 0, .null, .null, .null, .null, .null, .int 0, .int 0, .int 0])), (Bn1, .inl (cI, 60, .inl (fun _ => 0)))] H := hP
  have hD : va_D A [(Ax, .inr (4, [.null, .int 0, .null, .null, .null, .null, .null, .int 0, .int 0, .int 0])), (Bn1, .inl (cI, 60, .inl (fun _ => 0)))] := hD
  refine k_putF hx hb hts uX4_init_X4 tyX4 tyX4_ok nmX4 hown hK hP hD hS 0 4 rfl rfl 0 (by decide) fX4_init_9 rfl hin2 rfl rfl rfl (Nat.le_of_ble_eq_true rfl) (w' := [(Ax, .inr (4, [.ref Bn1, .int 0, .null, .null, .null, .null, .null, .int 0, .int 0, .int 0])), (Bn1, .inl (cI, 60, .inl (fun _ => 0)))]) rfl dX4_init_9 (fun H locs hP hD hS => ?_)
  refine lv_aload_n hx hb dX4_init_12 rfl (lv_at hl 0 rfl) ?_
  refine lv_iconst (v := 0) hx hb dX4_init_13 (by decide) ?_
  refine k_put hx hb hts uX4_init_X4 tyX4 tyX4_ok nmX4 hown hK hP hD hS 0 4 rfl rfl 1 (by decide) fX4_init_13 rfl rfl rfl (Nat.le_of_ble_eq_true rfl) (w' := [(Ax, .inr (4, [.ref Bn1, .int 0, .null, .null, .null, .null, .null, .int 0, .int 0, .int 0])), (Bn1, .inl (cI, 60, .inl (fun _ => 0)))]) rfl dX4_init_14 (fun H locs hP hD hS => ?_)
  refine lv_aload_n hx hb dX4_init_17 rfl (lv_at hl 0 rfl) ?_
  refine va_new (ci := 3) (fs := [.int 0, .int 0, .int 0, .int 0, .long 0]) (C := RX3) (T := TX3) (N := 5) hx hb hts uX4_init_X3 tyX3 tyX3_ok hown (hts _ fX4_init_17) (hts _ fX4_init_iX3) (hts _ fX4_init_jX3) hK.1 hP hD hS hA rfl (fun j hj => by rcases (show j = 0 ∨ j = 1 ∨ j = 2 ∨ j = 3 ∨ j = 4 by omega) with rfl | rfl | rfl | rfl | rfl <;> rfl) (Nat.le_of_ble_eq_true rfl) (Nat.le_of_ble_eq_true rfl) dX4_init_18 (fun An2 H hP hD hS => ?_)
  refine W.widen (k := 2) (n := 65) (Nat.le_of_ble_eq_true rfl) (Nat.le_of_ble_eq_true rfl) ?_
  have hP : va_P G vwCl [(Ax, .inr (4, [.ref Bn1, .int 0, .null, .null, .null, .null, .null, .int 0, .int 0, .int 0])), (Bn1, .inl (cI, 60, .inl (fun _ => 0))), (An2, .inr (3, [.int 0, .int 0, .int 0, .int 0, .long 0]))] H := hP
  have hD : va_D A [(Ax, .inr (4, [.ref Bn1, .int 0, .null, .null, .null, .null, .null, .int 0, .int 0, .int 0])), (Bn1, .inl (cI, 60, .inl (fun _ => 0))), (An2, .inr (3, [.int 0, .int 0, .int 0, .int 0, .long 0]))] := hD
  refine lv_dup hx hb dX4_init_21 rfl ?_
  refine k_I (M_X3_init l tx sa G cI cJ An2 _ hw) ⟨hx, hb, hml, hown, hts⟩ (cwI 0 hts gX4_init_X3_init rfl rfl rfl (hts _ fX4_init_jX3) (hts _ fX4_init_19) (hts _ fX4_init_mX3_init) rfl (by decide +kernel) ⟨(Nat.le_of_ble_eq_true rfl), (Nat.le_of_ble_eq_true rfl)⟩) hK hP hD hS hA hE [2] [0, 1] (wr := [(Ax, .inr (4, [.ref Bn1, .int 0, .null, .null, .null, .null, .null, .int 0, .int 0, .int 0])), (Bn1, .inl (cI, 60, .inl (fun _ => 0)))]) rfl rfl (by decide) (by decide) (by decide) (rest := [.ref An2, .ref Ax]) rfl hl.1 rfl (Nat.le_of_ble_eq_true rfl) (Nat.le_of_ble_eq_true rfl) (Nat.le_of_ble_eq_true rfl) dX4_init_22 (fun u H locs hw hP hD hS => ?_)
  obtain ⟨wa_1, wb_2, wlo_3, whi_4, wtot_5⟩ := u
  have hP : va_P G vwCl [(Ax, .inr (4, [.ref Bn1, .int 0, .null, .null, .null, .null, .null, .int 0, .int 0, .int 0])), (Bn1, .inl (cI, 60, .inl (fun _ => 0))), (An2, .inr (3, [.int wa_1, .int wb_2, .int wlo_3, .int whi_4, .long wtot_5]))] H := hP
  have hD : va_D A [(Ax, .inr (4, [.ref Bn1, .int 0, .null, .null, .null, .null, .null, .int 0, .int 0, .int 0])), (Bn1, .inl (cI, 60, .inl (fun _ => 0))), (An2, .inr (3, [.int wa_1, .int wb_2, .int wlo_3, .int whi_4, .long wtot_5]))] := hD
  refine W.widen (k := 2) (n := 65) (Nat.le_of_ble_eq_true rfl) (Nat.le_of_ble_eq_true rfl) ?_
  refine k_putF hx hb hts uX4_init_X4 tyX4 tyX4_ok nmX4 hown hK hP hD hS 0 4 rfl rfl 2 (by decide) fX4_init_20 rfl hin2 rfl rfl rfl (Nat.le_of_ble_eq_true rfl) (w' := [(Ax, .inr (4, [.ref Bn1, .int 0, .ref An2, .null, .null, .null, .null, .int 0, .int 0, .int 0])), (Bn1, .inl (cI, 60, .inl (fun _ => 0))), (An2, .inr (3, [.int wa_1, .int wb_2, .int wlo_3, .int whi_4, .long wtot_5]))]) rfl dX4_init_25 (fun H locs hP hD hS => ?_)
  refine lv_aload_n hx hb dX4_init_28 rfl (lv_at hl 0 rfl) ?_
  refine va_new (ci := 2) (fs := [.null, .null]) (C := RX2) (T := TX2) (N := 2) hx hb hts uX4_init_X2 tyX2 tyX2_ok hown (hts _ fX4_init_24) (hts _ fX4_init_iX2) (hts _ fX4_init_jX2) hK.1 hP hD hS hA rfl (fun j hj => by rcases (show j = 0 ∨ j = 1 by omega) with rfl | rfl <;> rfl) (Nat.le_of_ble_eq_true rfl) (Nat.le_of_ble_eq_true rfl) dX4_init_29 (fun An3 H hP hD hS => ?_)
  refine W.widen (k := 3) (n := 67) (Nat.le_of_ble_eq_true rfl) (Nat.le_of_ble_eq_true rfl) ?_
  have hP : va_P G vwCl [(Ax, .inr (4, [.ref Bn1, .int 0, .ref An2, .null, .null, .null, .null, .int 0, .int 0, .int 0])), (Bn1, .inl (cI, 60, .inl (fun _ => 0))), (An2, .inr (3, [.int wa_1, .int wb_2, .int wlo_3, .int whi_4, .long wtot_5])), (An3, .inr (2, [.null, .null]))] H := hP
  have hD : va_D A [(Ax, .inr (4, [.ref Bn1, .int 0, .ref An2, .null, .null, .null, .null, .int 0, .int 0, .int 0])), (Bn1, .inl (cI, 60, .inl (fun _ => 0))), (An2, .inr (3, [.int wa_1, .int wb_2, .int wlo_3, .int whi_4, .long wtot_5])), (An3, .inr (2, [.null, .null]))] := hD
  refine lv_dup hx hb dX4_init_32 rfl ?_
  refine k_IN (M_X2_init l tx sa G cI cJ An3 _ hw) ⟨hx, hb, hml, hown, hts⟩ ⟨va_cnB 0 hts gX4_init_X2_init_n26 rfl rfl rfl hE.1.2.2 (hts _ fX4_init_jX2) (by decide +kernel) ⟨(Nat.le_of_ble_eq_true rfl), (Nat.le_of_ble_eq_true rfl)⟩, rfl, hts _ fX4_init_mX2_init⟩ hK hP hD hS hA hE [3] [0, 1, 2] (wr := [(Ax, .inr (4, [.ref Bn1, .int 0, .ref An2, .null, .null, .null, .null, .int 0, .int 0, .int 0])), (Bn1, .inl (cI, 60, .inl (fun _ => 0))), (An2, .inr (3, [.int wa_1, .int wb_2, .int wlo_3, .int whi_4, .long wtot_5]))]) rfl rfl (by decide) (by decide) (by decide) (rest := [.ref An3, .ref Ax]) rfl hl.1 rfl (Nat.le_of_ble_eq_true rfl) (Nat.le_of_ble_eq_true rfl) (Nat.le_of_ble_eq_true rfl) dX4_init_33 (fun u H locs hw hP hD hS => ?_)
  obtain ⟨An3m, Bn3m, An3t, Bn3t, ln3m_6, nn3m_7, ln3t_8, nn3t_9⟩ := u
  have hP : va_P G vwCl [(Ax, .inr (4, [.ref Bn1, .int 0, .ref An2, .null, .null, .null, .null, .int 0, .int 0, .int 0])), (Bn1, .inl (cI, 60, .inl (fun _ => 0))), (An2, .inr (3, [.int wa_1, .int wb_2, .int wlo_3, .int whi_4, .long wtot_5])), (An3, .inr (2, [.ref An3m, .ref An3t])), (An3m, .inr (1, [.ref Bn3m, .int nn3m_7])), (Bn3m, .inl (cI, 64, .inl ln3m_6)), (An3t, .inr (1, [.ref Bn3t, .int nn3t_9])), (Bn3t, .inl (cI, 64, .inl ln3t_8))] H := hP
  have hD : va_D A [(Ax, .inr (4, [.ref Bn1, .int 0, .ref An2, .null, .null, .null, .null, .int 0, .int 0, .int 0])), (Bn1, .inl (cI, 60, .inl (fun _ => 0))), (An2, .inr (3, [.int wa_1, .int wb_2, .int wlo_3, .int whi_4, .long wtot_5])), (An3, .inr (2, [.ref An3m, .ref An3t])), (An3m, .inr (1, [.ref Bn3m, .int nn3m_7])), (Bn3m, .inl (cI, 64, .inl ln3m_6)), (An3t, .inr (1, [.ref Bn3t, .int nn3t_9])), (Bn3t, .inl (cI, 64, .inl ln3t_8))] := hD
  refine W.widen (k := 7) (n := 199) (Nat.le_of_ble_eq_true rfl) (Nat.le_of_ble_eq_true rfl) ?_
  refine k_putF hx hb hts uX4_init_X4 tyX4 tyX4_ok nmX4 hown hK hP hD hS 0 4 rfl rfl 3 (by decide) fX4_init_27 rfl hin2 rfl rfl rfl (Nat.le_of_ble_eq_true rfl) (w' := [(Ax, .inr (4, [.ref Bn1, .int 0, .ref An2, .ref An3, .null, .null, .null, .int 0, .int 0, .int 0])), (Bn1, .inl (cI, 60, .inl (fun _ => 0))), (An2, .inr (3, [.int wa_1, .int wb_2, .int wlo_3, .int whi_4, .long wtot_5])), (An3, .inr (2, [.ref An3m, .ref An3t])), (An3m, .inr (1, [.ref Bn3m, .int nn3m_7])), (Bn3m, .inl (cI, 64, .inl ln3m_6)), (An3t, .inr (1, [.ref Bn3t, .int nn3t_9])), (Bn3t, .inl (cI, 64, .inl ln3t_8))]) rfl dX4_init_36 (fun H locs hP hD hS => ?_)
  refine lv_aload_n hx hb dX4_init_39 rfl (lv_at hl 0 rfl) ?_
  refine va_new (ci := 0) (fs := [.null, .null]) (C := RX0) (T := TX0) (N := 2) hx hb hts uX4_init_X0 tyX0 tyX0_ok hown (hts _ fX4_init_31) (hts _ fX4_init_iX0) (hts _ fX4_init_jX0) hK.1 hP hD hS hA rfl (fun j hj => by rcases (show j = 0 ∨ j = 1 by omega) with rfl | rfl <;> rfl) (Nat.le_of_ble_eq_true rfl) (Nat.le_of_ble_eq_true rfl) dX4_init_40 (fun An4 H hP hD hS => ?_)
  refine W.widen (k := 8) (n := 201) (Nat.le_of_ble_eq_true rfl) (Nat.le_of_ble_eq_true rfl) ?_
  have hP : va_P G vwCl [(Ax, .inr (4, [.ref Bn1, .int 0, .ref An2, .ref An3, .null, .null, .null, .int 0, .int 0, .int 0])), (Bn1, .inl (cI, 60, .inl (fun _ => 0))), (An2, .inr (3, [.int wa_1, .int wb_2, .int wlo_3, .int whi_4, .long wtot_5])), (An3, .inr (2, [.ref An3m, .ref An3t])), (An3m, .inr (1, [.ref Bn3m, .int nn3m_7])), (Bn3m, .inl (cI, 64, .inl ln3m_6)), (An3t, .inr (1, [.ref Bn3t, .int nn3t_9])), (Bn3t, .inl (cI, 64, .inl ln3t_8)), (An4, .inr (0, [.null, .null]))] H := hP
  have hD : va_D A [(Ax, .inr (4, [.ref Bn1, .int 0, .ref An2, .ref An3, .null, .null, .null, .int 0, .int 0, .int 0])), (Bn1, .inl (cI, 60, .inl (fun _ => 0))), (An2, .inr (3, [.int wa_1, .int wb_2, .int wlo_3, .int whi_4, .long wtot_5])), (An3, .inr (2, [.ref An3m, .ref An3t])), (An3m, .inr (1, [.ref Bn3m, .int nn3m_7])), (Bn3m, .inl (cI, 64, .inl ln3m_6)), (An3t, .inr (1, [.ref Bn3t, .int nn3t_9])), (Bn3t, .inl (cI, 64, .inl ln3t_8)), (An4, .inr (0, [.null, .null]))] := hD
  refine lv_dup hx hb dX4_init_43 rfl ?_
  refine k_I (M_X0_init l tx sa G cI cJ An4 _ hw) ⟨hx, hb, hml, hown, hts⟩ (cwI 0 hts gX4_init_X0_init rfl rfl rfl (hts _ fX4_init_jX0) (hts _ fX4_init_33) (hts _ fX4_init_mX0_init) rfl (by decide +kernel) ⟨(Nat.le_of_ble_eq_true rfl), (Nat.le_of_ble_eq_true rfl)⟩) hK hP hD hS hA hE [8] [0, 1, 2, 3, 4, 5, 6, 7] (wr := [(Ax, .inr (4, [.ref Bn1, .int 0, .ref An2, .ref An3, .null, .null, .null, .int 0, .int 0, .int 0])), (Bn1, .inl (cI, 60, .inl (fun _ => 0))), (An2, .inr (3, [.int wa_1, .int wb_2, .int wlo_3, .int whi_4, .long wtot_5])), (An3, .inr (2, [.ref An3m, .ref An3t])), (An3m, .inr (1, [.ref Bn3m, .int nn3m_7])), (Bn3m, .inl (cI, 64, .inl ln3m_6)), (An3t, .inr (1, [.ref Bn3t, .int nn3t_9])), (Bn3t, .inl (cI, 64, .inl ln3t_8))]) rfl rfl (by decide) (by decide) (by decide) (rest := [.ref An4, .ref Ax]) rfl hl.1 rfl (Nat.le_of_ble_eq_true rfl) (Nat.le_of_ble_eq_true rfl) (Nat.le_of_ble_eq_true rfl) dX4_init_44 (fun u H locs hw hP hD hS => ?_)
  obtain ⟨An4u, Bn4u, An4d, Bn4d, ln4u_10, nn4u_11, ln4d_12, nn4d_13⟩ := u
  have hP : va_P G vwCl [(Ax, .inr (4, [.ref Bn1, .int 0, .ref An2, .ref An3, .null, .null, .null, .int 0, .int 0, .int 0])), (Bn1, .inl (cI, 60, .inl (fun _ => 0))), (An2, .inr (3, [.int wa_1, .int wb_2, .int wlo_3, .int whi_4, .long wtot_5])), (An3, .inr (2, [.ref An3m, .ref An3t])), (An3m, .inr (1, [.ref Bn3m, .int nn3m_7])), (Bn3m, .inl (cI, 64, .inl ln3m_6)), (An3t, .inr (1, [.ref Bn3t, .int nn3t_9])), (Bn3t, .inl (cI, 64, .inl ln3t_8)), (An4, .inr (0, [.ref An4u, .ref An4d])), (An4u, .inr (1, [.ref Bn4u, .int nn4u_11])), (Bn4u, .inl (cI, 64, .inl ln4u_10)), (An4d, .inr (1, [.ref Bn4d, .int nn4d_13])), (Bn4d, .inl (cI, 64, .inl ln4d_12))] H := hP
  have hD : va_D A [(Ax, .inr (4, [.ref Bn1, .int 0, .ref An2, .ref An3, .null, .null, .null, .int 0, .int 0, .int 0])), (Bn1, .inl (cI, 60, .inl (fun _ => 0))), (An2, .inr (3, [.int wa_1, .int wb_2, .int wlo_3, .int whi_4, .long wtot_5])), (An3, .inr (2, [.ref An3m, .ref An3t])), (An3m, .inr (1, [.ref Bn3m, .int nn3m_7])), (Bn3m, .inl (cI, 64, .inl ln3m_6)), (An3t, .inr (1, [.ref Bn3t, .int nn3t_9])), (Bn3t, .inl (cI, 64, .inl ln3t_8)), (An4, .inr (0, [.ref An4u, .ref An4d])), (An4u, .inr (1, [.ref Bn4u, .int nn4u_11])), (Bn4u, .inl (cI, 64, .inl ln4u_10)), (An4d, .inr (1, [.ref Bn4d, .int nn4d_13])), (Bn4d, .inl (cI, 64, .inl ln4d_12))] := hD
  refine W.widen (k := 12) (n := 333) (Nat.le_of_ble_eq_true rfl) (Nat.le_of_ble_eq_true rfl) ?_
  refine k_putF hx hb hts uX4_init_X4 tyX4 tyX4_ok nmX4 hown hK hP hD hS 0 4 rfl rfl 4 (by decide) fX4_init_34 rfl hin2 rfl rfl rfl (Nat.le_of_ble_eq_true rfl) (w' := [(Ax, .inr (4, [.ref Bn1, .int 0, .ref An2, .ref An3, .ref An4, .null, .null, .int 0, .int 0, .int 0])), (Bn1, .inl (cI, 60, .inl (fun _ => 0))), (An2, .inr (3, [.int wa_1, .int wb_2, .int wlo_3, .int whi_4, .long wtot_5])), (An3, .inr (2, [.ref An3m, .ref An3t])), (An3m, .inr (1, [.ref Bn3m, .int nn3m_7])), (Bn3m, .inl (cI, 64, .inl ln3m_6)), (An3t, .inr (1, [.ref Bn3t, .int nn3t_9])), (Bn3t, .inl (cI, 64, .inl ln3t_8)), (An4, .inr (0, [.ref An4u, .ref An4d])), (An4u, .inr (1, [.ref Bn4u, .int nn4u_11])), (Bn4u, .inl (cI, 64, .inl ln4u_10)), (An4d, .inr (1, [.ref Bn4d, .int nn4d_13])), (Bn4d, .inl (cI, 64, .inl ln4d_12))]) rfl dX4_init_47 (fun H locs hP hD hS => ?_)
  refine lv_aload_n hx hb dX4_init_50 rfl (lv_at hl 0 rfl) ?_
  refine va_new (ci := 0) (fs := [.null, .null]) (C := RX0) (T := TX0) (N := 2) hx hb hts uX4_init_X0 tyX0 tyX0_ok hown (hts _ fX4_init_31) (hts _ fX4_init_iX0) (hts _ fX4_init_jX0) hK.1 hP hD hS hA rfl (fun j hj => by rcases (show j = 0 ∨ j = 1 by omega) with rfl | rfl <;> rfl) (Nat.le_of_ble_eq_true rfl) (Nat.le_of_ble_eq_true rfl) dX4_init_51 (fun An5 H hP hD hS => ?_)
  refine W.widen (k := 13) (n := 335) (Nat.le_of_ble_eq_true rfl) (Nat.le_of_ble_eq_true rfl) ?_
  have hP : va_P G vwCl [(Ax, .inr (4, [.ref Bn1, .int 0, .ref An2, .ref An3, .ref An4, .null, .null, .int 0, .int 0, .int 0])), (Bn1, .inl (cI, 60, .inl (fun _ => 0))), (An2, .inr (3, [.int wa_1, .int wb_2, .int wlo_3, .int whi_4, .long wtot_5])), (An3, .inr (2, [.ref An3m, .ref An3t])), (An3m, .inr (1, [.ref Bn3m, .int nn3m_7])), (Bn3m, .inl (cI, 64, .inl ln3m_6)), (An3t, .inr (1, [.ref Bn3t, .int nn3t_9])), (Bn3t, .inl (cI, 64, .inl ln3t_8)), (An4, .inr (0, [.ref An4u, .ref An4d])), (An4u, .inr (1, [.ref Bn4u, .int nn4u_11])), (Bn4u, .inl (cI, 64, .inl ln4u_10)), (An4d, .inr (1, [.ref Bn4d, .int nn4d_13])), (Bn4d, .inl (cI, 64, .inl ln4d_12)), (An5, .inr (0, [.null, .null]))] H := hP
  have hD : va_D A [(Ax, .inr (4, [.ref Bn1, .int 0, .ref An2, .ref An3, .ref An4, .null, .null, .int 0, .int 0, .int 0])), (Bn1, .inl (cI, 60, .inl (fun _ => 0))), (An2, .inr (3, [.int wa_1, .int wb_2, .int wlo_3, .int whi_4, .long wtot_5])), (An3, .inr (2, [.ref An3m, .ref An3t])), (An3m, .inr (1, [.ref Bn3m, .int nn3m_7])), (Bn3m, .inl (cI, 64, .inl ln3m_6)), (An3t, .inr (1, [.ref Bn3t, .int nn3t_9])), (Bn3t, .inl (cI, 64, .inl ln3t_8)), (An4, .inr (0, [.ref An4u, .ref An4d])), (An4u, .inr (1, [.ref Bn4u, .int nn4u_11])), (Bn4u, .inl (cI, 64, .inl ln4u_10)), (An4d, .inr (1, [.ref Bn4d, .int nn4d_13])), (Bn4d, .inl (cI, 64, .inl ln4d_12)), (An5, .inr (0, [.null, .null]))] := hD
  refine lv_dup hx hb dX4_init_54 rfl ?_
  refine k_I (M_X0_init l tx sa G cI cJ An5 _ hw) ⟨hx, hb, hml, hown, hts⟩ (cwI 0 hts gX4_init_X0_init rfl rfl rfl (hts _ fX4_init_jX0) (hts _ fX4_init_33) (hts _ fX4_init_mX0_init) rfl (by decide +kernel) ⟨(Nat.le_of_ble_eq_true rfl), (Nat.le_of_ble_eq_true rfl)⟩) hK hP hD hS hA hE [13] [0, 1, 2, 3, 4, 5, 6, 7, 8, 9, 10, 11, 12] (wr := [(Ax, .inr (4, [.ref Bn1, .int 0, .ref An2, .ref An3, .ref An4, .null, .null, .int 0, .int 0, .int 0])), (Bn1, .inl (cI, 60, .inl (fun _ => 0))), (An2, .inr (3, [.int wa_1, .int wb_2, .int wlo_3, .int whi_4, .long wtot_5])), (An3, .inr (2, [.ref An3m, .ref An3t])), (An3m, .inr (1, [.ref Bn3m, .int nn3m_7])), (Bn3m, .inl (cI, 64, .inl ln3m_6)), (An3t, .inr (1, [.ref Bn3t, .int nn3t_9])), (Bn3t, .inl (cI, 64, .inl ln3t_8)), (An4, .inr (0, [.ref An4u, .ref An4d])), (An4u, .inr (1, [.ref Bn4u, .int nn4u_11])), (Bn4u, .inl (cI, 64, .inl ln4u_10)), (An4d, .inr (1, [.ref Bn4d, .int nn4d_13])), (Bn4d, .inl (cI, 64, .inl ln4d_12))]) rfl rfl (by decide) (by decide) (by decide) (rest := [.ref An5, .ref Ax]) rfl hl.1 rfl (Nat.le_of_ble_eq_true rfl) (Nat.le_of_ble_eq_true rfl) (Nat.le_of_ble_eq_true rfl) dX4_init_55 (fun u H locs hw hP hD hS => ?_)
  obtain ⟨An5u, Bn5u, An5d, Bn5d, ln5u_14, nn5u_15, ln5d_16, nn5d_17⟩ := u
  have hP : va_P G vwCl [(Ax, .inr (4, [.ref Bn1, .int 0, .ref An2, .ref An3, .ref An4, .null, .null, .int 0, .int 0, .int 0])), (Bn1, .inl (cI, 60, .inl (fun _ => 0))), (An2, .inr (3, [.int wa_1, .int wb_2, .int wlo_3, .int whi_4, .long wtot_5])), (An3, .inr (2, [.ref An3m, .ref An3t])), (An3m, .inr (1, [.ref Bn3m, .int nn3m_7])), (Bn3m, .inl (cI, 64, .inl ln3m_6)), (An3t, .inr (1, [.ref Bn3t, .int nn3t_9])), (Bn3t, .inl (cI, 64, .inl ln3t_8)), (An4, .inr (0, [.ref An4u, .ref An4d])), (An4u, .inr (1, [.ref Bn4u, .int nn4u_11])), (Bn4u, .inl (cI, 64, .inl ln4u_10)), (An4d, .inr (1, [.ref Bn4d, .int nn4d_13])), (Bn4d, .inl (cI, 64, .inl ln4d_12)), (An5, .inr (0, [.ref An5u, .ref An5d])), (An5u, .inr (1, [.ref Bn5u, .int nn5u_15])), (Bn5u, .inl (cI, 64, .inl ln5u_14)), (An5d, .inr (1, [.ref Bn5d, .int nn5d_17])), (Bn5d, .inl (cI, 64, .inl ln5d_16))] H := hP
  have hD : va_D A [(Ax, .inr (4, [.ref Bn1, .int 0, .ref An2, .ref An3, .ref An4, .null, .null, .int 0, .int 0, .int 0])), (Bn1, .inl (cI, 60, .inl (fun _ => 0))), (An2, .inr (3, [.int wa_1, .int wb_2, .int wlo_3, .int whi_4, .long wtot_5])), (An3, .inr (2, [.ref An3m, .ref An3t])), (An3m, .inr (1, [.ref Bn3m, .int nn3m_7])), (Bn3m, .inl (cI, 64, .inl ln3m_6)), (An3t, .inr (1, [.ref Bn3t, .int nn3t_9])), (Bn3t, .inl (cI, 64, .inl ln3t_8)), (An4, .inr (0, [.ref An4u, .ref An4d])), (An4u, .inr (1, [.ref Bn4u, .int nn4u_11])), (Bn4u, .inl (cI, 64, .inl ln4u_10)), (An4d, .inr (1, [.ref Bn4d, .int nn4d_13])), (Bn4d, .inl (cI, 64, .inl ln4d_12)), (An5, .inr (0, [.ref An5u, .ref An5d])), (An5u, .inr (1, [.ref Bn5u, .int nn5u_15])), (Bn5u, .inl (cI, 64, .inl ln5u_14)), (An5d, .inr (1, [.ref Bn5d, .int nn5d_17])), (Bn5d, .inl (cI, 64, .inl ln5d_16))] := hD
  refine W.widen (k := 17) (n := 467) (Nat.le_of_ble_eq_true rfl) (Nat.le_of_ble_eq_true rfl) ?_
  refine k_putF hx hb hts uX4_init_X4 tyX4 tyX4_ok nmX4 hown hK hP hD hS 0 4 rfl rfl 5 (by decide) fX4_init_38 rfl hin2 rfl rfl rfl (Nat.le_of_ble_eq_true rfl) (w' := [(Ax, .inr (4, [.ref Bn1, .int 0, .ref An2, .ref An3, .ref An4, .ref An5, .null, .int 0, .int 0, .int 0])), (Bn1, .inl (cI, 60, .inl (fun _ => 0))), (An2, .inr (3, [.int wa_1, .int wb_2, .int wlo_3, .int whi_4, .long wtot_5])), (An3, .inr (2, [.ref An3m, .ref An3t])), (An3m, .inr (1, [.ref Bn3m, .int nn3m_7])), (Bn3m, .inl (cI, 64, .inl ln3m_6)), (An3t, .inr (1, [.ref Bn3t, .int nn3t_9])), (Bn3t, .inl (cI, 64, .inl ln3t_8)), (An4, .inr (0, [.ref An4u, .ref An4d])), (An4u, .inr (1, [.ref Bn4u, .int nn4u_11])), (Bn4u, .inl (cI, 64, .inl ln4u_10)), (An4d, .inr (1, [.ref Bn4d, .int nn4d_13])), (Bn4d, .inl (cI, 64, .inl ln4d_12)), (An5, .inr (0, [.ref An5u, .ref An5d])), (An5u, .inr (1, [.ref Bn5u, .int nn5u_15])), (Bn5u, .inl (cI, 64, .inl ln5u_14)), (An5d, .inr (1, [.ref Bn5d, .int nn5d_17])), (Bn5d, .inl (cI, 64, .inl ln5d_16))]) rfl dX4_init_58 (fun H locs hP hD hS => ?_)
  refine lv_aload_n hx hb dX4_init_61 rfl (lv_at hl 0 rfl) ?_
  refine va_new (ci := 0) (fs := [.null, .null]) (C := RX0) (T := TX0) (N := 2) hx hb hts uX4_init_X0 tyX0 tyX0_ok hown (hts _ fX4_init_31) (hts _ fX4_init_iX0) (hts _ fX4_init_jX0) hK.1 hP hD hS hA rfl (fun j hj => by rcases (show j = 0 ∨ j = 1 by omega) with rfl | rfl <;> rfl) (Nat.le_of_ble_eq_true rfl) (Nat.le_of_ble_eq_true rfl) dX4_init_62 (fun An6 H hP hD hS => ?_)
  refine W.widen (k := 18) (n := 469) (Nat.le_of_ble_eq_true rfl) (Nat.le_of_ble_eq_true rfl) ?_
  have hP : va_P G vwCl [(Ax, .inr (4, [.ref Bn1, .int 0, .ref An2, .ref An3, .ref An4, .ref An5, .null, .int 0, .int 0, .int 0])), (Bn1, .inl (cI, 60, .inl (fun _ => 0))), (An2, .inr (3, [.int wa_1, .int wb_2, .int wlo_3, .int whi_4, .long wtot_5])), (An3, .inr (2, [.ref An3m, .ref An3t])), (An3m, .inr (1, [.ref Bn3m, .int nn3m_7])), (Bn3m, .inl (cI, 64, .inl ln3m_6)), (An3t, .inr (1, [.ref Bn3t, .int nn3t_9])), (Bn3t, .inl (cI, 64, .inl ln3t_8)), (An4, .inr (0, [.ref An4u, .ref An4d])), (An4u, .inr (1, [.ref Bn4u, .int nn4u_11])), (Bn4u, .inl (cI, 64, .inl ln4u_10)), (An4d, .inr (1, [.ref Bn4d, .int nn4d_13])), (Bn4d, .inl (cI, 64, .inl ln4d_12)), (An5, .inr (0, [.ref An5u, .ref An5d])), (An5u, .inr (1, [.ref Bn5u, .int nn5u_15])), (Bn5u, .inl (cI, 64, .inl ln5u_14)), (An5d, .inr (1, [.ref Bn5d, .int nn5d_17])), (Bn5d, .inl (cI, 64, .inl ln5d_16)), (An6, .inr (0, [.null, .null]))] H := hP
  have hD : va_D A [(Ax, .inr (4, [.ref Bn1, .int 0, .ref An2, .ref An3, .ref An4, .ref An5, .null, .int 0, .int 0, .int 0])), (Bn1, .inl (cI, 60, .inl (fun _ => 0))), (An2, .inr (3, [.int wa_1, .int wb_2, .int wlo_3, .int whi_4, .long wtot_5])), (An3, .inr (2, [.ref An3m, .ref An3t])), (An3m, .inr (1, [.ref Bn3m, .int nn3m_7])), (Bn3m, .inl (cI, 64, .inl ln3m_6)), (An3t, .inr (1, [.ref Bn3t, .int nn3t_9])), (Bn3t, .inl (cI, 64, .inl ln3t_8)), (An4, .inr (0, [.ref An4u, .ref An4d])), (An4u, .inr (1, [.ref Bn4u, .int nn4u_11])), (Bn4u, .inl (cI, 64, .inl ln4u_10)), (An4d, .inr (1, [.ref Bn4d, .int nn4d_13])), (Bn4d, .inl (cI, 64, .inl ln4d_12)), (An5, .inr (0, [.ref An5u, .ref An5d])), (An5u, .inr (1, [.ref Bn5u, .int nn5u_15])), (Bn5u, .inl (cI, 64, .inl ln5u_14)), (An5d, .inr (1, [.ref Bn5d, .int nn5d_17])), (Bn5d, .inl (cI, 64, .inl ln5d_16)), (An6, .inr (0, [.null, .null]))] := hD
  refine lv_dup hx hb dX4_init_65 rfl ?_
  refine k_I (M_X0_init l tx sa G cI cJ An6 _ hw) ⟨hx, hb, hml, hown, hts⟩ (cwI 0 hts gX4_init_X0_init rfl rfl rfl (hts _ fX4_init_jX0) (hts _ fX4_init_33) (hts _ fX4_init_mX0_init) rfl (by decide +kernel) ⟨(Nat.le_of_ble_eq_true rfl), (Nat.le_of_ble_eq_true rfl)⟩) hK hP hD hS hA hE [18] [0, 1, 2, 3, 4, 5, 6, 7, 8, 9, 10, 11, 12, 13, 14, 15, 16, 17] (wr := [(Ax, .inr (4, [.ref Bn1, .int 0, .ref An2, .ref An3, .ref An4, .ref An5, .null, .int 0, .int 0, .int 0])), (Bn1, .inl (cI, 60, .inl (fun _ => 0))), (An2, .inr (3, [.int wa_1, .int wb_2, .int wlo_3, .int whi_4, .long wtot_5])), (An3, .inr (2, [.ref An3m, .ref An3t])), (An3m, .inr (1, [.ref Bn3m, .int nn3m_7])), (Bn3m, .inl (cI, 64, .inl ln3m_6)), (An3t, .inr (1, [.ref Bn3t, .int nn3t_9])), (Bn3t, .inl (cI, 64, .inl ln3t_8)), (An4, .inr (0, [.ref An4u, .ref An4d])), (An4u, .inr (1, [.ref Bn4u, .int nn4u_11])), (Bn4u, .inl (cI, 64, .inl ln4u_10)), (An4d, .inr (1, [.ref Bn4d, .int nn4d_13])), (Bn4d, .inl (cI, 64, .inl ln4d_12)), (An5, .inr (0, [.ref An5u, .ref An5d])), (An5u, .inr (1, [.ref Bn5u, .int nn5u_15])), (Bn5u, .inl (cI, 64, .inl ln5u_14)), (An5d, .inr (1, [.ref Bn5d, .int nn5d_17])), (Bn5d, .inl (cI, 64, .inl ln5d_16))]) rfl rfl (by decide) (by decide) (by decide) (rest := [.ref An6, .ref Ax]) rfl hl.1 rfl (Nat.le_of_ble_eq_true rfl) (Nat.le_of_ble_eq_true rfl) (Nat.le_of_ble_eq_true rfl) dX4_init_66 (fun u H locs hw hP hD hS => ?_)
  obtain ⟨An6u, Bn6u, An6d, Bn6d, ln6u_18, nn6u_19, ln6d_20, nn6d_21⟩ := u
  have hP : va_P G vwCl [(Ax, .inr (4, [.ref Bn1, .int 0, .ref An2, .ref An3, .ref An4, .ref An5, .null, .int 0, .int 0, .int 0])), (Bn1, .inl (cI, 60, .inl (fun _ => 0))), (An2, .inr (3, [.int wa_1, .int wb_2, .int wlo_3, .int whi_4, .long wtot_5])), (An3, .inr (2, [.ref An3m, .ref An3t])), (An3m, .inr (1, [.ref Bn3m, .int nn3m_7])), (Bn3m, .inl (cI, 64, .inl ln3m_6)), (An3t, .inr (1, [.ref Bn3t, .int nn3t_9])), (Bn3t, .inl (cI, 64, .inl ln3t_8)), (An4, .inr (0, [.ref An4u, .ref An4d])), (An4u, .inr (1, [.ref Bn4u, .int nn4u_11])), (Bn4u, .inl (cI, 64, .inl ln4u_10)), (An4d, .inr (1, [.ref Bn4d, .int nn4d_13])), (Bn4d, .inl (cI, 64, .inl ln4d_12)), (An5, .inr (0, [.ref An5u, .ref An5d])), (An5u, .inr (1, [.ref Bn5u, .int nn5u_15])), (Bn5u, .inl (cI, 64, .inl ln5u_14)), (An5d, .inr (1, [.ref Bn5d, .int nn5d_17])), (Bn5d, .inl (cI, 64, .inl ln5d_16)), (An6, .inr (0, [.ref An6u, .ref An6d])), (An6u, .inr (1, [.ref Bn6u, .int nn6u_19])), (Bn6u, .inl (cI, 64, .inl ln6u_18)), (An6d, .inr (1, [.ref Bn6d, .int nn6d_21])), (Bn6d, .inl (cI, 64, .inl ln6d_20))] H := hP
  have hD : va_D A [(Ax, .inr (4, [.ref Bn1, .int 0, .ref An2, .ref An3, .ref An4, .ref An5, .null, .int 0, .int 0, .int 0])), (Bn1, .inl (cI, 60, .inl (fun _ => 0))), (An2, .inr (3, [.int wa_1, .int wb_2, .int wlo_3, .int whi_4, .long wtot_5])), (An3, .inr (2, [.ref An3m, .ref An3t])), (An3m, .inr (1, [.ref Bn3m, .int nn3m_7])), (Bn3m, .inl (cI, 64, .inl ln3m_6)), (An3t, .inr (1, [.ref Bn3t, .int nn3t_9])), (Bn3t, .inl (cI, 64, .inl ln3t_8)), (An4, .inr (0, [.ref An4u, .ref An4d])), (An4u, .inr (1, [.ref Bn4u, .int nn4u_11])), (Bn4u, .inl (cI, 64, .inl ln4u_10)), (An4d, .inr (1, [.ref Bn4d, .int nn4d_13])), (Bn4d, .inl (cI, 64, .inl ln4d_12)), (An5, .inr (0, [.ref An5u, .ref An5d])), (An5u, .inr (1, [.ref Bn5u, .int nn5u_15])), (Bn5u, .inl (cI, 64, .inl ln5u_14)), (An5d, .inr (1, [.ref Bn5d, .int nn5d_17])), (Bn5d, .inl (cI, 64, .inl ln5d_16)), (An6, .inr (0, [.ref An6u, .ref An6d])), (An6u, .inr (1, [.ref Bn6u, .int nn6u_19])), (Bn6u, .inl (cI, 64, .inl ln6u_18)), (An6d, .inr (1, [.ref Bn6d, .int nn6d_21])), (Bn6d, .inl (cI, 64, .inl ln6d_20))] := hD
  refine W.widen (k := 22) (n := 601) (Nat.le_of_ble_eq_true rfl) (Nat.le_of_ble_eq_true rfl) ?_
  refine k_putF hx hb hts uX4_init_X4 tyX4 tyX4_ok nmX4 hown hK hP hD hS 0 4 rfl rfl 6 (by decide) fX4_init_41 rfl hin2 rfl rfl rfl (Nat.le_of_ble_eq_true rfl) (w' := [(Ax, .inr (4, [.ref Bn1, .int 0, .ref An2, .ref An3, .ref An4, .ref An5, .ref An6, .int 0, .int 0, .int 0])), (Bn1, .inl (cI, 60, .inl (fun _ => 0))), (An2, .inr (3, [.int wa_1, .int wb_2, .int wlo_3, .int whi_4, .long wtot_5])), (An3, .inr (2, [.ref An3m, .ref An3t])), (An3m, .inr (1, [.ref Bn3m, .int nn3m_7])), (Bn3m, .inl (cI, 64, .inl ln3m_6)), (An3t, .inr (1, [.ref Bn3t, .int nn3t_9])), (Bn3t, .inl (cI, 64, .inl ln3t_8)), (An4, .inr (0, [.ref An4u, .ref An4d])), (An4u, .inr (1, [.ref Bn4u, .int nn4u_11])), (Bn4u, .inl (cI, 64, .inl ln4u_10)), (An4d, .inr (1, [.ref Bn4d, .int nn4d_13])), (Bn4d, .inl (cI, 64, .inl ln4d_12)), (An5, .inr (0, [.ref An5u, .ref An5d])), (An5u, .inr (1, [.ref Bn5u, .int nn5u_15])), (Bn5u, .inl (cI, 64, .inl ln5u_14)), (An5d, .inr (1, [.ref Bn5d, .int nn5d_17])), (Bn5d, .inl (cI, 64, .inl ln5d_16)), (An6, .inr (0, [.ref An6u, .ref An6d])), (An6u, .inr (1, [.ref Bn6u, .int nn6u_19])), (Bn6u, .inl (cI, 64, .inl ln6u_18)), (An6d, .inr (1, [.ref Bn6d, .int nn6d_21])), (Bn6d, .inl (cI, 64, .inl ln6d_20))]) rfl dX4_init_69 (fun H locs hP hD hS => ?_)
  refine lv_aload_n hx hb dX4_init_72 rfl (lv_at hl 0 rfl) ?_
  refine lv_iconst (v := 0) hx hb dX4_init_73 (by decide) ?_
  refine k_put hx hb hts uX4_init_X4 tyX4 tyX4_ok nmX4 hown hK hP hD hS 0 4 rfl rfl 7 (by decide) fX4_init_44 rfl rfl rfl (Nat.le_of_ble_eq_true rfl) (w' := [(Ax, .inr (4, [.ref Bn1, .int 0, .ref An2, .ref An3, .ref An4, .ref An5, .ref An6, .int 0, .int 0, .int 0])), (Bn1, .inl (cI, 60, .inl (fun _ => 0))), (An2, .inr (3, [.int wa_1, .int wb_2, .int wlo_3, .int whi_4, .long wtot_5])), (An3, .inr (2, [.ref An3m, .ref An3t])), (An3m, .inr (1, [.ref Bn3m, .int nn3m_7])), (Bn3m, .inl (cI, 64, .inl ln3m_6)), (An3t, .inr (1, [.ref Bn3t, .int nn3t_9])), (Bn3t, .inl (cI, 64, .inl ln3t_8)), (An4, .inr (0, [.ref An4u, .ref An4d])), (An4u, .inr (1, [.ref Bn4u, .int nn4u_11])), (Bn4u, .inl (cI, 64, .inl ln4u_10)), (An4d, .inr (1, [.ref Bn4d, .int nn4d_13])), (Bn4d, .inl (cI, 64, .inl ln4d_12)), (An5, .inr (0, [.ref An5u, .ref An5d])), (An5u, .inr (1, [.ref Bn5u, .int nn5u_15])), (Bn5u, .inl (cI, 64, .inl ln5u_14)), (An5d, .inr (1, [.ref Bn5d, .int nn5d_17])), (Bn5d, .inl (cI, 64, .inl ln5d_16)), (An6, .inr (0, [.ref An6u, .ref An6d])), (An6u, .inr (1, [.ref Bn6u, .int nn6u_19])), (Bn6u, .inl (cI, 64, .inl ln6u_18)), (An6d, .inr (1, [.ref Bn6d, .int nn6d_21])), (Bn6d, .inl (cI, 64, .inl ln6d_20))]) rfl dX4_init_74 (fun H locs hP hD hS => ?_)
  refine lv_aload_n hx hb dX4_init_77 rfl (lv_at hl 0 rfl) ?_
  refine lv_iconst (v := 0) hx hb dX4_init_78 (by decide) ?_
  refine k_put hx hb hts uX4_init_X4 tyX4 tyX4_ok nmX4 hown hK hP hD hS 0 4 rfl rfl 8 (by decide) fX4_init_47 rfl rfl rfl (Nat.le_of_ble_eq_true rfl) (w' := [(Ax, .inr (4, [.ref Bn1, .int 0, .ref An2, .ref An3, .ref An4, .ref An5, .ref An6, .int 0, .int 0, .int 0])), (Bn1, .inl (cI, 60, .inl (fun _ => 0))), (An2, .inr (3, [.int wa_1, .int wb_2, .int wlo_3, .int whi_4, .long wtot_5])), (An3, .inr (2, [.ref An3m, .ref An3t])), (An3m, .inr (1, [.ref Bn3m, .int nn3m_7])), (Bn3m, .inl (cI, 64, .inl ln3m_6)), (An3t, .inr (1, [.ref Bn3t, .int nn3t_9])), (Bn3t, .inl (cI, 64, .inl ln3t_8)), (An4, .inr (0, [.ref An4u, .ref An4d])), (An4u, .inr (1, [.ref Bn4u, .int nn4u_11])), (Bn4u, .inl (cI, 64, .inl ln4u_10)), (An4d, .inr (1, [.ref Bn4d, .int nn4d_13])), (Bn4d, .inl (cI, 64, .inl ln4d_12)), (An5, .inr (0, [.ref An5u, .ref An5d])), (An5u, .inr (1, [.ref Bn5u, .int nn5u_15])), (Bn5u, .inl (cI, 64, .inl ln5u_14)), (An5d, .inr (1, [.ref Bn5d, .int nn5d_17])), (Bn5d, .inl (cI, 64, .inl ln5d_16)), (An6, .inr (0, [.ref An6u, .ref An6d])), (An6u, .inr (1, [.ref Bn6u, .int nn6u_19])), (Bn6u, .inl (cI, 64, .inl ln6u_18)), (An6d, .inr (1, [.ref Bn6d, .int nn6d_21])), (Bn6d, .inl (cI, 64, .inl ln6d_20))]) rfl dX4_init_79 (fun H locs hP hD hS => ?_)
  refine lv_aload_n hx hb dX4_init_82 rfl (lv_at hl 0 rfl) ?_
  refine lv_iconst (v := 0) hx hb dX4_init_83 (by decide) ?_
  refine k_put hx hb hts uX4_init_X4 tyX4 tyX4_ok nmX4 hown hK hP hD hS 0 4 rfl rfl 9 (by decide) fX4_init_50 rfl rfl rfl (Nat.le_of_ble_eq_true rfl) (w' := [(Ax, .inr (4, [.ref Bn1, .int 0, .ref An2, .ref An3, .ref An4, .ref An5, .ref An6, .int 0, .int 0, .int 0])), (Bn1, .inl (cI, 60, .inl (fun _ => 0))), (An2, .inr (3, [.int wa_1, .int wb_2, .int wlo_3, .int whi_4, .long wtot_5])), (An3, .inr (2, [.ref An3m, .ref An3t])), (An3m, .inr (1, [.ref Bn3m, .int nn3m_7])), (Bn3m, .inl (cI, 64, .inl ln3m_6)), (An3t, .inr (1, [.ref Bn3t, .int nn3t_9])), (Bn3t, .inl (cI, 64, .inl ln3t_8)), (An4, .inr (0, [.ref An4u, .ref An4d])), (An4u, .inr (1, [.ref Bn4u, .int nn4u_11])), (Bn4u, .inl (cI, 64, .inl ln4u_10)), (An4d, .inr (1, [.ref Bn4d, .int nn4d_13])), (Bn4d, .inl (cI, 64, .inl ln4d_12)), (An5, .inr (0, [.ref An5u, .ref An5d])), (An5u, .inr (1, [.ref Bn5u, .int nn5u_15])), (Bn5u, .inl (cI, 64, .inl ln5u_14)), (An5d, .inr (1, [.ref Bn5d, .int nn5d_17])), (Bn5d, .inl (cI, 64, .inl ln5d_16)), (An6, .inr (0, [.ref An6u, .ref An6d])), (An6u, .inr (1, [.ref Bn6u, .int nn6u_19])), (Bn6u, .inl (cI, 64, .inl ln6u_18)), (An6d, .inr (1, [.ref Bn6d, .int nn6d_21])), (Bn6d, .inl (cI, 64, .inl ln6d_20))]) rfl dX4_init_84 (fun H locs hP hD hS => ?_)
  exact hret (Bn1, An2, An3, An3m, Bn3m, An3t, Bn3t, An4, An4u, Bn4u, An4d, Bn4d, An5, An5u, Bn5u, An5d, Bn5d, An6, An6u, Bn6u, An6d, Bn6d, (fun _ => 0), 0, wa_1, wb_2, wlo_3, whi_4, wtot_5, ln3m_6, nn3m_7, ln3t_8, nn3t_9, ln4u_10, nn4u_11, ln4d_12, nn4d_13, ln5u_14, nn5u_15, ln5d_16, nn5d_17, ln6u_18, nn6u_19, ln6d_20, nn6d_21, 0, 0, 0) _ _ _ _ hw (hP.sub [0, 1, 2, 3, 4, 5, 6, 7, 8, 9, 10, 11, 12, 13, 14, 15, 16, 17, 18, 19, 20, 21, 22] rfl) (hD.sub [0, 1, 2, 3, 4, 5, 6, 7, 8, 9, 10, 11, 12, 13, 14, 15, 16, 17, 18, 19, 20, 21, 22] (by decide) rfl) hS dX4_init_87
theorem fX5_init_o1 : Cond.methodLink RX5 1 objectInit ∈ wsX5_init := by decide +kernel
theorem fX5_init_o2 : Cond.instanceMethod objectInit ∈ wsX5_init := by decide +kernel
theorem fX5_init_o3 : Cond.code objectInit ⟨#[0xb1]⟩ 1 none ∈ wsX5_init := by decide +kernel
theorem fX5_init_aI : Cond.arrayClass .int ∈ wsX5_init := by decide +kernel
theorem fX5_init_7 : Cond.fieldLink RX5 7 "PrivateCountsModel" "row" "[I" ∈ wsX5_init := by decide +kernel
theorem uX5_init_X5 : ∀ w ∈ u_ws RX5 TX5 16, w ∈ wsX5_init := by decide +kernel
theorem fX5_init_13 : Cond.fieldLink RX5 13 "PrivateCountsModel" "a" "I" ∈ wsX5_init := by decide +kernel
theorem fX5_init_17 : Cond.fieldLink RX5 17 "PrivateCountsModel" "b" "I" ∈ wsX5_init := by decide +kernel
theorem fX5_init_20 : Cond.fieldLink RX5 20 "PrivateCountsModel" "high" "I" ∈ wsX5_init := by decide +kernel
theorem fX5_init_aJ : Cond.arrayClass .long ∈ wsX5_init := by decide +kernel
theorem fX5_init_23 : Cond.fieldLink RX5 23 "PrivateCountsModel" "figure" "[J" ∈ wsX5_init := by decide +kernel
theorem fX5_init_27 : Cond.fieldLink RX5 27 "PrivateCountsModel" "length" "[I" ∈ wsX5_init := by decide +kernel
theorem fX5_init_30 : Cond.fieldLink RX5 30 "PrivateCountsModel" "top" "[J" ∈ wsX5_init := by decide +kernel
theorem fX5_init_33 : Cond.fieldLink RX5 33 "PrivateCountsModel" "below" "[J" ∈ wsX5_init := by decide +kernel
theorem fX5_init_36 : Cond.fieldLink RX5 36 "PrivateCountsModel" "term" "[I" ∈ wsX5_init := by decide +kernel
theorem fX5_init_39 : Cond.fieldLink RX5 39 "PrivateCountsModel" "whole" "[I" ∈ wsX5_init := by decide +kernel
set_option maxHeartbeats 4000000 in
set_option maxRecDepth 100000 in
theorem M_X5_init (l : Launch) (tx : List (Nat × String)) (sa : Nat → Nat) (G : va_G) (cI cJ : ClassId) (Ay : Nat) (Q : (Nat → Int32) → Int32 → Int32 → Int32 → Int32 → Int32 → Int32 → Int32 → Int32 → (Nat → Int64) → (Nat → Int32) → (Nat → Int64) → (Nat → Int64) → Int32 → (Nat → Int32) → (Nat → Int32) → Prop) (hw : w_X5_init Q) : Kw l yX5_init wsX5_init rm_X5_init tx sa G cI cJ [.ref Ay] [(Ay, .inr (5, [.null, .int 0, .int 0, .int 0, .int 0, .int 0, .int 0, .int 0, .int 0, .null, .null, .null, .null, .int 0, .null, .null]))] (fun u : Nat × Nat × Nat × Nat × Nat × Nat × Nat × (Nat → Int32) × (Int32) × (Int32) × (Int32) × (Int32) × (Int32) × (Int32) × (Int32) × (Int32) × (Nat → Int64) × (Nat → Int32) × (Nat → Int64) × (Nat → Int64) × (Int32) × (Nat → Int32) × (Nat → Int32) => Q u.2.2.2.2.2.2.2.1 u.2.2.2.2.2.2.2.2.1 u.2.2.2.2.2.2.2.2.2.1 u.2.2.2.2.2.2.2.2.2.2.1 u.2.2.2.2.2.2.2.2.2.2.2.1 u.2.2.2.2.2.2.2.2.2.2.2.2.1 u.2.2.2.2.2.2.2.2.2.2.2.2.2.1 u.2.2.2.2.2.2.2.2.2.2.2.2.2.2.1 u.2.2.2.2.2.2.2.2.2.2.2.2.2.2.2.1 u.2.2.2.2.2.2.2.2.2.2.2.2.2.2.2.2.1 u.2.2.2.2.2.2.2.2.2.2.2.2.2.2.2.2.2.1 u.2.2.2.2.2.2.2.2.2.2.2.2.2.2.2.2.2.2.1 u.2.2.2.2.2.2.2.2.2.2.2.2.2.2.2.2.2.2.2.1 u.2.2.2.2.2.2.2.2.2.2.2.2.2.2.2.2.2.2.2.2.1 u.2.2.2.2.2.2.2.2.2.2.2.2.2.2.2.2.2.2.2.2.2.1 u.2.2.2.2.2.2.2.2.2.2.2.2.2.2.2.2.2.2.2.2.2.2) (fun u => wX5 cI cJ Ay u.1 u.2.1 u.2.2.1 u.2.2.2.1 u.2.2.2.2.1 u.2.2.2.2.2.1 u.2.2.2.2.2.2.1 u.2.2.2.2.2.2.2.1 u.2.2.2.2.2.2.2.2.1 u.2.2.2.2.2.2.2.2.2.1 u.2.2.2.2.2.2.2.2.2.2.1 u.2.2.2.2.2.2.2.2.2.2.2.1 u.2.2.2.2.2.2.2.2.2.2.2.2.1 u.2.2.2.2.2.2.2.2.2.2.2.2.2.1 u.2.2.2.2.2.2.2.2.2.2.2.2.2.2.1 u.2.2.2.2.2.2.2.2.2.2.2.2.2.2.2.1 u.2.2.2.2.2.2.2.2.2.2.2.2.2.2.2.2.1 u.2.2.2.2.2.2.2.2.2.2.2.2.2.2.2.2.2.1 u.2.2.2.2.2.2.2.2.2.2.2.2.2.2.2.2.2.2.1 u.2.2.2.2.2.2.2.2.2.2.2.2.2.2.2.2.2.2.2.1 u.2.2.2.2.2.2.2.2.2.2.2.2.2.2.2.2.2.2.2.2.1 u.2.2.2.2.2.2.2.2.2.2.2.2.2.2.2.2.2.2.2.2.2.1 u.2.2.2.2.2.2.2.2.2.2.2.2.2.2.2.2.2.2.2.2.2.2) 7 5746 := by
  refine kw_intro (cc := cX5_init) (maxL := 2) 7 5746 (by decide) rfl (Nat.le_of_ble_eq_true rfl) ?_
  intro p e s m args below meth c A Z ls hx hb hml hts hown hin2 hP hK hD hS hA hE hl hret
  have hin2 : meth.name = "<init>" := hin2
  have hl : lv_has ls 2 [(0, .ref Ay)] := hl
  unfold w_X5_init at hw
  refine lv_aload_n hx hb dX5_init_0 rfl (lv_at hl 0 rfl) ?_
  refine W.objInit hx hb hown (hts _ fX5_init_o1) (hts _ fX5_init_o2) (hts _ fX5_init_o3) rfl (by rw [hml]; exact hl.1) rfl dX5_init_1 (Nat.le_of_ble_eq_true rfl) (Nat.le_of_ble_eq_true rfl) ?_
  refine W.eq (g2 := F0 m 4 ls []) rfl ?_
  refine lv_aload_n hx hb dX5_init_4 rfl (lv_at hl 0 rfl) ?_
  refine lv_bipush (v := 60) hx hb dX5_init_5 (by decide) ?_
  refine k_newI hx hb (hts _ fX5_init_aI) hK hP hD hS hA 60 (by decide) rfl (Nat.le_of_ble_eq_true rfl) (Nat.le_of_ble_eq_true rfl) (Nat.le_of_ble_eq_true rfl) dX5_init_7 (fun Bn1 H hP hD hS => ?_)
  refine W.widen (k := 1) (n := 60) (Nat.le_of_ble_eq_true rfl) (Nat.le_of_ble_eq_true rfl) ?_
  have hP : va_P G vwCl [(Ay, .inr (5, [.null, .int 0, .int 0, .int 0, .int 0, .int 0, .int 0, .int 0, .int 0, .null, .null, .null, .null, .int 0, .null, .null])), (Bn1, .inl (cI, 60, .inl (fun _ => 0)))] H := hP
  have hD : va_D A [(Ay, .inr (5, [.null, .int 0, .int 0, .int 0, .int 0, .int 0, .int 0, .int 0, .int 0, .null, .null, .null, .null, .int 0, .null, .null])), (Bn1, .inl (cI, 60, .inl (fun _ => 0)))] := hD
  refine k_putF hx hb hts uX5_init_X5 tyX5 tyX5_ok nmX5 hown hK hP hD hS 0 5 rfl rfl 0 (by decide) fX5_init_7 rfl hin2 rfl rfl rfl (Nat.le_of_ble_eq_true rfl) (w' := [(Ay, .inr (5, [.ref Bn1, .int 0, .int 0, .int 0, .int 0, .int 0, .int 0, .int 0, .int 0, .null, .null, .null, .null, .int 0, .null, .null])), (Bn1, .inl (cI, 60, .inl (fun _ => 0)))]) rfl dX5_init_9 (fun H locs hP hD hS => ?_)
  refine lv_aload_n hx hb dX5_init_12 rfl (lv_at hl 0 rfl) ?_
  refine lv_iconst (v := 1) hx hb dX5_init_13 (by decide) ?_
  refine k_put hx hb hts uX5_init_X5 tyX5 tyX5_ok nmX5 hown hK hP hD hS 0 5 rfl rfl 2 (by decide) fX5_init_13 rfl rfl rfl (Nat.le_of_ble_eq_true rfl) (w' := [(Ay, .inr (5, [.ref Bn1, .int 0, .int 1, .int 0, .int 0, .int 0, .int 0, .int 0, .int 0, .null, .null, .null, .null, .int 0, .null, .null])), (Bn1, .inl (cI, 60, .inl (fun _ => 0)))]) rfl dX5_init_14 (fun H locs hP hD hS => ?_)
  refine lv_aload_n hx hb dX5_init_17 rfl (lv_at hl 0 rfl) ?_
  refine lv_iconst (v := 2) hx hb dX5_init_18 (by decide) ?_
  refine k_put hx hb hts uX5_init_X5 tyX5 tyX5_ok nmX5 hown hK hP hD hS 0 5 rfl rfl 3 (by decide) fX5_init_17 rfl rfl rfl (Nat.le_of_ble_eq_true rfl) (w' := [(Ay, .inr (5, [.ref Bn1, .int 0, .int 1, .int 2, .int 0, .int 0, .int 0, .int 0, .int 0, .null, .null, .null, .null, .int 0, .null, .null])), (Bn1, .inl (cI, 60, .inl (fun _ => 0)))]) rfl dX5_init_19 (fun H locs hP hD hS => ?_)
  refine lv_aload_n hx hb dX5_init_22 rfl (lv_at hl 0 rfl) ?_
  refine lv_bipush (v := 10) hx hb dX5_init_23 (by decide) ?_
  refine k_put hx hb hts uX5_init_X5 tyX5 tyX5_ok nmX5 hown hK hP hD hS 0 5 rfl rfl 5 (by decide) fX5_init_20 rfl rfl rfl (Nat.le_of_ble_eq_true rfl) (w' := [(Ay, .inr (5, [.ref Bn1, .int 0, .int 1, .int 2, .int 0, .int 10, .int 0, .int 0, .int 0, .null, .null, .null, .null, .int 0, .null, .null])), (Bn1, .inl (cI, 60, .inl (fun _ => 0)))]) rfl dX5_init_25 (fun H locs hP hD hS => ?_)
  refine lv_aload_n hx hb dX5_init_28 rfl (lv_at hl 0 rfl) ?_
  refine lv_sipush (v := 4608) hx hb dX5_init_29 (by decide) ?_
  refine k_newJ hx hb (hts _ fX5_init_aJ) hK hP hD hS hA 4608 (by decide) rfl (Nat.le_of_ble_eq_true rfl) (Nat.le_of_ble_eq_true rfl) (Nat.le_of_ble_eq_true rfl) dX5_init_32 (fun Bn2 H hP hD hS => ?_)
  refine W.widen (k := 2) (n := 4668) (Nat.le_of_ble_eq_true rfl) (Nat.le_of_ble_eq_true rfl) ?_
  have hP : va_P G vwCl [(Ay, .inr (5, [.ref Bn1, .int 0, .int 1, .int 2, .int 0, .int 10, .int 0, .int 0, .int 0, .null, .null, .null, .null, .int 0, .null, .null])), (Bn1, .inl (cI, 60, .inl (fun _ => 0))), (Bn2, .inl (cJ, 4608, .inr (.inl (fun _ => 0))))] H := hP
  have hD : va_D A [(Ay, .inr (5, [.ref Bn1, .int 0, .int 1, .int 2, .int 0, .int 10, .int 0, .int 0, .int 0, .null, .null, .null, .null, .int 0, .null, .null])), (Bn1, .inl (cI, 60, .inl (fun _ => 0))), (Bn2, .inl (cJ, 4608, .inr (.inl (fun _ => 0))))] := hD
  refine k_putF hx hb hts uX5_init_X5 tyX5 tyX5_ok nmX5 hown hK hP hD hS 0 5 rfl rfl 9 (by decide) fX5_init_23 rfl hin2 rfl rfl rfl (Nat.le_of_ble_eq_true rfl) (w' := [(Ay, .inr (5, [.ref Bn1, .int 0, .int 1, .int 2, .int 0, .int 10, .int 0, .int 0, .int 0, .ref Bn2, .null, .null, .null, .int 0, .null, .null])), (Bn1, .inl (cI, 60, .inl (fun _ => 0))), (Bn2, .inl (cJ, 4608, .inr (.inl (fun _ => 0))))]) rfl dX5_init_34 (fun H locs hP hD hS => ?_)
  refine lv_aload_n hx hb dX5_init_37 rfl (lv_at hl 0 rfl) ?_
  refine lv_bipush (v := 18) hx hb dX5_init_38 (by decide) ?_
  refine k_newI hx hb (hts _ fX5_init_aI) hK hP hD hS hA 18 (by decide) rfl (Nat.le_of_ble_eq_true rfl) (Nat.le_of_ble_eq_true rfl) (Nat.le_of_ble_eq_true rfl) dX5_init_40 (fun Bn3 H hP hD hS => ?_)
  refine W.widen (k := 3) (n := 4686) (Nat.le_of_ble_eq_true rfl) (Nat.le_of_ble_eq_true rfl) ?_
  have hP : va_P G vwCl [(Ay, .inr (5, [.ref Bn1, .int 0, .int 1, .int 2, .int 0, .int 10, .int 0, .int 0, .int 0, .ref Bn2, .null, .null, .null, .int 0, .null, .null])), (Bn1, .inl (cI, 60, .inl (fun _ => 0))), (Bn2, .inl (cJ, 4608, .inr (.inl (fun _ => 0)))), (Bn3, .inl (cI, 18, .inl (fun _ => 0)))] H := hP
  have hD : va_D A [(Ay, .inr (5, [.ref Bn1, .int 0, .int 1, .int 2, .int 0, .int 10, .int 0, .int 0, .int 0, .ref Bn2, .null, .null, .null, .int 0, .null, .null])), (Bn1, .inl (cI, 60, .inl (fun _ => 0))), (Bn2, .inl (cJ, 4608, .inr (.inl (fun _ => 0)))), (Bn3, .inl (cI, 18, .inl (fun _ => 0)))] := hD
  refine k_putF hx hb hts uX5_init_X5 tyX5 tyX5_ok nmX5 hown hK hP hD hS 0 5 rfl rfl 10 (by decide) fX5_init_27 rfl hin2 rfl rfl rfl (Nat.le_of_ble_eq_true rfl) (w' := [(Ay, .inr (5, [.ref Bn1, .int 0, .int 1, .int 2, .int 0, .int 10, .int 0, .int 0, .int 0, .ref Bn2, .ref Bn3, .null, .null, .int 0, .null, .null])), (Bn1, .inl (cI, 60, .inl (fun _ => 0))), (Bn2, .inl (cJ, 4608, .inr (.inl (fun _ => 0)))), (Bn3, .inl (cI, 18, .inl (fun _ => 0)))]) rfl dX5_init_42 (fun H locs hP hD hS => ?_)
  refine lv_aload_n hx hb dX5_init_45 rfl (lv_at hl 0 rfl) ?_
  refine lv_sipush (v := 520) hx hb dX5_init_46 (by decide) ?_
  refine k_newJ hx hb (hts _ fX5_init_aJ) hK hP hD hS hA 520 (by decide) rfl (Nat.le_of_ble_eq_true rfl) (Nat.le_of_ble_eq_true rfl) (Nat.le_of_ble_eq_true rfl) dX5_init_49 (fun Bn4 H hP hD hS => ?_)
  refine W.widen (k := 4) (n := 5206) (Nat.le_of_ble_eq_true rfl) (Nat.le_of_ble_eq_true rfl) ?_
  have hP : va_P G vwCl [(Ay, .inr (5, [.ref Bn1, .int 0, .int 1, .int 2, .int 0, .int 10, .int 0, .int 0, .int 0, .ref Bn2, .ref Bn3, .null, .null, .int 0, .null, .null])), (Bn1, .inl (cI, 60, .inl (fun _ => 0))), (Bn2, .inl (cJ, 4608, .inr (.inl (fun _ => 0)))), (Bn3, .inl (cI, 18, .inl (fun _ => 0))), (Bn4, .inl (cJ, 520, .inr (.inl (fun _ => 0))))] H := hP
  have hD : va_D A [(Ay, .inr (5, [.ref Bn1, .int 0, .int 1, .int 2, .int 0, .int 10, .int 0, .int 0, .int 0, .ref Bn2, .ref Bn3, .null, .null, .int 0, .null, .null])), (Bn1, .inl (cI, 60, .inl (fun _ => 0))), (Bn2, .inl (cJ, 4608, .inr (.inl (fun _ => 0)))), (Bn3, .inl (cI, 18, .inl (fun _ => 0))), (Bn4, .inl (cJ, 520, .inr (.inl (fun _ => 0))))] := hD
  refine k_putF hx hb hts uX5_init_X5 tyX5 tyX5_ok nmX5 hown hK hP hD hS 0 5 rfl rfl 11 (by decide) fX5_init_30 rfl hin2 rfl rfl rfl (Nat.le_of_ble_eq_true rfl) (w' := [(Ay, .inr (5, [.ref Bn1, .int 0, .int 1, .int 2, .int 0, .int 10, .int 0, .int 0, .int 0, .ref Bn2, .ref Bn3, .ref Bn4, .null, .int 0, .null, .null])), (Bn1, .inl (cI, 60, .inl (fun _ => 0))), (Bn2, .inl (cJ, 4608, .inr (.inl (fun _ => 0)))), (Bn3, .inl (cI, 18, .inl (fun _ => 0))), (Bn4, .inl (cJ, 520, .inr (.inl (fun _ => 0))))]) rfl dX5_init_51 (fun H locs hP hD hS => ?_)
  refine lv_aload_n hx hb dX5_init_54 rfl (lv_at hl 0 rfl) ?_
  refine lv_sipush (v := 520) hx hb dX5_init_55 (by decide) ?_
  refine k_newJ hx hb (hts _ fX5_init_aJ) hK hP hD hS hA 520 (by decide) rfl (Nat.le_of_ble_eq_true rfl) (Nat.le_of_ble_eq_true rfl) (Nat.le_of_ble_eq_true rfl) dX5_init_58 (fun Bn5 H hP hD hS => ?_)
  refine W.widen (k := 5) (n := 5726) (Nat.le_of_ble_eq_true rfl) (Nat.le_of_ble_eq_true rfl) ?_
  have hP : va_P G vwCl [(Ay, .inr (5, [.ref Bn1, .int 0, .int 1, .int 2, .int 0, .int 10, .int 0, .int 0, .int 0, .ref Bn2, .ref Bn3, .ref Bn4, .null, .int 0, .null, .null])), (Bn1, .inl (cI, 60, .inl (fun _ => 0))), (Bn2, .inl (cJ, 4608, .inr (.inl (fun _ => 0)))), (Bn3, .inl (cI, 18, .inl (fun _ => 0))), (Bn4, .inl (cJ, 520, .inr (.inl (fun _ => 0)))), (Bn5, .inl (cJ, 520, .inr (.inl (fun _ => 0))))] H := hP
  have hD : va_D A [(Ay, .inr (5, [.ref Bn1, .int 0, .int 1, .int 2, .int 0, .int 10, .int 0, .int 0, .int 0, .ref Bn2, .ref Bn3, .ref Bn4, .null, .int 0, .null, .null])), (Bn1, .inl (cI, 60, .inl (fun _ => 0))), (Bn2, .inl (cJ, 4608, .inr (.inl (fun _ => 0)))), (Bn3, .inl (cI, 18, .inl (fun _ => 0))), (Bn4, .inl (cJ, 520, .inr (.inl (fun _ => 0)))), (Bn5, .inl (cJ, 520, .inr (.inl (fun _ => 0))))] := hD
  refine k_putF hx hb hts uX5_init_X5 tyX5 tyX5_ok nmX5 hown hK hP hD hS 0 5 rfl rfl 12 (by decide) fX5_init_33 rfl hin2 rfl rfl rfl (Nat.le_of_ble_eq_true rfl) (w' := [(Ay, .inr (5, [.ref Bn1, .int 0, .int 1, .int 2, .int 0, .int 10, .int 0, .int 0, .int 0, .ref Bn2, .ref Bn3, .ref Bn4, .ref Bn5, .int 0, .null, .null])), (Bn1, .inl (cI, 60, .inl (fun _ => 0))), (Bn2, .inl (cJ, 4608, .inr (.inl (fun _ => 0)))), (Bn3, .inl (cI, 18, .inl (fun _ => 0))), (Bn4, .inl (cJ, 520, .inr (.inl (fun _ => 0)))), (Bn5, .inl (cJ, 520, .inr (.inl (fun _ => 0))))]) rfl dX5_init_60 (fun H locs hP hD hS => ?_)
  refine lv_aload_n hx hb dX5_init_63 rfl (lv_at hl 0 rfl) ?_
  refine lv_bipush (v := 10) hx hb dX5_init_64 (by decide) ?_
  refine k_newI hx hb (hts _ fX5_init_aI) hK hP hD hS hA 10 (by decide) rfl (Nat.le_of_ble_eq_true rfl) (Nat.le_of_ble_eq_true rfl) (Nat.le_of_ble_eq_true rfl) dX5_init_66 (fun Bn6 H hP hD hS => ?_)
  refine W.widen (k := 6) (n := 5736) (Nat.le_of_ble_eq_true rfl) (Nat.le_of_ble_eq_true rfl) ?_
  have hP : va_P G vwCl [(Ay, .inr (5, [.ref Bn1, .int 0, .int 1, .int 2, .int 0, .int 10, .int 0, .int 0, .int 0, .ref Bn2, .ref Bn3, .ref Bn4, .ref Bn5, .int 0, .null, .null])), (Bn1, .inl (cI, 60, .inl (fun _ => 0))), (Bn2, .inl (cJ, 4608, .inr (.inl (fun _ => 0)))), (Bn3, .inl (cI, 18, .inl (fun _ => 0))), (Bn4, .inl (cJ, 520, .inr (.inl (fun _ => 0)))), (Bn5, .inl (cJ, 520, .inr (.inl (fun _ => 0)))), (Bn6, .inl (cI, 10, .inl (fun _ => 0)))] H := hP
  have hD : va_D A [(Ay, .inr (5, [.ref Bn1, .int 0, .int 1, .int 2, .int 0, .int 10, .int 0, .int 0, .int 0, .ref Bn2, .ref Bn3, .ref Bn4, .ref Bn5, .int 0, .null, .null])), (Bn1, .inl (cI, 60, .inl (fun _ => 0))), (Bn2, .inl (cJ, 4608, .inr (.inl (fun _ => 0)))), (Bn3, .inl (cI, 18, .inl (fun _ => 0))), (Bn4, .inl (cJ, 520, .inr (.inl (fun _ => 0)))), (Bn5, .inl (cJ, 520, .inr (.inl (fun _ => 0)))), (Bn6, .inl (cI, 10, .inl (fun _ => 0)))] := hD
  refine k_putF hx hb hts uX5_init_X5 tyX5 tyX5_ok nmX5 hown hK hP hD hS 0 5 rfl rfl 14 (by decide) fX5_init_36 rfl hin2 rfl rfl rfl (Nat.le_of_ble_eq_true rfl) (w' := [(Ay, .inr (5, [.ref Bn1, .int 0, .int 1, .int 2, .int 0, .int 10, .int 0, .int 0, .int 0, .ref Bn2, .ref Bn3, .ref Bn4, .ref Bn5, .int 0, .ref Bn6, .null])), (Bn1, .inl (cI, 60, .inl (fun _ => 0))), (Bn2, .inl (cJ, 4608, .inr (.inl (fun _ => 0)))), (Bn3, .inl (cI, 18, .inl (fun _ => 0))), (Bn4, .inl (cJ, 520, .inr (.inl (fun _ => 0)))), (Bn5, .inl (cJ, 520, .inr (.inl (fun _ => 0)))), (Bn6, .inl (cI, 10, .inl (fun _ => 0)))]) rfl dX5_init_68 (fun H locs hP hD hS => ?_)
  refine lv_aload_n hx hb dX5_init_71 rfl (lv_at hl 0 rfl) ?_
  refine lv_bipush (v := 10) hx hb dX5_init_72 (by decide) ?_
  refine k_newI hx hb (hts _ fX5_init_aI) hK hP hD hS hA 10 (by decide) rfl (Nat.le_of_ble_eq_true rfl) (Nat.le_of_ble_eq_true rfl) (Nat.le_of_ble_eq_true rfl) dX5_init_74 (fun Bn7 H hP hD hS => ?_)
  refine W.widen (k := 7) (n := 5746) (Nat.le_of_ble_eq_true rfl) (Nat.le_of_ble_eq_true rfl) ?_
  have hP : va_P G vwCl [(Ay, .inr (5, [.ref Bn1, .int 0, .int 1, .int 2, .int 0, .int 10, .int 0, .int 0, .int 0, .ref Bn2, .ref Bn3, .ref Bn4, .ref Bn5, .int 0, .ref Bn6, .null])), (Bn1, .inl (cI, 60, .inl (fun _ => 0))), (Bn2, .inl (cJ, 4608, .inr (.inl (fun _ => 0)))), (Bn3, .inl (cI, 18, .inl (fun _ => 0))), (Bn4, .inl (cJ, 520, .inr (.inl (fun _ => 0)))), (Bn5, .inl (cJ, 520, .inr (.inl (fun _ => 0)))), (Bn6, .inl (cI, 10, .inl (fun _ => 0))), (Bn7, .inl (cI, 10, .inl (fun _ => 0)))] H := hP
  have hD : va_D A [(Ay, .inr (5, [.ref Bn1, .int 0, .int 1, .int 2, .int 0, .int 10, .int 0, .int 0, .int 0, .ref Bn2, .ref Bn3, .ref Bn4, .ref Bn5, .int 0, .ref Bn6, .null])), (Bn1, .inl (cI, 60, .inl (fun _ => 0))), (Bn2, .inl (cJ, 4608, .inr (.inl (fun _ => 0)))), (Bn3, .inl (cI, 18, .inl (fun _ => 0))), (Bn4, .inl (cJ, 520, .inr (.inl (fun _ => 0)))), (Bn5, .inl (cJ, 520, .inr (.inl (fun _ => 0)))), (Bn6, .inl (cI, 10, .inl (fun _ => 0))), (Bn7, .inl (cI, 10, .inl (fun _ => 0)))] := hD
  refine k_putF hx hb hts uX5_init_X5 tyX5 tyX5_ok nmX5 hown hK hP hD hS 0 5 rfl rfl 15 (by decide) fX5_init_39 rfl hin2 rfl rfl rfl (Nat.le_of_ble_eq_true rfl) (w' := [(Ay, .inr (5, [.ref Bn1, .int 0, .int 1, .int 2, .int 0, .int 10, .int 0, .int 0, .int 0, .ref Bn2, .ref Bn3, .ref Bn4, .ref Bn5, .int 0, .ref Bn6, .ref Bn7])), (Bn1, .inl (cI, 60, .inl (fun _ => 0))), (Bn2, .inl (cJ, 4608, .inr (.inl (fun _ => 0)))), (Bn3, .inl (cI, 18, .inl (fun _ => 0))), (Bn4, .inl (cJ, 520, .inr (.inl (fun _ => 0)))), (Bn5, .inl (cJ, 520, .inr (.inl (fun _ => 0)))), (Bn6, .inl (cI, 10, .inl (fun _ => 0))), (Bn7, .inl (cI, 10, .inl (fun _ => 0)))]) rfl dX5_init_76 (fun H locs hP hD hS => ?_)
  refine lv_iconst (v := 0) hx hb dX5_init_79 (by decide) ?_
  refine lv_istore_n (lv' := [(1, .int 0), (0, .ref Ay)]) hx hb dX5_init_80 rfl hl (by decide) rfl (fun ls hl => ?_)
  obtain ⟨I81_4, μ81_4, hi, hw⟩ := hw
  suffices hLI81_4 : ∀ (N : Nat) (i1_1 : Int32) (fig_2 : Nat → Int64) (len_3 : Nat → Int32) (_ : μ81_4 i1_1 fig_2 len_3 = N) (_ : I81_4 i1_1 fig_2 len_3) (H : Heap) (locs : List Loc) (ls : Array Slot), va_P G vwCl [(Ay, .inr (5, [.ref Bn1, .int 0, .int 1, .int 2, .int 0, .int 10, .int 0, .int 0, .int 0, .ref Bn2, .ref Bn3, .ref Bn4, .ref Bn5, .int 0, .ref Bn6, .ref Bn7])), (Bn1, .inl (cI, 60, .inl (fun _ => 0))), (Bn2, .inl (cJ, 4608, .inr (.inl fig_2))), (Bn3, .inl (cI, 18, .inl len_3)), (Bn4, .inl (cJ, 520, .inr (.inl (fun _ => 0)))), (Bn5, .inl (cJ, 520, .inr (.inl (fun _ => 0)))), (Bn6, .inl (cI, 10, .inl (fun _ => 0))), (Bn7, .inl (cI, 10, .inl (fun _ => 0)))] H → va_D A [(Ay, .inr (5, [.ref Bn1, .int 0, .int 1, .int 2, .int 0, .int 10, .int 0, .int 0, .int 0, .ref Bn2, .ref Bn3, .ref Bn4, .ref Bn5, .int 0, .ref Bn6, .ref Bn7])), (Bn1, .inl (cI, 60, .inl (fun _ => 0))), (Bn2, .inl (cJ, 4608, .inr (.inl fig_2))), (Bn3, .inl (cI, 18, .inl len_3)), (Bn4, .inl (cJ, 520, .inr (.inl (fun _ => 0)))), (Bn5, .inl (cJ, 520, .inr (.inl (fun _ => 0)))), (Bn6, .inl (cI, 10, .inl (fun _ => 0))), (Bn7, .inl (cI, 10, .inl (fun _ => 0)))] → va_S A s.heap H locs → lv_has ls 2 [(1, .int i1_1), (0, .ref Ay)] → W p l e rm_X5_init s m args below meth c H locs 7 5746 Z (F0 m 81 ls []) from
    hLI81_4 _ (0 : Int32) (fun _ => 0) (fun _ => 0) rfl hi _ _ _ hP hD hS (lv_sub hl [0, 1] rfl)
  clear hi hP hD hS hl
  intro N
  induction N using Nat.strongRecOn with
  | ind N ihI81_4 =>
    intro i1_1 fig_2 len_3 hNI81_4 hi H locs ls hP hD hS hl
    have hw := hw i1_1 fig_2 len_3 hi
    refine lv_iload_n hx hb dX5_init_81 rfl (lv_at hl 0 rfl) ?_
    refine lv_iconst (v := 5) hx hb dX5_init_82 (by decide) ?_
    refine lv_icmp_ge (tgt := 102) hx hb dX5_init_83 (by decide) (fun c_9 => ?_) (fun c_9 => ?_)
    · have hw := hw.1 c_9
      exact hret (Bn1, Bn2, Bn3, Bn4, Bn5, Bn6, Bn7, (fun _ => 0), 0, 1, 2, 0, 10, 0, 0, 0, fig_2, len_3, (fun _ => 0), (fun _ => 0), 0, (fun _ => 0), (fun _ => 0)) _ _ _ _ hw (hP.sub [0, 1, 2, 3, 4, 5, 6, 7] rfl) (hD.sub [0, 1, 2, 3, 4, 5, 6, 7] (by decide) rfl) hS dX5_init_102
    · have hw := hw.2 c_9
      refine lv_aload_n hx hb dX5_init_86 rfl (lv_at hl 1 rfl) ?_
      refine lv_iconst (v := 2) hx hb dX5_init_87 (by decide) ?_
      refine lv_iload_n hx hb dX5_init_88 rfl (lv_at hl 0 rfl) ?_
      refine lv_imul hx hb dX5_init_89 ?_
      refine lv_iconst (v := 1) hx hb dX5_init_90 (by decide) ?_
      refine lv_iadd hx hb dX5_init_91 ?_
      refine lv_topi (fun v_5 ev_5 => ?_)
      have hw := hw v_5 ev_5
      refine lv_lconst (v := 1) hx hb dX5_init_92 (by decide) ?_
      refine k_Vv (M_X5_put l G cI cJ Ay Bn1 Bn2 Bn3 Bn4 Bn5 Bn6 Bn7 (fun _ => 0) 0 1 2 0 10 0 0 0 fig_2 len_3 (fun _ => 0) (fun _ => 0) 0 (fun _ => 0) (fun _ => 0) v_5 (1 : Int64) _ hw) ⟨hx, hb, hml, hown, hts⟩ (cwV 2 hts gX5_init_X5_put rfl rfl rfl (by decide +kernel) ⟨Nat.le_of_ble_eq_true rfl, Nat.le_of_ble_eq_true rfl⟩) hK hP hD hS hA [0, 1, 2, 3, 4, 5, 6, 7] [] [0, 1, 2, 3, 4, 5, 6, 7] (wr := []) (wn := fun u : (Nat → Int64) × (Nat → Int32) => [(Ay, .inr (5, [.ref Bn1, .int 0, .int 1, .int 2, .int 0, .int 10, .int 0, .int 0, .int 0, .ref Bn2, .ref Bn3, .ref Bn4, .ref Bn5, .int 0, .ref Bn6, .ref Bn7])), (Bn1, .inl (cI, 60, .inl (fun _ => 0))), (Bn2, .inl (cJ, 4608, .inr (.inl u.1))), (Bn3, .inl (cI, 18, .inl u.2)), (Bn4, .inl (cJ, 520, .inr (.inl (fun _ => 0)))), (Bn5, .inl (cJ, 520, .inr (.inl (fun _ => 0)))), (Bn6, .inl (cI, 10, .inl (fun _ => 0))), (Bn7, .inl (cI, 10, .inl (fun _ => 0)))]) rfl rfl (by decide) (by decide) (by decide) (by decide) (fun _ => rfl) (rest := []) (q0 := 0) rfl rfl rfl hl.1 rfl (Nat.le_of_ble_eq_true rfl) (Nat.le_of_ble_eq_true rfl) (Nat.le_of_ble_eq_true rfl) dX5_init_93 (fun u H locs hw hP hD hS => ?_)
      obtain ⟨fig_6, len_7⟩ := u
      have hP : va_P G vwCl [(Ay, .inr (5, [.ref Bn1, .int 0, .int 1, .int 2, .int 0, .int 10, .int 0, .int 0, .int 0, .ref Bn2, .ref Bn3, .ref Bn4, .ref Bn5, .int 0, .ref Bn6, .ref Bn7])), (Bn1, .inl (cI, 60, .inl (fun _ => 0))), (Bn2, .inl (cJ, 4608, .inr (.inl fig_6))), (Bn3, .inl (cI, 18, .inl len_7)), (Bn4, .inl (cJ, 520, .inr (.inl (fun _ => 0)))), (Bn5, .inl (cJ, 520, .inr (.inl (fun _ => 0)))), (Bn6, .inl (cI, 10, .inl (fun _ => 0))), (Bn7, .inl (cI, 10, .inl (fun _ => 0)))] H := hP
      have hD : va_D A [(Ay, .inr (5, [.ref Bn1, .int 0, .int 1, .int 2, .int 0, .int 10, .int 0, .int 0, .int 0, .ref Bn2, .ref Bn3, .ref Bn4, .ref Bn5, .int 0, .ref Bn6, .ref Bn7])), (Bn1, .inl (cI, 60, .inl (fun _ => 0))), (Bn2, .inl (cJ, 4608, .inr (.inl fig_6))), (Bn3, .inl (cI, 18, .inl len_7)), (Bn4, .inl (cJ, 520, .inr (.inl (fun _ => 0)))), (Bn5, .inl (cJ, 520, .inr (.inl (fun _ => 0)))), (Bn6, .inl (cI, 10, .inl (fun _ => 0))), (Bn7, .inl (cI, 10, .inl (fun _ => 0)))] := hD
      obtain ⟨i1_8, ei1_8⟩ : ∃ y : Int32, y = i1_1 + 1 := ⟨_, rfl⟩
      have hw := hw i1_8 ei1_8
      refine lv_iinc (v := i1_8) (lv' := [(1, .int i1_8), (0, .ref Ay)]) hx hb dX5_init_96 hl (k := 0) rfl (by rw [ei1_8]; rfl) (by decide) rfl (fun ls hl => ?_)
      refine lv_goto (tgt := 81) hx hb dX5_init_99 (by decide) ?_
      exact ihI81_4 _ (by rw [← hNI81_4]; exact hw.2) i1_8 fig_6 len_7 rfl hw.1 _ _ _ hP hD hS (lv_sub hl [0, 1] rfl)
