/-! Natural: predicates and walks (laid by wip/whole/gen.py) -/
def wX1 (cI cJ : ClassId) (Az Bz : Nat) (lz : Nat → Int32) (nz : Int32) : va_W := [(Az, .inr (1, [.ref Bz, .int nz])), (Bz, .inl (cI, 64, .inl lz))]
def wX1X1 (cI cJ : ClassId) (Az Bz Ao Bo : Nat) (lz : Nat → Int32) (nz : Int32) (lo : Nat → Int32) (no : Int32) : va_W := [(Az, .inr (1, [.ref Bz, .int nz])), (Bz, .inl (cI, 64, .inl lz)), (Ao, .inr (1, [.ref Bo, .int no])), (Bo, .inl (cI, 64, .inl lo))]
abbrev rm_X1_append : Room := { frames := 0, cells := 0, slots := 0, locals := 0 }
abbrev rm_X1_become : Room := { frames := 1, cells := 0, slots := 0, locals := 22 }
abbrev rm_X1_limbAt : Room := { frames := 0, cells := 0, slots := 0, locals := 0 }
abbrev rm_X1_trim : Room := { frames := 1, cells := 0, slots := 0, locals := 21 }
abbrev rm_X1_times : Room := { frames := 2, cells := 0, slots := 0, locals := 41 }
abbrev rm_X1_plusTimes : Room := { frames := 2, cells := 0, slots := 0, locals := 41 }
abbrev rm_X1_divideBy : Room := { frames := 2, cells := 0, slots := 0, locals := 41 }
abbrev rm_X1_restBy : Room := { frames := 1, cells := 0, slots := 0, locals := 21 }
abbrev rm_X1_isLess : Room := { frames := 1, cells := 0, slots := 0, locals := 21 }
def w_X1_append (lz : Nat → Int32) (nz : Int32) (p0 : Int64) (Q : (Nat → Int32) → Int32 → Prop) : Prop :=
  ((p0 ≤ 0 →
    Q lz nz
   ) ∧ (¬ p0 ≤ 0 →
    ((nz < 0 →
      Q lz nz
     ) ∧ (¬ nz < 0 →
      ((64 ≤ nz →
        Q lz nz
       ) ∧ (¬ 64 ≤ nz →
        vp_in nz 64 ∧
        ∀ (lz_1 : Nat → Int32), lz_1 = upd lz nz.toNatClampNeg p0.toInt32 →
        ∀ (nz_2 : Int32), nz_2 = nz + 1 →
        Q lz_1 nz_2
       ))
     ))
   ))

def w_X1_become (lz : Nat → Int32) (nz : Int32) (p0 : Int32) (Q : (Nat → Int32) → Int32 → Prop) : Prop :=
  w_X1_append lz 0 p0.toInt64 (fun (lz_1 : Nat → Int32) (nz_2 : Int32) =>
  Q lz_1 nz_2)

def w_X1_limbAt (lz : Nat → Int32) (nz : Int32) (p0 : Int32) (Q : Int32 → Prop) : Prop :=
  ((p0 < 0 →
    Q (0 : Int32)
   ) ∧ (¬ p0 < 0 →
    ((nz ≤ p0 →
      Q (0 : Int32)
     ) ∧ (¬ nz ≤ p0 →
      ((64 ≤ p0 →
        Q (0 : Int32)
       ) ∧ (¬ 64 ≤ p0 →
        vp_in p0 64 ∧
        Q (lz p0.toNatClampNeg)
       ))
     ))
   ))

def w_X1_trim (lz : Nat → Int32) (nz : Int32) (Q : Int32 → Prop) : Prop :=
  ∃ (I0_2 : Int32 → Prop) (μ0_2 : Int32 → Nat), I0_2 nz ∧ ∀ (nz_1 : Int32), I0_2 nz_1 →
    ((nz_1 ≤ 0 →
      Q nz_1
     ) ∧ (¬ nz_1 ≤ 0 →
      w_X1_limbAt lz nz_1 (nz_1 - 1) (fun (r_3 : Int32) =>
      ((¬ r_3 = 0 →
        Q nz_1
       ) ∧ (r_3 = 0 →
        ∀ (nz_4 : Int32), nz_4 = nz_1 - 1 →
        I0_2 nz_4 ∧ μ0_2 nz_4 < μ0_2 nz_1
       )))
     ))

def w_X1_times (lz : Nat → Int32) (nz : Int32) (p0 : Int32) (Q : (Nat → Int32) → Int32 → Prop) : Prop :=
  ∃ (I5_4 : Int32 → Int64 → (Nat → Int32) → Prop) (μ5_4 : Int32 → Int64 → (Nat → Int32) → Nat), I5_4 (0 : Int32) (0 : Int64) lz ∧ ∀ (i4_1 : Int32) (i2_2 : Int64) (lz_3 : Nat → Int32), I5_4 i4_1 i2_2 lz_3 →
    ((nz ≤ i4_1 →
      w_X1_append lz_3 nz i2_2 (fun (lz_5 : Nat → Int32) (nz_6 : Int32) =>
      w_X1_trim lz_5 nz_6 (fun (nz_7 : Int32) =>
      Q lz_5 nz_7))
     ) ∧ (¬ nz ≤ i4_1 →
      ((64 ≤ i4_1 →
        w_X1_append lz_3 nz i2_2 (fun (lz_8 : Nat → Int32) (nz_9 : Int32) =>
        w_X1_trim lz_8 nz_9 (fun (nz_10 : Int32) =>
        Q lz_8 nz_10))
       ) ∧ (¬ 64 ≤ i4_1 →
        vp_in i4_1 64 ∧
        ∀ (v_11 : Int64), v_11 = ((lz_3 i4_1.toNatClampNeg).toInt64) * p0.toInt64 →
        ∀ (i2_12 : Int64), i2_12 = i2_2 + v_11 →
        vp_in i4_1 64 ∧
        ∀ (lz_13 : Nat → Int32), lz_13 = upd lz_3 i4_1.toNatClampNeg ((i2_12 &&& 2147483647).toInt32) →
        ∀ (i2_14 : Int64), i2_14 = i2_12 >>> ((31 : Int32).toInt64 &&& 63) →
        ∀ (i4_15 : Int32), i4_15 = i4_1 + 1 →
        I5_4 i4_15 i2_14 lz_13 ∧ μ5_4 i4_15 i2_14 lz_13 < μ5_4 i4_1 i2_2 lz_3
       ))
     ))

def w_X1_plusTimes (lz : Nat → Int32) (nz : Int32) (lo : Nat → Int32) (no : Int32) (p1 : Int32) (Q : (Nat → Int32) → Int32 → Prop) : Prop :=
  ∃ (J22_2 : Int32 → Prop), (
    ((nz ≤ no →
      J22_2 no
     ) ∧ (¬ nz ≤ no →
      J22_2 nz
     ))
   ) ∧ (∀ (t_1 : Int32), J22_2 t_1 →
    ∃ (I29_7 : Int32 → Int64 → (Nat → Int32) → Prop) (μ29_7 : Int32 → Int64 → (Nat → Int32) → Nat), I29_7 (0 : Int32) (0 : Int64) lz ∧ ∀ (i6_4 : Int32) (i4_5 : Int64) (lz_6 : Nat → Int32), I29_7 i6_4 i4_5 lz_6 →
      ((t_1 ≤ i6_4 →
        w_X1_append lz_6 t_1 i4_5 (fun (lz_8 : Nat → Int32) (nz_9 : Int32) =>
        w_X1_trim lz_8 nz_9 (fun (nz_10 : Int32) =>
        Q lz_8 nz_10))
       ) ∧ (¬ t_1 ≤ i6_4 →
        ((64 ≤ i6_4 →
          w_X1_append lz_6 t_1 i4_5 (fun (lz_11 : Nat → Int32) (nz_12 : Int32) =>
          w_X1_trim lz_11 nz_12 (fun (nz_13 : Int32) =>
          Q lz_11 nz_13))
         ) ∧ (¬ 64 ≤ i6_4 →
          w_X1_limbAt lz_6 nz i6_4 (fun (r_14 : Int32) =>
          w_X1_limbAt lo no i6_4 (fun (r_15 : Int32) =>
          ∀ (v_16 : Int64), v_16 = r_14.toInt64 + (r_15.toInt64 * p1.toInt64) →
          ∀ (i4_17 : Int64), i4_17 = i4_5 + v_16 →
          vp_in i6_4 64 ∧
          ∀ (lz_18 : Nat → Int32), lz_18 = upd lz_6 i6_4.toNatClampNeg ((i4_17 &&& 2147483647).toInt32) →
          ∀ (i4_19 : Int64), i4_19 = i4_17 >>> ((31 : Int32).toInt64 &&& 63) →
          ∀ (i6_20 : Int32), i6_20 = i6_4 + 1 →
          I29_7 i6_20 i4_19 lz_18 ∧ μ29_7 i6_20 i4_19 lz_18 < μ29_7 i6_4 i4_5 lz_6))
         ))
       ))
   )

def w_X1_divideBy (lz : Nat → Int32) (nz : Int32) (p0 : Int32) (Q : (Nat → Int32) → Int32 → Prop) : Prop :=
  ((1 ≤ p0 →
    ∀ (i4_1 : Int32), i4_1 = nz - 1 →
    ∃ (I16_5 : Int32 → Int64 → (Nat → Int32) → Prop) (μ16_5 : Int32 → Int64 → (Nat → Int32) → Nat), I16_5 i4_1 (0 : Int64) lz ∧ ∀ (i4_2 : Int32) (i2_3 : Int64) (lz_4 : Nat → Int32), I16_5 i4_2 i2_3 lz_4 →
      ((i4_2 < 0 →
        w_X1_trim lz_4 nz (fun (nz_6 : Int32) =>
        Q lz_4 nz_6)
       ) ∧ (¬ i4_2 < 0 →
        ((64 ≤ i4_2 →
          w_X1_trim lz_4 nz (fun (nz_7 : Int32) =>
          Q lz_4 nz_7)
         ) ∧ (¬ 64 ≤ i4_2 →
          vp_in i4_2 64 ∧
          ∀ (v_8 : Int64), v_8 = (i2_3 <<< ((31 : Int32).toInt64 &&& 63)) + ((lz_4 i4_2.toNatClampNeg).toInt64) →
          ¬ p0.toInt64 = 0 ∧
          ∀ (v_9 : Int64), v_9 = v_8 / p0.toInt64 →
          vp_in i4_2 64 ∧
          ∀ (lz_10 : Nat → Int32), lz_10 = upd lz_4 i4_2.toNatClampNeg v_9.toInt32 →
          ¬ p0.toInt64 = 0 ∧
          ∀ (v_11 : Int64), v_11 = v_8 - v_8 / p0.toInt64 * p0.toInt64 →
          ∀ (i4_12 : Int32), i4_12 = i4_2 + (-1) →
          I16_5 i4_12 v_11 lz_10 ∧ μ16_5 i4_12 v_11 lz_10 < μ16_5 i4_2 i2_3 lz_4
         ))
       ))
   ) ∧ (¬ 1 ≤ p0 →
    Q lz nz
   ))

def w_X1_restBy (lz : Nat → Int32) (nz : Int32) (p0 : Int32) (Q : Int32 → Prop) : Prop :=
  ((1 ≤ p0 →
    ∀ (i4_1 : Int32), i4_1 = nz - 1 →
    ∃ (I17_4 : Int32 → Int64 → Prop) (μ17_4 : Int32 → Int64 → Nat), I17_4 i4_1 (0 : Int64) ∧ ∀ (i4_2 : Int32) (i2_3 : Int64), I17_4 i4_2 i2_3 →
      ((i4_2 < 0 →
        Q i2_3.toInt32
       ) ∧ (¬ i4_2 < 0 →
        w_X1_limbAt lz nz i4_2 (fun (r_5 : Int32) =>
        ∀ (v_6 : Int64), v_6 = (i2_3 <<< ((31 : Int32).toInt64 &&& 63)) + r_5.toInt64 →
        ¬ p0.toInt64 = 0 ∧
        ∀ (v_7 : Int64), v_7 = v_6 - v_6 / p0.toInt64 * p0.toInt64 →
        ∀ (i4_8 : Int32), i4_8 = i4_2 + (-1) →
        I17_4 i4_8 v_7 ∧ μ17_4 i4_8 v_7 < μ17_4 i4_2 i2_3)
       ))
   ) ∧ (¬ 1 ≤ p0 →
    Q (0 : Int32)
   ))

def w_X1_isLess (lz : Nat → Int32) (nz : Int32) (lo : Nat → Int32) (no : Int32) (p1 : Int32) (p3 : Int32) (Q : Int32 → Prop) : Prop :=
  ∃ (J22_2 : Int32 → Prop), (
    ((nz ≤ no →
      J22_2 no
     ) ∧ (¬ nz ≤ no →
      J22_2 nz
     ))
   ) ∧ (∀ (t_1 : Int32), J22_2 t_1 →
    ∃ (I30_6 : Int32 → Int64 → Prop) (μ30_6 : Int32 → Int64 → Nat), I30_6 (0 : Int32) (0 : Int64) ∧ ∀ (i7_4 : Int32) (i5_5 : Int64), I30_6 i7_4 i5_5 →
      ((t_1 ≤ i7_4 →
        ((0 ≤ i5_5 →
          Q (0 : Int32)
         ) ∧ (¬ 0 ≤ i5_5 →
          Q (1 : Int32)
         ))
       ) ∧ (¬ t_1 ≤ i7_4 →
        w_X1_limbAt lz nz i7_4 (fun (r_8 : Int32) =>
        w_X1_limbAt lo no i7_4 (fun (r_9 : Int32) =>
        ∀ (v_10 : Int64), v_10 = (r_8.toInt64 * p1.toInt64) - (r_9.toInt64 * p3.toInt64) →
        ∀ (i5_11 : Int64), i5_11 = i5_5 + v_10 →
        ∀ (i5_12 : Int64), i5_12 = i5_11 >>> ((31 : Int32).toInt64 &&& 63) →
        ∀ (i7_13 : Int32), i7_13 = i7_4 + 1 →
        I30_6 i7_13 i5_12 ∧ μ30_6 i7_13 i5_12 < μ30_6 i7_4 i5_5))
       ))
   )

theorem fX1_append_13 : Cond.fieldLink RX1 13 "PrivateCounts$Natural" "size" "I" ∈ wsX1_append := by decide +kernel
theorem uX1_append_X1 : ∀ w ∈ u_ws RX1 TX1 2, w ∈ wsX1_append := by decide +kernel
theorem fX1_append_9 : Cond.fieldLink RX1 9 "PrivateCounts$Natural" "limbs" "[I" ∈ wsX1_append := by decide +kernel
set_option maxHeartbeats 4000000 in
set_option maxRecDepth 100000 in
theorem M_X1_append (l : Launch) (G : va_G) (cI cJ : ClassId) (Az Bz : Nat) (lz : Nat → Int32) (nz : Int32) (p0 : Int64) (Q : (Nat → Int32) → Int32 → Prop) (hw : w_X1_append lz nz p0 Q) : Kv l yX1_append wsX1_append rm_X1_append G cI cJ [.ref Az, .long p0] (wX1 cI cJ Az Bz lz nz) (fun (u : (Nat → Int32) × (Int32)) => Q u.1 u.2) (fun u => (wX1 cI cJ Az Bz u.1 u.2)) := by
  refine kv_intro (cc := cX1_append) (maxL := 3) rfl rfl (by decide) rfl (Nat.le_of_ble_eq_true rfl) ?_
  intro p e s m args below meth c A Z ls hx hb hml hts hown hP hK hD hS hA hl hret
  have hl : lv_has ls 3 [(0, .ref Az), (1, .long p0)] := hl
  unfold w_X1_append at hw
  refine lv_lload_n hx hb dX1_append_0 rfl (lv_at hl 1 rfl) ?_
  refine lv_lconst (v := 0) hx hb dX1_append_1 (by decide) ?_
  refine k_lif_le (tgt := 46) hx hb dX1_append_2 dX1_append_3 (by decide) (fun c_5 => ?_) (fun c_5 => ?_)
  · have hw := hw.1 c_5
    exact hret (lz, nz) _ _ _ _ hw hP hD hS dX1_append_46
  · have hw := hw.2 c_5
    refine lv_aload_n hx hb dX1_append_6 rfl (lv_at hl 0 rfl) ?_
    refine k_get hx hb hts uX1_append_X1 hown hK hP 0 1 rfl rfl 1 (by decide) fX1_append_13 (.int nz) rfl dX1_append_7 ?_
    refine lv_if_lt (tgt := 46) hx hb dX1_append_10 (by decide) (fun c_4 => ?_) (fun c_4 => ?_)
    · have hw := hw.1 c_4
      exact hret (lz, nz) _ _ _ _ hw hP hD hS dX1_append_46
    · have hw := hw.2 c_4
      refine lv_aload_n hx hb dX1_append_13 rfl (lv_at hl 0 rfl) ?_
      refine k_get hx hb hts uX1_append_X1 hown hK hP 0 1 rfl rfl 1 (by decide) fX1_append_13 (.int nz) rfl dX1_append_14 ?_
      refine lv_aload_n hx hb dX1_append_17 rfl (lv_at hl 0 rfl) ?_
      refine k_get hx hb hts uX1_append_X1 hown hK hP 0 1 rfl rfl 0 (by decide) fX1_append_9 (.ref Bz) rfl dX1_append_18 ?_
      refine k_alen hx hb hK hP 1 rfl 64 rfl dX1_append_21 ?_
      refine lv_icmp_ge (tgt := 46) hx hb dX1_append_22 (by decide) (fun c_3 => ?_) (fun c_3 => ?_)
      · have hw := hw.1 c_3
        exact hret (lz, nz) _ _ _ _ hw hP hD hS dX1_append_46
      · have hw := hw.2 c_3
        refine lv_aload_n hx hb dX1_append_25 rfl (lv_at hl 0 rfl) ?_
        refine k_get hx hb hts uX1_append_X1 hown hK hP 0 1 rfl rfl 0 (by decide) fX1_append_9 (.ref Bz) rfl dX1_append_26 ?_
        refine lv_aload_n hx hb dX1_append_29 rfl (lv_at hl 0 rfl) ?_
        refine k_get hx hb hts uX1_append_X1 hown hK hP 0 1 rfl rfl 1 (by decide) fX1_append_13 (.int nz) rfl dX1_append_30 ?_
        refine lv_lload_n hx hb dX1_append_33 rfl (lv_at hl 1 rfl) ?_
        refine lv_l2i (v := p0.toInt32) hx hb dX1_append_34 rfl ?_
        obtain ⟨hin, hw⟩ := hw
        refine k_iast hx hb hK hP hD hS 1 rfl hin (w' := fun g => (wX1 cI cJ Az Bz g nz)) (fun _ => rfl) dX1_append_35 (fun lz_1 elz_1 H locs hP hD hS => ?_)
        have hw := hw lz_1 elz_1
        refine lv_aload_n hx hb dX1_append_36 rfl (lv_at hl 0 rfl) ?_
        refine lv_dup hx hb dX1_append_37 rfl ?_
        refine k_get hx hb hts uX1_append_X1 hown hK hP 0 1 rfl rfl 1 (by decide) fX1_append_13 (.int nz) rfl dX1_append_38 ?_
        refine lv_iconst (v := 1) hx hb dX1_append_41 (by decide) ?_
        refine lv_iadd hx hb dX1_append_42 ?_
        refine lv_topi (fun nz_2 enz_2 => ?_)
        have hw := hw nz_2 enz_2
        refine k_put hx hb hts uX1_append_X1 tyX1 tyX1_ok nmX1 hown hK hP hD hS 0 1 rfl rfl 1 (by decide) fX1_append_13 rfl rfl rfl (Nat.le_of_ble_eq_true rfl) (w' := (wX1 cI cJ Az Bz lz_1 nz_2)) rfl dX1_append_43 (fun H locs hP hD hS => ?_)
        exact hret (lz_1, nz_2) _ _ _ _ hw hP hD hS dX1_append_46
theorem fX1_become_13 : Cond.fieldLink RX1 13 "PrivateCounts$Natural" "size" "I" ∈ wsX1_become := by decide +kernel
theorem uX1_become_X1 : ∀ w ∈ u_ws RX1 TX1 2, w ∈ wsX1_become := by decide +kernel
set_option maxHeartbeats 4000000 in
set_option maxRecDepth 100000 in
theorem M_X1_become (l : Launch) (G : va_G) (cI cJ : ClassId) (Az Bz : Nat) (lz : Nat → Int32) (nz : Int32) (p0 : Int32) (Q : (Nat → Int32) → Int32 → Prop) (hw : w_X1_become lz nz p0 Q) : Kv l yX1_become wsX1_become rm_X1_become G cI cJ [.ref Az, .int p0] (wX1 cI cJ Az Bz lz nz) (fun (u : (Nat → Int32) × (Int32)) => Q u.1 u.2) (fun u => (wX1 cI cJ Az Bz u.1 u.2)) := by
  refine kv_intro (cc := cX1_become) (maxL := 2) rfl rfl (by decide) rfl (Nat.le_of_ble_eq_true rfl) ?_
  intro p e s m args below meth c A Z ls hx hb hml hts hown hP hK hD hS hA hl hret
  have hl : lv_has ls 2 [(0, .ref Az), (1, .int p0)] := hl
  unfold w_X1_become at hw
  refine lv_aload_n hx hb dX1_become_0 rfl (lv_at hl 0 rfl) ?_
  refine lv_iconst (v := 0) hx hb dX1_become_1 (by decide) ?_
  refine k_put hx hb hts uX1_become_X1 tyX1 tyX1_ok nmX1 hown hK hP hD hS 0 1 rfl rfl 1 (by decide) fX1_become_13 rfl rfl rfl (Nat.le_of_ble_eq_true rfl) (w' := (wX1 cI cJ Az Bz lz 0)) rfl dX1_become_2 (fun H locs hP hD hS => ?_)
  refine lv_aload_n hx hb dX1_become_5 rfl (lv_at hl 0 rfl) ?_
  refine lv_iload_n hx hb dX1_become_6 rfl (lv_at hl 1 rfl) ?_
  refine lv_i2l (v := p0.toInt64) hx hb dX1_become_7 rfl ?_
  refine k_Vv (M_X1_append l G cI cJ Az Bz lz 0 p0.toInt64 _ hw) ⟨hx, hb, hml, hown, hts⟩ (cwV 1 hts gX1_become_X1_append rfl rfl rfl (by decide +kernel) ⟨Nat.le_of_ble_eq_true rfl, Nat.le_of_ble_eq_true rfl⟩) hK hP hD hS hA [0, 1] [] [0, 1] (wr := []) (wn := fun u : (Nat → Int32) × (Int32) => (wX1 cI cJ Az Bz u.1 u.2)) rfl rfl (by decide) (by decide) (by decide) (by decide) (fun _ => rfl) (rest := []) (q0 := 0) rfl rfl rfl hl.1 rfl (Nat.le_of_ble_eq_true rfl) (Nat.zero_le _) (Nat.zero_le _) dX1_become_8 (fun u H locs hw hP hD hS => ?_)
  obtain ⟨lz_1, nz_2⟩ := u
  have hP : va_P G vwCl (wX1 cI cJ Az Bz lz_1 nz_2) H := hP
  have hD : va_D A (wX1 cI cJ Az Bz lz_1 nz_2) := hD
  exact hret (lz_1, nz_2) _ _ _ _ hw hP hD hS dX1_become_11
theorem fX1_limbAt_13 : Cond.fieldLink RX1 13 "PrivateCounts$Natural" "size" "I" ∈ wsX1_limbAt := by decide +kernel
theorem uX1_limbAt_X1 : ∀ w ∈ u_ws RX1 TX1 2, w ∈ wsX1_limbAt := by decide +kernel
theorem fX1_limbAt_9 : Cond.fieldLink RX1 9 "PrivateCounts$Natural" "limbs" "[I" ∈ wsX1_limbAt := by decide +kernel
set_option maxHeartbeats 4000000 in
set_option maxRecDepth 100000 in
theorem M_X1_limbAt (l : Launch) (G : va_G) (cI cJ : ClassId) (Az Bz : Nat) (lz : Nat → Int32) (nz : Int32) (p0 : Int32) (Q : Int32 → Prop) (hw : w_X1_limbAt lz nz p0 Q) : Ki l yX1_limbAt wsX1_limbAt rm_X1_limbAt G cI cJ [.ref Az, .int p0] (wX1 cI cJ Az Bz lz nz) (fun (r : Int32) (u : Unit) => Q r) (fun u => (wX1 cI cJ Az Bz lz nz)) := by
  refine ki_intro (cc := cX1_limbAt) (maxL := 2) rfl rfl (by decide) rfl (Nat.le_of_ble_eq_true rfl) ?_
  intro p e s m args below meth c A Z ls hx hb hml hts hown hP hK hD hS hA hl hret
  have hl : lv_has ls 2 [(0, .ref Az), (1, .int p0)] := hl
  unfold w_X1_limbAt at hw
  refine lv_iload_n hx hb dX1_limbAt_0 rfl (lv_at hl 1 rfl) ?_
  refine lv_if_lt (tgt := 30) hx hb dX1_limbAt_1 (by decide) (fun c_3 => ?_) (fun c_3 => ?_)
  · have hw := hw.1 c_3
    refine lv_iconst (v := 0) hx hb dX1_limbAt_30 (by decide) ?_
    exact hret _ () _ _ _ _ hw hP hD hS dX1_limbAt_31
  · have hw := hw.2 c_3
    refine lv_iload_n hx hb dX1_limbAt_4 rfl (lv_at hl 1 rfl) ?_
    refine lv_aload_n hx hb dX1_limbAt_5 rfl (lv_at hl 0 rfl) ?_
    refine k_get hx hb hts uX1_limbAt_X1 hown hK hP 0 1 rfl rfl 1 (by decide) fX1_limbAt_13 (.int nz) rfl dX1_limbAt_6 ?_
    refine lv_icmp_ge (tgt := 30) hx hb dX1_limbAt_9 (by decide) (fun c_2 => ?_) (fun c_2 => ?_)
    · have hw := hw.1 c_2
      refine lv_iconst (v := 0) hx hb dX1_limbAt_30 (by decide) ?_
      exact hret _ () _ _ _ _ hw hP hD hS dX1_limbAt_31
    · have hw := hw.2 c_2
      refine lv_iload_n hx hb dX1_limbAt_12 rfl (lv_at hl 1 rfl) ?_
      refine lv_aload_n hx hb dX1_limbAt_13 rfl (lv_at hl 0 rfl) ?_
      refine k_get hx hb hts uX1_limbAt_X1 hown hK hP 0 1 rfl rfl 0 (by decide) fX1_limbAt_9 (.ref Bz) rfl dX1_limbAt_14 ?_
      refine k_alen hx hb hK hP 1 rfl 64 rfl dX1_limbAt_17 ?_
      refine lv_icmp_ge (tgt := 30) hx hb dX1_limbAt_18 (by decide) (fun c_1 => ?_) (fun c_1 => ?_)
      · have hw := hw.1 c_1
        refine lv_iconst (v := 0) hx hb dX1_limbAt_30 (by decide) ?_
        exact hret _ () _ _ _ _ hw hP hD hS dX1_limbAt_31
      · have hw := hw.2 c_1
        refine lv_aload_n hx hb dX1_limbAt_21 rfl (lv_at hl 0 rfl) ?_
        refine k_get hx hb hts uX1_limbAt_X1 hown hK hP 0 1 rfl rfl 0 (by decide) fX1_limbAt_9 (.ref Bz) rfl dX1_limbAt_22 ?_
        refine lv_iload_n hx hb dX1_limbAt_25 rfl (lv_at hl 1 rfl) ?_
        obtain ⟨hin, hw⟩ := hw
        refine k_iald hx hb hK hP 1 rfl hin dX1_limbAt_26 ?_
        refine lv_goto (tgt := 31) hx hb dX1_limbAt_27 (by decide) ?_
        exact hret _ () _ _ _ _ hw hP hD hS dX1_limbAt_31
theorem fX1_trim_13 : Cond.fieldLink RX1 13 "PrivateCounts$Natural" "size" "I" ∈ wsX1_trim := by decide +kernel
theorem uX1_trim_X1 : ∀ w ∈ u_ws RX1 TX1 2, w ∈ wsX1_trim := by decide +kernel
set_option maxHeartbeats 4000000 in
set_option maxRecDepth 100000 in
theorem M_X1_trim (l : Launch) (G : va_G) (cI cJ : ClassId) (Az Bz : Nat) (lz : Nat → Int32) (nz : Int32) (Q : Int32 → Prop) (hw : w_X1_trim lz nz Q) : Kv l yX1_trim wsX1_trim rm_X1_trim G cI cJ [.ref Az] (wX1 cI cJ Az Bz lz nz) (fun (u : (Int32)) => Q u) (fun u => (wX1 cI cJ Az Bz lz u)) := by
  refine kv_intro (cc := cX1_trim) (maxL := 1) rfl rfl (by decide) rfl (Nat.le_of_ble_eq_true rfl) ?_
  intro p e s m args below meth c A Z ls hx hb hml hts hown hP hK hD hS hA hl hret
  have hl : lv_has ls 1 [(0, .ref Az)] := hl
  unfold w_X1_trim at hw
  obtain ⟨I0_2, μ0_2, hi, hw⟩ := hw
  suffices hLI0_2 : ∀ (N : Nat) (nz_1 : Int32) (_ : μ0_2 nz_1 = N) (_ : I0_2 nz_1) (H : Heap) (locs : List Loc) (ls : Array Slot), va_P G vwCl (wX1 cI cJ Az Bz lz nz_1) H → va_D A (wX1 cI cJ Az Bz lz nz_1) → va_S A s.heap H locs → lv_has ls 1 [(0, .ref Az)] → W p l e rm_X1_trim s m args below meth c H locs 0 0 Z (F0 m 0 ls []) from
    hLI0_2 _ nz rfl hi _ _ _ hP hD hS (lv_sub hl [0] rfl)
  clear hi hP hD hS hl
  intro N
  induction N using Nat.strongRecOn with
  | ind N ihI0_2 =>
    intro nz_1 hNI0_2 hi H locs ls hP hD hS hl
    have hw := hw nz_1 hi
    refine lv_aload_n hx hb dX1_trim_0 rfl (lv_at hl 0 rfl) ?_
    refine k_get hx hb hts uX1_trim_X1 hown hK hP 0 1 rfl rfl 1 (by decide) fX1_trim_13 (.int nz_1) rfl dX1_trim_1 ?_
    refine lv_if_le (tgt := 33) hx hb dX1_trim_4 (by decide) (fun c_6 => ?_) (fun c_6 => ?_)
    · have hw := hw.1 c_6
      exact hret nz_1 _ _ _ _ hw hP hD hS dX1_trim_33
    · have hw := hw.2 c_6
      refine lv_aload_n hx hb dX1_trim_7 rfl (lv_at hl 0 rfl) ?_
      refine lv_aload_n hx hb dX1_trim_8 rfl (lv_at hl 0 rfl) ?_
      refine k_get hx hb hts uX1_trim_X1 hown hK hP 0 1 rfl rfl 1 (by decide) fX1_trim_13 (.int nz_1) rfl dX1_trim_9 ?_
      refine lv_iconst (v := 1) hx hb dX1_trim_12 (by decide) ?_
      refine lv_isub hx hb dX1_trim_13 ?_
      refine k_Vi (M_X1_limbAt l G cI cJ Az Bz lz nz_1 (nz_1 - 1) _ hw) ⟨hx, hb, hml, hown, hts⟩ (cwV 1 hts gX1_trim_X1_limbAt rfl rfl rfl (by decide +kernel) ⟨Nat.le_of_ble_eq_true rfl, Nat.le_of_ble_eq_true rfl⟩) hK hP hD hS hA [0, 1] [] [0, 1] (wr := []) (wn := fun u : Unit => (wX1 cI cJ Az Bz lz nz_1)) rfl rfl (by decide) (by decide) (by decide) (by decide) (fun _ => rfl) (rest := []) (q0 := 0) rfl rfl rfl hl.1 rfl (Nat.le_of_ble_eq_true rfl) (Nat.zero_le _) (Nat.zero_le _) dX1_trim_14 (fun r_3 u H locs hw hP hD hS => ?_)
      refine lv_if_ne (tgt := 33) hx hb dX1_trim_17 (by decide) (fun c_5 => ?_) (fun c_5 => ?_)
      · have hw := hw.1 c_5
        exact hret nz_1 _ _ _ _ hw hP hD hS dX1_trim_33
      · have hw := hw.2 c_5
        refine lv_aload_n hx hb dX1_trim_20 rfl (lv_at hl 0 rfl) ?_
        refine lv_dup hx hb dX1_trim_21 rfl ?_
        refine k_get hx hb hts uX1_trim_X1 hown hK hP 0 1 rfl rfl 1 (by decide) fX1_trim_13 (.int nz_1) rfl dX1_trim_22 ?_
        refine lv_iconst (v := 1) hx hb dX1_trim_25 (by decide) ?_
        refine lv_isub hx hb dX1_trim_26 ?_
        refine lv_topi (fun nz_4 enz_4 => ?_)
        have hw := hw nz_4 enz_4
        refine k_put hx hb hts uX1_trim_X1 tyX1 tyX1_ok nmX1 hown hK hP hD hS 0 1 rfl rfl 1 (by decide) fX1_trim_13 rfl rfl rfl (Nat.le_of_ble_eq_true rfl) (w' := (wX1 cI cJ Az Bz lz nz_4)) rfl dX1_trim_27 (fun H locs hP hD hS => ?_)
        refine lv_goto (tgt := 0) hx hb dX1_trim_30 (by decide) ?_
        exact ihI0_2 _ (by rw [← hNI0_2]; exact hw.2) nz_4 rfl hw.1 _ _ _ hP hD hS (lv_sub hl [0] rfl)
theorem fX1_times_13 : Cond.fieldLink RX1 13 "PrivateCounts$Natural" "size" "I" ∈ wsX1_times := by decide +kernel
theorem uX1_times_X1 : ∀ w ∈ u_ws RX1 TX1 2, w ∈ wsX1_times := by decide +kernel
theorem fX1_times_9 : Cond.fieldLink RX1 9 "PrivateCounts$Natural" "limbs" "[I" ∈ wsX1_times := by decide +kernel
theorem fX1_times_21 : Cond.constantLong RX1 21 (2147483647) ∈ wsX1_times := by decide +kernel
set_option maxHeartbeats 4000000 in
set_option maxRecDepth 100000 in
theorem M_X1_times (l : Launch) (G : va_G) (cI cJ : ClassId) (Az Bz : Nat) (lz : Nat → Int32) (nz : Int32) (p0 : Int32) (Q : (Nat → Int32) → Int32 → Prop) (hw : w_X1_times lz nz p0 Q) : Kv l yX1_times wsX1_times rm_X1_times G cI cJ [.ref Az, .int p0] (wX1 cI cJ Az Bz lz nz) (fun (u : (Nat → Int32) × (Int32)) => Q u.1 u.2) (fun u => (wX1 cI cJ Az Bz u.1 u.2)) := by
  refine kv_intro (cc := cX1_times) (maxL := 5) rfl rfl (by decide) rfl (Nat.le_of_ble_eq_true rfl) ?_
  intro p e s m args below meth c A Z ls hx hb hml hts hown hP hK hD hS hA hl hret
  have hl : lv_has ls 5 [(0, .ref Az), (1, .int p0)] := hl
  unfold w_X1_times at hw
  refine lv_lconst (v := 0) hx hb dX1_times_0 (by decide) ?_
  refine lv_lstore_n (lv' := [(2, .long 0), (0, .ref Az), (1, .int p0)]) hx hb dX1_times_1 rfl hl (by decide) rfl (fun ls hl => ?_)
  refine lv_iconst (v := 0) hx hb dX1_times_2 (by decide) ?_
  refine lv_istore (lv' := [(4, .int 0), (2, .long 0), (0, .ref Az), (1, .int p0)]) hx hb dX1_times_3 hl (by decide) rfl (fun ls hl => ?_)
  obtain ⟨I5_4, μ5_4, hi, hw⟩ := hw
  suffices hLI5_4 : ∀ (N : Nat) (i4_1 : Int32) (i2_2 : Int64) (lz_3 : Nat → Int32) (_ : μ5_4 i4_1 i2_2 lz_3 = N) (_ : I5_4 i4_1 i2_2 lz_3) (H : Heap) (locs : List Loc) (ls : Array Slot), va_P G vwCl (wX1 cI cJ Az Bz lz_3 nz) H → va_D A (wX1 cI cJ Az Bz lz_3 nz) → va_S A s.heap H locs → lv_has ls 5 [(4, .int i4_1), (2, .long i2_2), (0, .ref Az), (1, .int p0)] → W p l e rm_X1_times s m args below meth c H locs 0 0 Z (F0 m 5 ls []) from
    hLI5_4 _ (0 : Int32) (0 : Int64) lz rfl hi _ _ _ hP hD hS (lv_sub hl [0, 1, 2, 3] rfl)
  clear hi hP hD hS hl
  intro N
  induction N using Nat.strongRecOn with
  | ind N ihI5_4 =>
    intro i4_1 i2_2 lz_3 hNI5_4 hi H locs ls hP hD hS hl
    have hw := hw i4_1 i2_2 lz_3 hi
    refine lv_iload hx hb dX1_times_5 (lv_at hl 0 rfl) ?_
    refine lv_aload_n hx hb dX1_times_7 rfl (lv_at hl 2 rfl) ?_
    refine k_get hx hb hts uX1_times_X1 hown hK hP 0 1 rfl rfl 1 (by decide) fX1_times_13 (.int nz) rfl dX1_times_8 ?_
    refine lv_icmp_ge (tgt := 62) hx hb dX1_times_11 (by decide) (fun c_17 => ?_) (fun c_17 => ?_)
    · have hw := hw.1 c_17
      refine lv_aload_n hx hb dX1_times_62 rfl (lv_at hl 2 rfl) ?_
      refine lv_lload_n hx hb dX1_times_63 rfl (lv_at hl 1 rfl) ?_
      refine k_Vv (M_X1_append l G cI cJ Az Bz lz_3 nz i2_2 _ hw) ⟨hx, hb, hml, hown, hts⟩ (cwV 1 hts gX1_times_X1_append rfl rfl rfl (by decide +kernel) ⟨Nat.le_of_ble_eq_true rfl, Nat.le_of_ble_eq_true rfl⟩) hK hP hD hS hA [0, 1] [] [0, 1] (wr := []) (wn := fun u : (Nat → Int32) × (Int32) => (wX1 cI cJ Az Bz u.1 u.2)) rfl rfl (by decide) (by decide) (by decide) (by decide) (fun _ => rfl) (rest := []) (q0 := 0) rfl rfl rfl hl.1 rfl (Nat.le_of_ble_eq_true rfl) (Nat.zero_le _) (Nat.zero_le _) dX1_times_64 (fun u H locs hw hP hD hS => ?_)
      obtain ⟨lz_5, nz_6⟩ := u
      have hP : va_P G vwCl (wX1 cI cJ Az Bz lz_5 nz_6) H := hP
      have hD : va_D A (wX1 cI cJ Az Bz lz_5 nz_6) := hD
      refine lv_aload_n hx hb dX1_times_67 rfl (lv_at hl 2 rfl) ?_
      refine k_Vv (M_X1_trim l G cI cJ Az Bz lz_5 nz_6 _ hw) ⟨hx, hb, hml, hown, hts⟩ (cwV 0 hts gX1_times_X1_trim rfl rfl rfl (by decide +kernel) ⟨Nat.le_of_ble_eq_true rfl, Nat.le_of_ble_eq_true rfl⟩) hK hP hD hS hA [0, 1] [] [0, 1] (wr := []) (wn := fun u : (Int32) => (wX1 cI cJ Az Bz lz_5 u)) rfl rfl (by decide) (by decide) (by decide) (by decide) (fun _ => rfl) (rest := []) (q0 := 0) rfl rfl rfl hl.1 rfl (Nat.le_of_ble_eq_true rfl) (Nat.zero_le _) (Nat.zero_le _) dX1_times_68 (fun u H locs hw hP hD hS => ?_)
      obtain ⟨nz_7, rfl⟩ : ∃ z, z = u := ⟨_, rfl⟩
      have hP : va_P G vwCl (wX1 cI cJ Az Bz lz_5 nz_7) H := hP
      have hD : va_D A (wX1 cI cJ Az Bz lz_5 nz_7) := hD
      exact hret (lz_5, nz_7) _ _ _ _ hw hP hD hS dX1_times_71
    · have hw := hw.2 c_17
      refine lv_iload hx hb dX1_times_14 (lv_at hl 0 rfl) ?_
      refine lv_aload_n hx hb dX1_times_16 rfl (lv_at hl 2 rfl) ?_
      refine k_get hx hb hts uX1_times_X1 hown hK hP 0 1 rfl rfl 0 (by decide) fX1_times_9 (.ref Bz) rfl dX1_times_17 ?_
      refine k_alen hx hb hK hP 1 rfl 64 rfl dX1_times_20 ?_
      refine lv_icmp_ge (tgt := 62) hx hb dX1_times_21 (by decide) (fun c_16 => ?_) (fun c_16 => ?_)
      · have hw := hw.1 c_16
        refine lv_aload_n hx hb dX1_times_62 rfl (lv_at hl 2 rfl) ?_
        refine lv_lload_n hx hb dX1_times_63 rfl (lv_at hl 1 rfl) ?_
        refine k_Vv (M_X1_append l G cI cJ Az Bz lz_3 nz i2_2 _ hw) ⟨hx, hb, hml, hown, hts⟩ (cwV 1 hts gX1_times_X1_append rfl rfl rfl (by decide +kernel) ⟨Nat.le_of_ble_eq_true rfl, Nat.le_of_ble_eq_true rfl⟩) hK hP hD hS hA [0, 1] [] [0, 1] (wr := []) (wn := fun u : (Nat → Int32) × (Int32) => (wX1 cI cJ Az Bz u.1 u.2)) rfl rfl (by decide) (by decide) (by decide) (by decide) (fun _ => rfl) (rest := []) (q0 := 0) rfl rfl rfl hl.1 rfl (Nat.le_of_ble_eq_true rfl) (Nat.zero_le _) (Nat.zero_le _) dX1_times_64 (fun u H locs hw hP hD hS => ?_)
        obtain ⟨lz_8, nz_9⟩ := u
        have hP : va_P G vwCl (wX1 cI cJ Az Bz lz_8 nz_9) H := hP
        have hD : va_D A (wX1 cI cJ Az Bz lz_8 nz_9) := hD
        refine lv_aload_n hx hb dX1_times_67 rfl (lv_at hl 2 rfl) ?_
        refine k_Vv (M_X1_trim l G cI cJ Az Bz lz_8 nz_9 _ hw) ⟨hx, hb, hml, hown, hts⟩ (cwV 0 hts gX1_times_X1_trim rfl rfl rfl (by decide +kernel) ⟨Nat.le_of_ble_eq_true rfl, Nat.le_of_ble_eq_true rfl⟩) hK hP hD hS hA [0, 1] [] [0, 1] (wr := []) (wn := fun u : (Int32) => (wX1 cI cJ Az Bz lz_8 u)) rfl rfl (by decide) (by decide) (by decide) (by decide) (fun _ => rfl) (rest := []) (q0 := 0) rfl rfl rfl hl.1 rfl (Nat.le_of_ble_eq_true rfl) (Nat.zero_le _) (Nat.zero_le _) dX1_times_68 (fun u H locs hw hP hD hS => ?_)
        obtain ⟨nz_10, rfl⟩ : ∃ z, z = u := ⟨_, rfl⟩
        have hP : va_P G vwCl (wX1 cI cJ Az Bz lz_8 nz_10) H := hP
        have hD : va_D A (wX1 cI cJ Az Bz lz_8 nz_10) := hD
        exact hret (lz_8, nz_10) _ _ _ _ hw hP hD hS dX1_times_71
      · have hw := hw.2 c_16
        refine lv_lload_n hx hb dX1_times_24 rfl (lv_at hl 1 rfl) ?_
        refine lv_aload_n hx hb dX1_times_25 rfl (lv_at hl 2 rfl) ?_
        refine k_get hx hb hts uX1_times_X1 hown hK hP 0 1 rfl rfl 0 (by decide) fX1_times_9 (.ref Bz) rfl dX1_times_26 ?_
        refine lv_iload hx hb dX1_times_29 (lv_at hl 0 rfl) ?_
        obtain ⟨hin, hw⟩ := hw
        refine k_iald hx hb hK hP 1 rfl hin dX1_times_31 ?_
        refine lv_i2l (v := (lz_3 i4_1.toNatClampNeg).toInt64) hx hb dX1_times_32 rfl ?_
        refine lv_iload_n hx hb dX1_times_33 rfl (lv_at hl 3 rfl) ?_
        refine lv_i2l (v := p0.toInt64) hx hb dX1_times_34 rfl ?_
        refine lv_lmul hx hb dX1_times_35 ?_
        refine lv_topl (fun v_11 ev_11 => ?_)
        have hw := hw v_11 ev_11
        refine lv_ladd hx hb dX1_times_36 ?_
        refine lv_topl (fun i2_12 ei2_12 => ?_)
        have hw := hw i2_12 ei2_12
        refine lv_lstore_n (lv' := [(2, .long i2_12), (4, .int i4_1), (0, .ref Az), (1, .int p0)]) hx hb dX1_times_37 rfl hl (by decide) rfl (fun ls hl => ?_)
        refine lv_aload_n hx hb dX1_times_38 rfl (lv_at hl 2 rfl) ?_
        refine k_get hx hb hts uX1_times_X1 hown hK hP 0 1 rfl rfl 0 (by decide) fX1_times_9 (.ref Bz) rfl dX1_times_39 ?_
        refine lv_iload hx hb dX1_times_42 (lv_at hl 1 rfl) ?_
        refine lv_lload_n hx hb dX1_times_44 rfl (lv_at hl 0 rfl) ?_
        refine lv_ldc2 (v := 2147483647) hx hb hown (hts _ fX1_times_21) dX1_times_45 ?_
        refine lv_land hx hb dX1_times_48 ?_
        refine lv_l2i (v := (i2_12 &&& 2147483647).toInt32) hx hb dX1_times_49 rfl ?_
        obtain ⟨hin, hw⟩ := hw
        refine k_iast hx hb hK hP hD hS 1 rfl hin (w' := fun g => (wX1 cI cJ Az Bz g nz)) (fun _ => rfl) dX1_times_50 (fun lz_13 elz_13 H locs hP hD hS => ?_)
        have hw := hw lz_13 elz_13
        refine lv_lload_n hx hb dX1_times_51 rfl (lv_at hl 0 rfl) ?_
        refine lv_bipush (v := 31) hx hb dX1_times_52 (by decide) ?_
        refine lv_lshr (v := i2_12 >>> ((31 : Int32).toInt64 &&& 63)) hx hb dX1_times_54 rfl ?_
        refine lv_topl (fun i2_14 ei2_14 => ?_)
        have hw := hw i2_14 ei2_14
        refine lv_lstore_n (lv' := [(2, .long i2_14), (4, .int i4_1), (0, .ref Az), (1, .int p0)]) hx hb dX1_times_55 rfl hl (by decide) rfl (fun ls hl => ?_)
        obtain ⟨i4_15, ei4_15⟩ : ∃ y : Int32, y = i4_1 + 1 := ⟨_, rfl⟩
        have hw := hw i4_15 ei4_15
        refine lv_iinc (v := i4_15) (lv' := [(4, .int i4_15), (2, .long i2_14), (0, .ref Az), (1, .int p0)]) hx hb dX1_times_56 hl (k := 1) rfl (by rw [ei4_15]; rfl) (by decide) rfl (fun ls hl => ?_)
        refine lv_goto (tgt := 5) hx hb dX1_times_59 (by decide) ?_
        exact ihI5_4 _ (by rw [← hNI5_4]; exact hw.2) i4_15 i2_14 lz_13 rfl hw.1 _ _ _ hP hD hS (lv_sub hl [0, 1, 2, 3] rfl)
theorem fX1_plusTimes_13 : Cond.fieldLink RX1 13 "PrivateCounts$Natural" "size" "I" ∈ wsX1_plusTimes := by decide +kernel
theorem uX1_plusTimes_X1 : ∀ w ∈ u_ws RX1 TX1 2, w ∈ wsX1_plusTimes := by decide +kernel
theorem fX1_plusTimes_9 : Cond.fieldLink RX1 9 "PrivateCounts$Natural" "limbs" "[I" ∈ wsX1_plusTimes := by decide +kernel
theorem fX1_plusTimes_21 : Cond.constantLong RX1 21 (2147483647) ∈ wsX1_plusTimes := by decide +kernel
set_option maxHeartbeats 4000000 in
set_option maxRecDepth 100000 in
theorem M_X1_plusTimes (l : Launch) (G : va_G) (cI cJ : ClassId) (Az Bz Ao Bo : Nat) (lz : Nat → Int32) (nz : Int32) (lo : Nat → Int32) (no : Int32) (p1 : Int32) (Q : (Nat → Int32) → Int32 → Prop) (hw : w_X1_plusTimes lz nz lo no p1 Q) : Kv l yX1_plusTimes wsX1_plusTimes rm_X1_plusTimes G cI cJ [.ref Az, .ref Ao, .int p1] (wX1X1 cI cJ Az Bz Ao Bo lz nz lo no) (fun (u : (Nat → Int32) × (Int32)) => Q u.1 u.2) (fun u => (wX1X1 cI cJ Az Bz Ao Bo u.1 u.2 lo no)) := by
  refine kv_intro (cc := cX1_plusTimes) (maxL := 7) rfl rfl (by decide) rfl (Nat.le_of_ble_eq_true rfl) ?_
  intro p e s m args below meth c A Z ls hx hb hml hts hown hP hK hD hS hA hl hret
  have hl : lv_has ls 7 [(0, .ref Az), (1, .ref Ao), (2, .int p1)] := hl
  unfold w_X1_plusTimes at hw
  refine lv_aload_n hx hb dX1_plusTimes_0 rfl (lv_at hl 0 rfl) ?_
  refine k_get hx hb hts uX1_plusTimes_X1 hown hK hP 0 1 rfl rfl 1 (by decide) fX1_plusTimes_13 (.int nz) rfl dX1_plusTimes_1 ?_
  refine lv_aload_n hx hb dX1_plusTimes_4 rfl (lv_at hl 1 rfl) ?_
  refine k_get hx hb hts uX1_plusTimes_X1 hown hK hP 2 1 rfl rfl 1 (by decide) fX1_plusTimes_13 (.int no) rfl dX1_plusTimes_5 ?_
  obtain ⟨J22_2, hw, hR⟩ := hw
  have hJ22_2 : ∀ (t_1 : Int32) (_ : J22_2 t_1) (H : Heap) (locs : List Loc) (ls : Array Slot), va_P G vwCl (wX1X1 cI cJ Az Bz Ao Bo lz nz lo no) H → va_D A (wX1X1 cI cJ Az Bz Ao Bo lz nz lo no) → va_S A s.heap H locs → lv_has ls 7 [(0, .ref Az), (1, .ref Ao), (2, .int p1)] → W p l e rm_X1_plusTimes s m args below meth c H locs 0 0 Z (F0 m 22 ls [.int t_1]) := by
    intro t_1 hw H locs ls hP hD hS hl
    have hw := hR _ hw
    refine lv_istore_n (lv' := [(3, .int t_1), (0, .ref Az), (1, .ref Ao), (2, .int p1)]) hx hb dX1_plusTimes_22 rfl hl (by decide) rfl (fun ls hl => ?_)
    refine lv_lconst (v := 0) hx hb dX1_plusTimes_23 (by decide) ?_
    refine lv_lstore (lv' := [(4, .long 0), (3, .int t_1), (0, .ref Az), (1, .ref Ao), (2, .int p1)]) hx hb dX1_plusTimes_24 hl (by decide) rfl (fun ls hl => ?_)
    refine lv_iconst (v := 0) hx hb dX1_plusTimes_26 (by decide) ?_
    refine lv_istore (lv' := [(6, .int 0), (4, .long 0), (3, .int t_1), (0, .ref Az), (1, .ref Ao), (2, .int p1)]) hx hb dX1_plusTimes_27 hl (by decide) rfl (fun ls hl => ?_)
    obtain ⟨I29_7, μ29_7, hi, hw⟩ := hw
    suffices hLI29_7 : ∀ (N : Nat) (i6_4 : Int32) (i4_5 : Int64) (lz_6 : Nat → Int32) (_ : μ29_7 i6_4 i4_5 lz_6 = N) (_ : I29_7 i6_4 i4_5 lz_6) (H : Heap) (locs : List Loc) (ls : Array Slot), va_P G vwCl (wX1X1 cI cJ Az Bz Ao Bo lz_6 nz lo no) H → va_D A (wX1X1 cI cJ Az Bz Ao Bo lz_6 nz lo no) → va_S A s.heap H locs → lv_has ls 7 [(6, .int i6_4), (4, .long i4_5), (3, .int t_1), (0, .ref Az), (1, .ref Ao), (2, .int p1)] → W p l e rm_X1_plusTimes s m args below meth c H locs 0 0 Z (F0 m 29 ls []) from
      hLI29_7 _ (0 : Int32) (0 : Int64) lz rfl hi _ _ _ hP hD hS (lv_sub hl [0, 1, 2, 3, 4, 5] rfl)
    clear hi hP hD hS hl
    intro N
    induction N using Nat.strongRecOn with
    | ind N ihI29_7 =>
      intro i6_4 i4_5 lz_6 hNI29_7 hi H locs ls hP hD hS hl
      have hw := hw i6_4 i4_5 lz_6 hi
      refine lv_iload hx hb dX1_plusTimes_29 (lv_at hl 0 rfl) ?_
      refine lv_iload_n hx hb dX1_plusTimes_31 rfl (lv_at hl 2 rfl) ?_
      refine lv_icmp_ge (tgt := 95) hx hb dX1_plusTimes_32 (by decide) (fun c_22 => ?_) (fun c_22 => ?_)
      · have hw := hw.1 c_22
        refine lv_aload_n hx hb dX1_plusTimes_95 rfl (lv_at hl 3 rfl) ?_
        refine lv_iload_n hx hb dX1_plusTimes_96 rfl (lv_at hl 2 rfl) ?_
        refine k_put hx hb hts uX1_plusTimes_X1 tyX1 tyX1_ok nmX1 hown hK hP hD hS 0 1 rfl rfl 1 (by decide) fX1_plusTimes_13 rfl rfl rfl (Nat.le_of_ble_eq_true rfl) (w' := (wX1X1 cI cJ Az Bz Ao Bo lz_6 t_1 lo no)) rfl dX1_plusTimes_97 (fun H locs hP hD hS => ?_)
        refine lv_aload_n hx hb dX1_plusTimes_100 rfl (lv_at hl 3 rfl) ?_
        refine lv_lload hx hb dX1_plusTimes_101 (lv_at hl 1 rfl) ?_
        refine k_Vv (M_X1_append l G cI cJ Az Bz lz_6 t_1 i4_5 _ hw) ⟨hx, hb, hml, hown, hts⟩ (cwV 1 hts gX1_plusTimes_X1_append rfl rfl rfl (by decide +kernel) ⟨Nat.le_of_ble_eq_true rfl, Nat.le_of_ble_eq_true rfl⟩) hK hP hD hS hA [0, 1] [2, 3] [2, 3, 0, 1] (wr := [(Ao, .inr (1, [.ref Bo, .int no])), (Bo, .inl (cI, 64, .inl lo))]) (wn := fun u : (Nat → Int32) × (Int32) => (wX1X1 cI cJ Az Bz Ao Bo u.1 u.2 lo no)) rfl rfl (by decide) (by decide) (by decide) (by decide) (fun _ => rfl) (rest := []) (q0 := 0) rfl rfl rfl hl.1 rfl (Nat.le_of_ble_eq_true rfl) (Nat.zero_le _) (Nat.zero_le _) dX1_plusTimes_103 (fun u H locs hw hP hD hS => ?_)
        obtain ⟨lz_8, nz_9⟩ := u
        have hP : va_P G vwCl (wX1X1 cI cJ Az Bz Ao Bo lz_8 nz_9 lo no) H := hP
        have hD : va_D A (wX1X1 cI cJ Az Bz Ao Bo lz_8 nz_9 lo no) := hD
        refine lv_aload_n hx hb dX1_plusTimes_106 rfl (lv_at hl 3 rfl) ?_
        refine k_Vv (M_X1_trim l G cI cJ Az Bz lz_8 nz_9 _ hw) ⟨hx, hb, hml, hown, hts⟩ (cwV 0 hts gX1_plusTimes_X1_trim rfl rfl rfl (by decide +kernel) ⟨Nat.le_of_ble_eq_true rfl, Nat.le_of_ble_eq_true rfl⟩) hK hP hD hS hA [0, 1] [2, 3] [2, 3, 0, 1] (wr := [(Ao, .inr (1, [.ref Bo, .int no])), (Bo, .inl (cI, 64, .inl lo))]) (wn := fun u : (Int32) => (wX1X1 cI cJ Az Bz Ao Bo lz_8 u lo no)) rfl rfl (by decide) (by decide) (by decide) (by decide) (fun _ => rfl) (rest := []) (q0 := 0) rfl rfl rfl hl.1 rfl (Nat.le_of_ble_eq_true rfl) (Nat.zero_le _) (Nat.zero_le _) dX1_plusTimes_107 (fun u H locs hw hP hD hS => ?_)
        obtain ⟨nz_10, rfl⟩ : ∃ z, z = u := ⟨_, rfl⟩
        have hP : va_P G vwCl (wX1X1 cI cJ Az Bz Ao Bo lz_8 nz_10 lo no) H := hP
        have hD : va_D A (wX1X1 cI cJ Az Bz Ao Bo lz_8 nz_10 lo no) := hD
        exact hret (lz_8, nz_10) _ _ _ _ hw hP hD hS dX1_plusTimes_110
      · have hw := hw.2 c_22
        refine lv_iload hx hb dX1_plusTimes_35 (lv_at hl 0 rfl) ?_
        refine lv_aload_n hx hb dX1_plusTimes_37 rfl (lv_at hl 3 rfl) ?_
        refine k_get hx hb hts uX1_plusTimes_X1 hown hK hP 0 1 rfl rfl 0 (by decide) fX1_plusTimes_9 (.ref Bz) rfl dX1_plusTimes_38 ?_
        refine k_alen hx hb hK hP 1 rfl 64 rfl dX1_plusTimes_41 ?_
        refine lv_icmp_ge (tgt := 95) hx hb dX1_plusTimes_42 (by decide) (fun c_21 => ?_) (fun c_21 => ?_)
        · have hw := hw.1 c_21
          refine lv_aload_n hx hb dX1_plusTimes_95 rfl (lv_at hl 3 rfl) ?_
          refine lv_iload_n hx hb dX1_plusTimes_96 rfl (lv_at hl 2 rfl) ?_
          refine k_put hx hb hts uX1_plusTimes_X1 tyX1 tyX1_ok nmX1 hown hK hP hD hS 0 1 rfl rfl 1 (by decide) fX1_plusTimes_13 rfl rfl rfl (Nat.le_of_ble_eq_true rfl) (w' := (wX1X1 cI cJ Az Bz Ao Bo lz_6 t_1 lo no)) rfl dX1_plusTimes_97 (fun H locs hP hD hS => ?_)
          refine lv_aload_n hx hb dX1_plusTimes_100 rfl (lv_at hl 3 rfl) ?_
          refine lv_lload hx hb dX1_plusTimes_101 (lv_at hl 1 rfl) ?_
          refine k_Vv (M_X1_append l G cI cJ Az Bz lz_6 t_1 i4_5 _ hw) ⟨hx, hb, hml, hown, hts⟩ (cwV 1 hts gX1_plusTimes_X1_append rfl rfl rfl (by decide +kernel) ⟨Nat.le_of_ble_eq_true rfl, Nat.le_of_ble_eq_true rfl⟩) hK hP hD hS hA [0, 1] [2, 3] [2, 3, 0, 1] (wr := [(Ao, .inr (1, [.ref Bo, .int no])), (Bo, .inl (cI, 64, .inl lo))]) (wn := fun u : (Nat → Int32) × (Int32) => (wX1X1 cI cJ Az Bz Ao Bo u.1 u.2 lo no)) rfl rfl (by decide) (by decide) (by decide) (by decide) (fun _ => rfl) (rest := []) (q0 := 0) rfl rfl rfl hl.1 rfl (Nat.le_of_ble_eq_true rfl) (Nat.zero_le _) (Nat.zero_le _) dX1_plusTimes_103 (fun u H locs hw hP hD hS => ?_)
          obtain ⟨lz_11, nz_12⟩ := u
          have hP : va_P G vwCl (wX1X1 cI cJ Az Bz Ao Bo lz_11 nz_12 lo no) H := hP
          have hD : va_D A (wX1X1 cI cJ Az Bz Ao Bo lz_11 nz_12 lo no) := hD
          refine lv_aload_n hx hb dX1_plusTimes_106 rfl (lv_at hl 3 rfl) ?_
          refine k_Vv (M_X1_trim l G cI cJ Az Bz lz_11 nz_12 _ hw) ⟨hx, hb, hml, hown, hts⟩ (cwV 0 hts gX1_plusTimes_X1_trim rfl rfl rfl (by decide +kernel) ⟨Nat.le_of_ble_eq_true rfl, Nat.le_of_ble_eq_true rfl⟩) hK hP hD hS hA [0, 1] [2, 3] [2, 3, 0, 1] (wr := [(Ao, .inr (1, [.ref Bo, .int no])), (Bo, .inl (cI, 64, .inl lo))]) (wn := fun u : (Int32) => (wX1X1 cI cJ Az Bz Ao Bo lz_11 u lo no)) rfl rfl (by decide) (by decide) (by decide) (by decide) (fun _ => rfl) (rest := []) (q0 := 0) rfl rfl rfl hl.1 rfl (Nat.le_of_ble_eq_true rfl) (Nat.zero_le _) (Nat.zero_le _) dX1_plusTimes_107 (fun u H locs hw hP hD hS => ?_)
          obtain ⟨nz_13, rfl⟩ : ∃ z, z = u := ⟨_, rfl⟩
          have hP : va_P G vwCl (wX1X1 cI cJ Az Bz Ao Bo lz_11 nz_13 lo no) H := hP
          have hD : va_D A (wX1X1 cI cJ Az Bz Ao Bo lz_11 nz_13 lo no) := hD
          exact hret (lz_11, nz_13) _ _ _ _ hw hP hD hS dX1_plusTimes_110
        · have hw := hw.2 c_21
          refine lv_lload hx hb dX1_plusTimes_45 (lv_at hl 1 rfl) ?_
          refine lv_aload_n hx hb dX1_plusTimes_47 rfl (lv_at hl 3 rfl) ?_
          refine lv_iload hx hb dX1_plusTimes_48 (lv_at hl 0 rfl) ?_
          refine k_Vi (M_X1_limbAt l G cI cJ Az Bz lz_6 nz i6_4 _ hw) ⟨hx, hb, hml, hown, hts⟩ (cwV 1 hts gX1_plusTimes_X1_limbAt rfl rfl rfl (by decide +kernel) ⟨Nat.le_of_ble_eq_true rfl, Nat.le_of_ble_eq_true rfl⟩) hK hP hD hS hA [0, 1] [2, 3] [2, 3, 0, 1] (wr := [(Ao, .inr (1, [.ref Bo, .int no])), (Bo, .inl (cI, 64, .inl lo))]) (wn := fun u : Unit => (wX1X1 cI cJ Az Bz Ao Bo lz_6 nz lo no)) rfl rfl (by decide) (by decide) (by decide) (by decide) (fun _ => rfl) (rest := [.long i4_5]) (q0 := 0) rfl rfl rfl hl.1 rfl (Nat.le_of_ble_eq_true rfl) (Nat.zero_le _) (Nat.zero_le _) dX1_plusTimes_50 (fun r_14 u H locs hw hP hD hS => ?_)
          refine lv_i2l (v := r_14.toInt64) hx hb dX1_plusTimes_53 rfl ?_
          refine lv_aload_n hx hb dX1_plusTimes_54 rfl (lv_at hl 4 rfl) ?_
          refine lv_iload hx hb dX1_plusTimes_55 (lv_at hl 0 rfl) ?_
          refine k_Vi (M_X1_limbAt l G cI cJ Ao Bo lo no i6_4 _ hw) ⟨hx, hb, hml, hown, hts⟩ (cwV 1 hts gX1_plusTimes_X1_limbAt rfl rfl rfl (by decide +kernel) ⟨Nat.le_of_ble_eq_true rfl, Nat.le_of_ble_eq_true rfl⟩) hK hP hD hS hA [2, 3] [0, 1] [0, 1, 2, 3] (wr := [(Az, .inr (1, [.ref Bz, .int nz])), (Bz, .inl (cI, 64, .inl lz_6))]) (wn := fun u : Unit => (wX1X1 cI cJ Az Bz Ao Bo lz_6 nz lo no)) rfl rfl (by decide) (by decide) (by decide) (by decide) (fun _ => rfl) (rest := [.long r_14.toInt64, .long i4_5]) (q0 := 0) rfl rfl rfl hl.1 rfl (Nat.le_of_ble_eq_true rfl) (Nat.zero_le _) (Nat.zero_le _) dX1_plusTimes_57 (fun r_15 u H locs hw hP hD hS => ?_)
          refine lv_i2l (v := r_15.toInt64) hx hb dX1_plusTimes_60 rfl ?_
          refine lv_iload_n hx hb dX1_plusTimes_61 rfl (lv_at hl 5 rfl) ?_
          refine lv_i2l (v := p1.toInt64) hx hb dX1_plusTimes_62 rfl ?_
          refine lv_lmul hx hb dX1_plusTimes_63 ?_
          refine lv_ladd hx hb dX1_plusTimes_64 ?_
          refine lv_topl (fun v_16 ev_16 => ?_)
          have hw := hw v_16 ev_16
          refine lv_ladd hx hb dX1_plusTimes_65 ?_
          refine lv_topl (fun i4_17 ei4_17 => ?_)
          have hw := hw i4_17 ei4_17
          refine lv_lstore (lv' := [(4, .long i4_17), (6, .int i6_4), (3, .int t_1), (0, .ref Az), (1, .ref Ao), (2, .int p1)]) hx hb dX1_plusTimes_66 hl (by decide) rfl (fun ls hl => ?_)
          refine lv_aload_n hx hb dX1_plusTimes_68 rfl (lv_at hl 3 rfl) ?_
          refine k_get hx hb hts uX1_plusTimes_X1 hown hK hP 0 1 rfl rfl 0 (by decide) fX1_plusTimes_9 (.ref Bz) rfl dX1_plusTimes_69 ?_
          refine lv_iload hx hb dX1_plusTimes_72 (lv_at hl 1 rfl) ?_
          refine lv_lload hx hb dX1_plusTimes_74 (lv_at hl 0 rfl) ?_
          refine lv_ldc2 (v := 2147483647) hx hb hown (hts _ fX1_plusTimes_21) dX1_plusTimes_76 ?_
          refine lv_land hx hb dX1_plusTimes_79 ?_
          refine lv_l2i (v := (i4_17 &&& 2147483647).toInt32) hx hb dX1_plusTimes_80 rfl ?_
          obtain ⟨hin, hw⟩ := hw
          refine k_iast hx hb hK hP hD hS 1 rfl hin (w' := fun g => (wX1X1 cI cJ Az Bz Ao Bo g nz lo no)) (fun _ => rfl) dX1_plusTimes_81 (fun lz_18 elz_18 H locs hP hD hS => ?_)
          have hw := hw lz_18 elz_18
          refine lv_lload hx hb dX1_plusTimes_82 (lv_at hl 0 rfl) ?_
          refine lv_bipush (v := 31) hx hb dX1_plusTimes_84 (by decide) ?_
          refine lv_lshr (v := i4_17 >>> ((31 : Int32).toInt64 &&& 63)) hx hb dX1_plusTimes_86 rfl ?_
          refine lv_topl (fun i4_19 ei4_19 => ?_)
          have hw := hw i4_19 ei4_19
          refine lv_lstore (lv' := [(4, .long i4_19), (6, .int i6_4), (3, .int t_1), (0, .ref Az), (1, .ref Ao), (2, .int p1)]) hx hb dX1_plusTimes_87 hl (by decide) rfl (fun ls hl => ?_)
          obtain ⟨i6_20, ei6_20⟩ : ∃ y : Int32, y = i6_4 + 1 := ⟨_, rfl⟩
          have hw := hw i6_20 ei6_20
          refine lv_iinc (v := i6_20) (lv' := [(6, .int i6_20), (4, .long i4_19), (3, .int t_1), (0, .ref Az), (1, .ref Ao), (2, .int p1)]) hx hb dX1_plusTimes_89 hl (k := 1) rfl (by rw [ei6_20]; rfl) (by decide) rfl (fun ls hl => ?_)
          refine lv_goto (tgt := 29) hx hb dX1_plusTimes_92 (by decide) ?_
          exact ihI29_7 _ (by rw [← hNI29_7]; exact hw.2) i6_20 i4_19 lz_18 rfl hw.1 _ _ _ hP hD hS (lv_sub hl [0, 1, 2, 3, 4, 5] rfl)
  clear hR
  refine lv_icmp_le (tgt := 18) hx hb dX1_plusTimes_8 (by decide) (fun c_3 => ?_) (fun c_3 => ?_)
  · have hw := hw.1 c_3
    refine lv_aload_n hx hb dX1_plusTimes_18 rfl (lv_at hl 1 rfl) ?_
    refine k_get hx hb hts uX1_plusTimes_X1 hown hK hP 2 1 rfl rfl 1 (by decide) fX1_plusTimes_13 (.int no) rfl dX1_plusTimes_19 ?_
    exact hJ22_2 no hw _ _ _ hP hD hS (lv_sub hl [0, 1, 2] rfl)
  · have hw := hw.2 c_3
    refine lv_aload_n hx hb dX1_plusTimes_11 rfl (lv_at hl 0 rfl) ?_
    refine k_get hx hb hts uX1_plusTimes_X1 hown hK hP 0 1 rfl rfl 1 (by decide) fX1_plusTimes_13 (.int nz) rfl dX1_plusTimes_12 ?_
    refine lv_goto (tgt := 22) hx hb dX1_plusTimes_15 (by decide) ?_
    exact hJ22_2 nz hw _ _ _ hP hD hS (lv_sub hl [0, 1, 2] rfl)
theorem fX1_divideBy_13 : Cond.fieldLink RX1 13 "PrivateCounts$Natural" "size" "I" ∈ wsX1_divideBy := by decide +kernel
theorem uX1_divideBy_X1 : ∀ w ∈ u_ws RX1 TX1 2, w ∈ wsX1_divideBy := by decide +kernel
theorem fX1_divideBy_9 : Cond.fieldLink RX1 9 "PrivateCounts$Natural" "limbs" "[I" ∈ wsX1_divideBy := by decide +kernel
set_option maxHeartbeats 4000000 in
set_option maxRecDepth 100000 in
theorem M_X1_divideBy (l : Launch) (G : va_G) (cI cJ : ClassId) (Az Bz : Nat) (lz : Nat → Int32) (nz : Int32) (p0 : Int32) (Q : (Nat → Int32) → Int32 → Prop) (hw : w_X1_divideBy lz nz p0 Q) : Kv l yX1_divideBy wsX1_divideBy rm_X1_divideBy G cI cJ [.ref Az, .int p0] (wX1 cI cJ Az Bz lz nz) (fun (u : (Nat → Int32) × (Int32)) => Q u.1 u.2) (fun u => (wX1 cI cJ Az Bz u.1 u.2)) := by
  refine kv_intro (cc := cX1_divideBy) (maxL := 5) rfl rfl (by decide) rfl (Nat.le_of_ble_eq_true rfl) ?_
  intro p e s m args below meth c A Z ls hx hb hml hts hown hP hK hD hS hA hl hret
  have hl : lv_has ls 5 [(0, .ref Az), (1, .int p0)] := hl
  unfold w_X1_divideBy at hw
  refine lv_iload_n hx hb dX1_divideBy_0 rfl (lv_at hl 1 rfl) ?_
  refine lv_iconst (v := 1) hx hb dX1_divideBy_1 (by decide) ?_
  refine lv_icmp_ge (tgt := 6) hx hb dX1_divideBy_2 (by decide) (fun c_15 => ?_) (fun c_15 => ?_)
  · have hw := hw.1 c_15
    refine lv_lconst (v := 0) hx hb dX1_divideBy_6 (by decide) ?_
    refine lv_lstore_n (lv' := [(2, .long 0), (0, .ref Az), (1, .int p0)]) hx hb dX1_divideBy_7 rfl hl (by decide) rfl (fun ls hl => ?_)
    refine lv_aload_n hx hb dX1_divideBy_8 rfl (lv_at hl 1 rfl) ?_
    refine k_get hx hb hts uX1_divideBy_X1 hown hK hP 0 1 rfl rfl 1 (by decide) fX1_divideBy_13 (.int nz) rfl dX1_divideBy_9 ?_
    refine lv_iconst (v := 1) hx hb dX1_divideBy_12 (by decide) ?_
    refine lv_isub hx hb dX1_divideBy_13 ?_
    refine lv_topi (fun i4_1 ei4_1 => ?_)
    have hw := hw i4_1 ei4_1
    refine lv_istore (lv' := [(4, .int i4_1), (2, .long 0), (0, .ref Az), (1, .int p0)]) hx hb dX1_divideBy_14 hl (by decide) rfl (fun ls hl => ?_)
    obtain ⟨I16_5, μ16_5, hi, hw⟩ := hw
    suffices hLI16_5 : ∀ (N : Nat) (i4_2 : Int32) (i2_3 : Int64) (lz_4 : Nat → Int32) (_ : μ16_5 i4_2 i2_3 lz_4 = N) (_ : I16_5 i4_2 i2_3 lz_4) (H : Heap) (locs : List Loc) (ls : Array Slot), va_P G vwCl (wX1 cI cJ Az Bz lz_4 nz) H → va_D A (wX1 cI cJ Az Bz lz_4 nz) → va_S A s.heap H locs → lv_has ls 5 [(4, .int i4_2), (2, .long i2_3), (0, .ref Az), (1, .int p0)] → W p l e rm_X1_divideBy s m args below meth c H locs 0 0 Z (F0 m 16 ls []) from
      hLI16_5 _ i4_1 (0 : Int64) lz rfl hi _ _ _ hP hD hS (lv_sub hl [0, 1, 2, 3] rfl)
    clear hi hP hD hS hl
    intro N
    induction N using Nat.strongRecOn with
    | ind N ihI16_5 =>
      intro i4_2 i2_3 lz_4 hNI16_5 hi H locs ls hP hD hS hl
      have hw := hw i4_2 i2_3 lz_4 hi
      refine lv_iload hx hb dX1_divideBy_16 (lv_at hl 0 rfl) ?_
      refine lv_if_lt (tgt := 68) hx hb dX1_divideBy_18 (by decide) (fun c_14 => ?_) (fun c_14 => ?_)
      · have hw := hw.1 c_14
        refine lv_aload_n hx hb dX1_divideBy_68 rfl (lv_at hl 2 rfl) ?_
        refine k_Vv (M_X1_trim l G cI cJ Az Bz lz_4 nz _ hw) ⟨hx, hb, hml, hown, hts⟩ (cwV 0 hts gX1_divideBy_X1_trim rfl rfl rfl (by decide +kernel) ⟨Nat.le_of_ble_eq_true rfl, Nat.le_of_ble_eq_true rfl⟩) hK hP hD hS hA [0, 1] [] [0, 1] (wr := []) (wn := fun u : (Int32) => (wX1 cI cJ Az Bz lz_4 u)) rfl rfl (by decide) (by decide) (by decide) (by decide) (fun _ => rfl) (rest := []) (q0 := 0) rfl rfl rfl hl.1 rfl (Nat.le_of_ble_eq_true rfl) (Nat.zero_le _) (Nat.zero_le _) dX1_divideBy_69 (fun u H locs hw hP hD hS => ?_)
        obtain ⟨nz_6, rfl⟩ : ∃ z, z = u := ⟨_, rfl⟩
        have hP : va_P G vwCl (wX1 cI cJ Az Bz lz_4 nz_6) H := hP
        have hD : va_D A (wX1 cI cJ Az Bz lz_4 nz_6) := hD
        exact hret (lz_4, nz_6) _ _ _ _ hw hP hD hS dX1_divideBy_72
      · have hw := hw.2 c_14
        refine lv_iload hx hb dX1_divideBy_21 (lv_at hl 0 rfl) ?_
        refine lv_aload_n hx hb dX1_divideBy_23 rfl (lv_at hl 2 rfl) ?_
        refine k_get hx hb hts uX1_divideBy_X1 hown hK hP 0 1 rfl rfl 0 (by decide) fX1_divideBy_9 (.ref Bz) rfl dX1_divideBy_24 ?_
        refine k_alen hx hb hK hP 1 rfl 64 rfl dX1_divideBy_27 ?_
        refine lv_icmp_ge (tgt := 68) hx hb dX1_divideBy_28 (by decide) (fun c_13 => ?_) (fun c_13 => ?_)
        · have hw := hw.1 c_13
          refine lv_aload_n hx hb dX1_divideBy_68 rfl (lv_at hl 2 rfl) ?_
          refine k_Vv (M_X1_trim l G cI cJ Az Bz lz_4 nz _ hw) ⟨hx, hb, hml, hown, hts⟩ (cwV 0 hts gX1_divideBy_X1_trim rfl rfl rfl (by decide +kernel) ⟨Nat.le_of_ble_eq_true rfl, Nat.le_of_ble_eq_true rfl⟩) hK hP hD hS hA [0, 1] [] [0, 1] (wr := []) (wn := fun u : (Int32) => (wX1 cI cJ Az Bz lz_4 u)) rfl rfl (by decide) (by decide) (by decide) (by decide) (fun _ => rfl) (rest := []) (q0 := 0) rfl rfl rfl hl.1 rfl (Nat.le_of_ble_eq_true rfl) (Nat.zero_le _) (Nat.zero_le _) dX1_divideBy_69 (fun u H locs hw hP hD hS => ?_)
          obtain ⟨nz_7, rfl⟩ : ∃ z, z = u := ⟨_, rfl⟩
          have hP : va_P G vwCl (wX1 cI cJ Az Bz lz_4 nz_7) H := hP
          have hD : va_D A (wX1 cI cJ Az Bz lz_4 nz_7) := hD
          exact hret (lz_4, nz_7) _ _ _ _ hw hP hD hS dX1_divideBy_72
        · have hw := hw.2 c_13
          refine lv_lload_n hx hb dX1_divideBy_31 rfl (lv_at hl 1 rfl) ?_
          refine lv_bipush (v := 31) hx hb dX1_divideBy_32 (by decide) ?_
          refine lv_lshl (v := i2_3 <<< ((31 : Int32).toInt64 &&& 63)) hx hb dX1_divideBy_34 rfl ?_
          refine lv_aload_n hx hb dX1_divideBy_35 rfl (lv_at hl 2 rfl) ?_
          refine k_get hx hb hts uX1_divideBy_X1 hown hK hP 0 1 rfl rfl 0 (by decide) fX1_divideBy_9 (.ref Bz) rfl dX1_divideBy_36 ?_
          refine lv_iload hx hb dX1_divideBy_39 (lv_at hl 0 rfl) ?_
          obtain ⟨hin, hw⟩ := hw
          refine k_iald hx hb hK hP 1 rfl hin dX1_divideBy_41 ?_
          refine lv_i2l (v := (lz_4 i4_2.toNatClampNeg).toInt64) hx hb dX1_divideBy_42 rfl ?_
          refine lv_ladd hx hb dX1_divideBy_43 ?_
          refine lv_topl (fun v_8 ev_8 => ?_)
          have hw := hw v_8 ev_8
          refine lv_lstore_n (lv' := [(2, .long v_8), (4, .int i4_2), (0, .ref Az), (1, .int p0)]) hx hb dX1_divideBy_44 rfl hl (by decide) rfl (fun ls hl => ?_)
          refine lv_aload_n hx hb dX1_divideBy_45 rfl (lv_at hl 2 rfl) ?_
          refine k_get hx hb hts uX1_divideBy_X1 hown hK hP 0 1 rfl rfl 0 (by decide) fX1_divideBy_9 (.ref Bz) rfl dX1_divideBy_46 ?_
          refine lv_iload hx hb dX1_divideBy_49 (lv_at hl 1 rfl) ?_
          refine lv_lload_n hx hb dX1_divideBy_51 rfl (lv_at hl 0 rfl) ?_
          refine lv_iload_n hx hb dX1_divideBy_52 rfl (lv_at hl 3 rfl) ?_
          refine lv_i2l (v := p0.toInt64) hx hb dX1_divideBy_53 rfl ?_
          obtain ⟨hne, hw⟩ := hw
          refine lv_ldiv hx hb dX1_divideBy_54 hne ?_
          refine lv_topl (fun v_9 ev_9 => ?_)
          have hw := hw v_9 ev_9
          refine lv_l2i (v := v_9.toInt32) hx hb dX1_divideBy_55 rfl ?_
          obtain ⟨hin, hw⟩ := hw
          refine k_iast hx hb hK hP hD hS 1 rfl hin (w' := fun g => (wX1 cI cJ Az Bz g nz)) (fun _ => rfl) dX1_divideBy_56 (fun lz_10 elz_10 H locs hP hD hS => ?_)
          have hw := hw lz_10 elz_10
          refine lv_lload_n hx hb dX1_divideBy_57 rfl (lv_at hl 0 rfl) ?_
          refine lv_iload_n hx hb dX1_divideBy_58 rfl (lv_at hl 3 rfl) ?_
          refine lv_i2l (v := p0.toInt64) hx hb dX1_divideBy_59 rfl ?_
          obtain ⟨hne, hw⟩ := hw
          refine lv_lrem hx hb dX1_divideBy_60 hne ?_
          refine lv_topl (fun v_11 ev_11 => ?_)
          have hw := hw v_11 ev_11
          refine lv_lstore_n (lv' := [(2, .long v_11), (4, .int i4_2), (0, .ref Az), (1, .int p0)]) hx hb dX1_divideBy_61 rfl hl (by decide) rfl (fun ls hl => ?_)
          obtain ⟨i4_12, ei4_12⟩ : ∃ y : Int32, y = i4_2 + (-1) := ⟨_, rfl⟩
          have hw := hw i4_12 ei4_12
          refine lv_iinc (v := i4_12) (lv' := [(4, .int i4_12), (2, .long v_11), (0, .ref Az), (1, .int p0)]) hx hb dX1_divideBy_62 hl (k := 1) rfl (by rw [ei4_12]; rfl) (by decide) rfl (fun ls hl => ?_)
          refine lv_goto (tgt := 16) hx hb dX1_divideBy_65 (by decide) ?_
          exact ihI16_5 _ (by rw [← hNI16_5]; exact hw.2) i4_12 v_11 lz_10 rfl hw.1 _ _ _ hP hD hS (lv_sub hl [0, 1, 2, 3] rfl)
  · have hw := hw.2 c_15
    exact hret (lz, nz) _ _ _ _ hw hP hD hS dX1_divideBy_5
theorem fX1_restBy_13 : Cond.fieldLink RX1 13 "PrivateCounts$Natural" "size" "I" ∈ wsX1_restBy := by decide +kernel
theorem uX1_restBy_X1 : ∀ w ∈ u_ws RX1 TX1 2, w ∈ wsX1_restBy := by decide +kernel
set_option maxHeartbeats 4000000 in
set_option maxRecDepth 100000 in
theorem M_X1_restBy (l : Launch) (G : va_G) (cI cJ : ClassId) (Az Bz : Nat) (lz : Nat → Int32) (nz : Int32) (p0 : Int32) (Q : Int32 → Prop) (hw : w_X1_restBy lz nz p0 Q) : Ki l yX1_restBy wsX1_restBy rm_X1_restBy G cI cJ [.ref Az, .int p0] (wX1 cI cJ Az Bz lz nz) (fun (r : Int32) (u : Unit) => Q r) (fun u => (wX1 cI cJ Az Bz lz nz)) := by
  refine ki_intro (cc := cX1_restBy) (maxL := 5) rfl rfl (by decide) rfl (Nat.le_of_ble_eq_true rfl) ?_
  intro p e s m args below meth c A Z ls hx hb hml hts hown hP hK hD hS hA hl hret
  have hl : lv_has ls 5 [(0, .ref Az), (1, .int p0)] := hl
  unfold w_X1_restBy at hw
  refine lv_iload_n hx hb dX1_restBy_0 rfl (lv_at hl 1 rfl) ?_
  refine lv_iconst (v := 1) hx hb dX1_restBy_1 (by decide) ?_
  refine lv_icmp_ge (tgt := 7) hx hb dX1_restBy_2 (by decide) (fun c_10 => ?_) (fun c_10 => ?_)
  · have hw := hw.1 c_10
    refine lv_lconst (v := 0) hx hb dX1_restBy_7 (by decide) ?_
    refine lv_lstore_n (lv' := [(2, .long 0), (0, .ref Az), (1, .int p0)]) hx hb dX1_restBy_8 rfl hl (by decide) rfl (fun ls hl => ?_)
    refine lv_aload_n hx hb dX1_restBy_9 rfl (lv_at hl 1 rfl) ?_
    refine k_get hx hb hts uX1_restBy_X1 hown hK hP 0 1 rfl rfl 1 (by decide) fX1_restBy_13 (.int nz) rfl dX1_restBy_10 ?_
    refine lv_iconst (v := 1) hx hb dX1_restBy_13 (by decide) ?_
    refine lv_isub hx hb dX1_restBy_14 ?_
    refine lv_topi (fun i4_1 ei4_1 => ?_)
    have hw := hw i4_1 ei4_1
    refine lv_istore (lv' := [(4, .int i4_1), (2, .long 0), (0, .ref Az), (1, .int p0)]) hx hb dX1_restBy_15 hl (by decide) rfl (fun ls hl => ?_)
    obtain ⟨I17_4, μ17_4, hi, hw⟩ := hw
    suffices hLI17_4 : ∀ (N : Nat) (i4_2 : Int32) (i2_3 : Int64) (_ : μ17_4 i4_2 i2_3 = N) (_ : I17_4 i4_2 i2_3) (H : Heap) (locs : List Loc) (ls : Array Slot), va_P G vwCl (wX1 cI cJ Az Bz lz nz) H → va_D A (wX1 cI cJ Az Bz lz nz) → va_S A s.heap H locs → lv_has ls 5 [(4, .int i4_2), (2, .long i2_3), (0, .ref Az), (1, .int p0)] → W p l e rm_X1_restBy s m args below meth c H locs 0 0 Z (F0 m 17 ls []) from
      hLI17_4 _ i4_1 (0 : Int64) rfl hi _ _ _ hP hD hS (lv_sub hl [0, 1, 2, 3] rfl)
    clear hi hP hD hS hl
    intro N
    induction N using Nat.strongRecOn with
    | ind N ihI17_4 =>
      intro i4_2 i2_3 hNI17_4 hi H locs ls hP hD hS hl
      have hw := hw i4_2 i2_3 hi
      refine lv_iload hx hb dX1_restBy_17 (lv_at hl 0 rfl) ?_
      refine lv_if_lt (tgt := 44) hx hb dX1_restBy_19 (by decide) (fun c_9 => ?_) (fun c_9 => ?_)
      · have hw := hw.1 c_9
        refine lv_lload_n hx hb dX1_restBy_44 rfl (lv_at hl 1 rfl) ?_
        refine lv_l2i (v := i2_3.toInt32) hx hb dX1_restBy_45 rfl ?_
        exact hret _ () _ _ _ _ hw hP hD hS dX1_restBy_46
      · have hw := hw.2 c_9
        refine lv_lload_n hx hb dX1_restBy_22 rfl (lv_at hl 1 rfl) ?_
        refine lv_bipush (v := 31) hx hb dX1_restBy_23 (by decide) ?_
        refine lv_lshl (v := i2_3 <<< ((31 : Int32).toInt64 &&& 63)) hx hb dX1_restBy_25 rfl ?_
        refine lv_aload_n hx hb dX1_restBy_26 rfl (lv_at hl 2 rfl) ?_
        refine lv_iload hx hb dX1_restBy_27 (lv_at hl 0 rfl) ?_
        refine k_Vi (M_X1_limbAt l G cI cJ Az Bz lz nz i4_2 _ hw) ⟨hx, hb, hml, hown, hts⟩ (cwV 1 hts gX1_restBy_X1_limbAt rfl rfl rfl (by decide +kernel) ⟨Nat.le_of_ble_eq_true rfl, Nat.le_of_ble_eq_true rfl⟩) hK hP hD hS hA [0, 1] [] [0, 1] (wr := []) (wn := fun u : Unit => (wX1 cI cJ Az Bz lz nz)) rfl rfl (by decide) (by decide) (by decide) (by decide) (fun _ => rfl) (rest := [.long (i2_3 <<< ((31 : Int32).toInt64 &&& 63))]) (q0 := 0) rfl rfl rfl hl.1 rfl (Nat.le_of_ble_eq_true rfl) (Nat.zero_le _) (Nat.zero_le _) dX1_restBy_29 (fun r_5 u H locs hw hP hD hS => ?_)
        refine lv_i2l (v := r_5.toInt64) hx hb dX1_restBy_32 rfl ?_
        refine lv_ladd hx hb dX1_restBy_33 ?_
        refine lv_topl (fun v_6 ev_6 => ?_)
        have hw := hw v_6 ev_6
        refine lv_iload_n hx hb dX1_restBy_34 rfl (lv_at hl 3 rfl) ?_
        refine lv_i2l (v := p0.toInt64) hx hb dX1_restBy_35 rfl ?_
        obtain ⟨hne, hw⟩ := hw
        refine lv_lrem hx hb dX1_restBy_36 hne ?_
        refine lv_topl (fun v_7 ev_7 => ?_)
        have hw := hw v_7 ev_7
        refine lv_lstore_n (lv' := [(2, .long v_7), (4, .int i4_2), (0, .ref Az), (1, .int p0)]) hx hb dX1_restBy_37 rfl hl (by decide) rfl (fun ls hl => ?_)
        obtain ⟨i4_8, ei4_8⟩ : ∃ y : Int32, y = i4_2 + (-1) := ⟨_, rfl⟩
        have hw := hw i4_8 ei4_8
        refine lv_iinc (v := i4_8) (lv' := [(4, .int i4_8), (2, .long v_7), (0, .ref Az), (1, .int p0)]) hx hb dX1_restBy_38 hl (k := 1) rfl (by rw [ei4_8]; rfl) (by decide) rfl (fun ls hl => ?_)
        refine lv_goto (tgt := 17) hx hb dX1_restBy_41 (by decide) ?_
        exact ihI17_4 _ (by rw [← hNI17_4]; exact hw.2) i4_8 v_7 rfl hw.1 _ _ _ hP hD hS (lv_sub hl [0, 1, 2, 3] rfl)
  · have hw := hw.2 c_10
    refine lv_iconst (v := 0) hx hb dX1_restBy_5 (by decide) ?_
    exact hret _ () _ _ _ _ hw hP hD hS dX1_restBy_6
theorem fX1_isLess_13 : Cond.fieldLink RX1 13 "PrivateCounts$Natural" "size" "I" ∈ wsX1_isLess := by decide +kernel
theorem uX1_isLess_X1 : ∀ w ∈ u_ws RX1 TX1 2, w ∈ wsX1_isLess := by decide +kernel
set_option maxHeartbeats 4000000 in
set_option maxRecDepth 100000 in
theorem M_X1_isLess (l : Launch) (G : va_G) (cI cJ : ClassId) (Az Bz Ao Bo : Nat) (lz : Nat → Int32) (nz : Int32) (lo : Nat → Int32) (no : Int32) (p1 : Int32) (p3 : Int32) (Q : Int32 → Prop) (hw : w_X1_isLess lz nz lo no p1 p3 Q) : Ki l yX1_isLess wsX1_isLess rm_X1_isLess G cI cJ [.ref Az, .int p1, .ref Ao, .int p3] (wX1X1 cI cJ Az Bz Ao Bo lz nz lo no) (fun (r : Int32) (u : Unit) => wB r ∧ Q r) (fun u => (wX1X1 cI cJ Az Bz Ao Bo lz nz lo no)) := by
  refine kz_intro (cc := cX1_isLess) (maxL := 8) rfl rfl (by decide) rfl (Nat.le_of_ble_eq_true rfl) ?_
  intro p e s m args below meth c A Z ls hx hb hml hts hown hP hK hD hS hA hl hret
  have hl : lv_has ls 8 [(0, .ref Az), (1, .int p1), (2, .ref Ao), (3, .int p3)] := hl
  unfold w_X1_isLess at hw
  refine lv_aload_n hx hb dX1_isLess_0 rfl (lv_at hl 0 rfl) ?_
  refine k_get hx hb hts uX1_isLess_X1 hown hK hP 0 1 rfl rfl 1 (by decide) fX1_isLess_13 (.int nz) rfl dX1_isLess_1 ?_
  refine lv_aload_n hx hb dX1_isLess_4 rfl (lv_at hl 2 rfl) ?_
  refine k_get hx hb hts uX1_isLess_X1 hown hK hP 2 1 rfl rfl 1 (by decide) fX1_isLess_13 (.int no) rfl dX1_isLess_5 ?_
  obtain ⟨J22_2, hw, hR⟩ := hw
  have hJ22_2 : ∀ (t_1 : Int32) (_ : J22_2 t_1) (H : Heap) (locs : List Loc) (ls : Array Slot), va_P G vwCl (wX1X1 cI cJ Az Bz Ao Bo lz nz lo no) H → va_D A (wX1X1 cI cJ Az Bz Ao Bo lz nz lo no) → va_S A s.heap H locs → lv_has ls 8 [(0, .ref Az), (1, .int p1), (2, .ref Ao), (3, .int p3)] → W p l e rm_X1_isLess s m args below meth c H locs 0 0 Z (F0 m 22 ls [.int t_1]) := by
    intro t_1 hw H locs ls hP hD hS hl
    have hw := hR _ hw
    refine lv_istore (lv' := [(4, .int t_1), (0, .ref Az), (1, .int p1), (2, .ref Ao), (3, .int p3)]) hx hb dX1_isLess_22 hl (by decide) rfl (fun ls hl => ?_)
    refine lv_lconst (v := 0) hx hb dX1_isLess_24 (by decide) ?_
    refine lv_lstore (lv' := [(5, .long 0), (4, .int t_1), (0, .ref Az), (1, .int p1), (2, .ref Ao), (3, .int p3)]) hx hb dX1_isLess_25 hl (by decide) rfl (fun ls hl => ?_)
    refine lv_iconst (v := 0) hx hb dX1_isLess_27 (by decide) ?_
    refine lv_istore (lv' := [(7, .int 0), (5, .long 0), (4, .int t_1), (0, .ref Az), (1, .int p1), (2, .ref Ao), (3, .int p3)]) hx hb dX1_isLess_28 hl (by decide) rfl (fun ls hl => ?_)
    obtain ⟨I30_6, μ30_6, hi, hw⟩ := hw
    suffices hLI30_6 : ∀ (N : Nat) (i7_4 : Int32) (i5_5 : Int64) (_ : μ30_6 i7_4 i5_5 = N) (_ : I30_6 i7_4 i5_5) (H : Heap) (locs : List Loc) (ls : Array Slot), va_P G vwCl (wX1X1 cI cJ Az Bz Ao Bo lz nz lo no) H → va_D A (wX1X1 cI cJ Az Bz Ao Bo lz nz lo no) → va_S A s.heap H locs → lv_has ls 8 [(7, .int i7_4), (5, .long i5_5), (4, .int t_1), (0, .ref Az), (1, .int p1), (2, .ref Ao), (3, .int p3)] → W p l e rm_X1_isLess s m args below meth c H locs 0 0 Z (F0 m 30 ls []) from
      hLI30_6 _ (0 : Int32) (0 : Int64) rfl hi _ _ _ hP hD hS (lv_sub hl [0, 1, 2, 3, 4, 5, 6] rfl)
    clear hi hP hD hS hl
    intro N
    induction N using Nat.strongRecOn with
    | ind N ihI30_6 =>
      intro i7_4 i5_5 hNI30_6 hi H locs ls hP hD hS hl
      have hw := hw i7_4 i5_5 hi
      refine lv_iload hx hb dX1_isLess_30 (lv_at hl 0 rfl) ?_
      refine lv_iload hx hb dX1_isLess_32 (lv_at hl 2 rfl) ?_
      refine lv_icmp_ge (tgt := 76) hx hb dX1_isLess_34 (by decide) (fun c_14 => ?_) (fun c_14 => ?_)
      · have hw := hw.1 c_14
        refine lv_lload hx hb dX1_isLess_76 (lv_at hl 1 rfl) ?_
        refine lv_lconst (v := 0) hx hb dX1_isLess_78 (by decide) ?_
        refine k_lif_ge (tgt := 87) hx hb dX1_isLess_79 dX1_isLess_80 (by decide) (fun c_7 => ?_) (fun c_7 => ?_)
        · have hw := hw.1 c_7
          refine lv_iconst (v := 0) hx hb dX1_isLess_87 (by decide) ?_
          exact hret _ () _ _ _ _ (Or.inl rfl) hw hP hD hS dX1_isLess_88
        · have hw := hw.2 c_7
          refine lv_iconst (v := 1) hx hb dX1_isLess_83 (by decide) ?_
          refine lv_goto (tgt := 88) hx hb dX1_isLess_84 (by decide) ?_
          exact hret _ () _ _ _ _ (Or.inr rfl) hw hP hD hS dX1_isLess_88
      · have hw := hw.2 c_14
        refine lv_lload hx hb dX1_isLess_37 (lv_at hl 1 rfl) ?_
        refine lv_aload_n hx hb dX1_isLess_39 rfl (lv_at hl 3 rfl) ?_
        refine lv_iload hx hb dX1_isLess_40 (lv_at hl 0 rfl) ?_
        refine k_Vi (M_X1_limbAt l G cI cJ Az Bz lz nz i7_4 _ hw) ⟨hx, hb, hml, hown, hts⟩ (cwV 1 hts gX1_isLess_X1_limbAt rfl rfl rfl (by decide +kernel) ⟨Nat.le_of_ble_eq_true rfl, Nat.le_of_ble_eq_true rfl⟩) hK hP hD hS hA [0, 1] [2, 3] [2, 3, 0, 1] (wr := [(Ao, .inr (1, [.ref Bo, .int no])), (Bo, .inl (cI, 64, .inl lo))]) (wn := fun u : Unit => (wX1X1 cI cJ Az Bz Ao Bo lz nz lo no)) rfl rfl (by decide) (by decide) (by decide) (by decide) (fun _ => rfl) (rest := [.long i5_5]) (q0 := 0) rfl rfl rfl hl.1 rfl (Nat.le_of_ble_eq_true rfl) (Nat.zero_le _) (Nat.zero_le _) dX1_isLess_42 (fun r_8 u H locs hw hP hD hS => ?_)
        refine lv_i2l (v := r_8.toInt64) hx hb dX1_isLess_45 rfl ?_
        refine lv_iload_n hx hb dX1_isLess_46 rfl (lv_at hl 4 rfl) ?_
        refine lv_i2l (v := p1.toInt64) hx hb dX1_isLess_47 rfl ?_
        refine lv_lmul hx hb dX1_isLess_48 ?_
        refine lv_aload_n hx hb dX1_isLess_49 rfl (lv_at hl 5 rfl) ?_
        refine lv_iload hx hb dX1_isLess_50 (lv_at hl 0 rfl) ?_
        refine k_Vi (M_X1_limbAt l G cI cJ Ao Bo lo no i7_4 _ hw) ⟨hx, hb, hml, hown, hts⟩ (cwV 1 hts gX1_isLess_X1_limbAt rfl rfl rfl (by decide +kernel) ⟨Nat.le_of_ble_eq_true rfl, Nat.le_of_ble_eq_true rfl⟩) hK hP hD hS hA [2, 3] [0, 1] [0, 1, 2, 3] (wr := [(Az, .inr (1, [.ref Bz, .int nz])), (Bz, .inl (cI, 64, .inl lz))]) (wn := fun u : Unit => (wX1X1 cI cJ Az Bz Ao Bo lz nz lo no)) rfl rfl (by decide) (by decide) (by decide) (by decide) (fun _ => rfl) (rest := [.long (r_8.toInt64 * p1.toInt64), .long i5_5]) (q0 := 0) rfl rfl rfl hl.1 rfl (Nat.le_of_ble_eq_true rfl) (Nat.zero_le _) (Nat.zero_le _) dX1_isLess_52 (fun r_9 u H locs hw hP hD hS => ?_)
        refine lv_i2l (v := r_9.toInt64) hx hb dX1_isLess_55 rfl ?_
        refine lv_iload_n hx hb dX1_isLess_56 rfl (lv_at hl 6 rfl) ?_
        refine lv_i2l (v := p3.toInt64) hx hb dX1_isLess_57 rfl ?_
        refine lv_lmul hx hb dX1_isLess_58 ?_
        refine lv_lsub hx hb dX1_isLess_59 ?_
        refine lv_topl (fun v_10 ev_10 => ?_)
        have hw := hw v_10 ev_10
        refine lv_ladd hx hb dX1_isLess_60 ?_
        refine lv_topl (fun i5_11 ei5_11 => ?_)
        have hw := hw i5_11 ei5_11
        refine lv_lstore (lv' := [(5, .long i5_11), (7, .int i7_4), (4, .int t_1), (0, .ref Az), (1, .int p1), (2, .ref Ao), (3, .int p3)]) hx hb dX1_isLess_61 hl (by decide) rfl (fun ls hl => ?_)
        refine lv_lload hx hb dX1_isLess_63 (lv_at hl 0 rfl) ?_
        refine lv_bipush (v := 31) hx hb dX1_isLess_65 (by decide) ?_
        refine lv_lshr (v := i5_11 >>> ((31 : Int32).toInt64 &&& 63)) hx hb dX1_isLess_67 rfl ?_
        refine lv_topl (fun i5_12 ei5_12 => ?_)
        have hw := hw i5_12 ei5_12
        refine lv_lstore (lv' := [(5, .long i5_12), (7, .int i7_4), (4, .int t_1), (0, .ref Az), (1, .int p1), (2, .ref Ao), (3, .int p3)]) hx hb dX1_isLess_68 hl (by decide) rfl (fun ls hl => ?_)
        obtain ⟨i7_13, ei7_13⟩ : ∃ y : Int32, y = i7_4 + 1 := ⟨_, rfl⟩
        have hw := hw i7_13 ei7_13
        refine lv_iinc (v := i7_13) (lv' := [(7, .int i7_13), (5, .long i5_12), (4, .int t_1), (0, .ref Az), (1, .int p1), (2, .ref Ao), (3, .int p3)]) hx hb dX1_isLess_70 hl (k := 1) rfl (by rw [ei7_13]; rfl) (by decide) rfl (fun ls hl => ?_)
        refine lv_goto (tgt := 30) hx hb dX1_isLess_73 (by decide) ?_
        exact ihI30_6 _ (by rw [← hNI30_6]; exact hw.2) i7_13 i5_12 rfl hw.1 _ _ _ hP hD hS (lv_sub hl [0, 1, 2, 3, 4, 5, 6] rfl)
  clear hR
  refine lv_icmp_le (tgt := 18) hx hb dX1_isLess_8 (by decide) (fun c_3 => ?_) (fun c_3 => ?_)
  · have hw := hw.1 c_3
    refine lv_aload_n hx hb dX1_isLess_18 rfl (lv_at hl 2 rfl) ?_
    refine k_get hx hb hts uX1_isLess_X1 hown hK hP 2 1 rfl rfl 1 (by decide) fX1_isLess_13 (.int no) rfl dX1_isLess_19 ?_
    exact hJ22_2 no hw _ _ _ hP hD hS (lv_sub hl [0, 1, 2, 3] rfl)
  · have hw := hw.2 c_3
    refine lv_aload_n hx hb dX1_isLess_11 rfl (lv_at hl 0 rfl) ?_
    refine k_get hx hb hts uX1_isLess_X1 hown hK hP 0 1 rfl rfl 1 (by decide) fX1_isLess_13 (.int nz) rfl dX1_isLess_12 ?_
    refine lv_goto (tgt := 22) hx hb dX1_isLess_15 (by decide) ?_
    exact hJ22_2 nz hw _ _ _ hP hD hS (lv_sub hl [0, 1, 2, 3] rfl)
