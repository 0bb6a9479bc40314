/-! The reference, numbers: predicates and walks (laid by wip/whole/gen.py) -/
def wX5 (cI cJ : ClassId) (Ay Bmr Bfg Bln Btp Bbl Btr Bwh : Nat) (mrow : Nat → Int32) (mrs : Int32) (ma : Int32) (mb : Int32) (mlo : Int32) (mhi : Int32) (man : Int32) (mtl : Int32) (mtm : Int32) (fig : Nat → Int64) (len : Nat → Int32) (top : Nat → Int64) (bel : Nat → Int64) (thr : Int32) (trm : Nat → Int32) (who : Nat → Int32) : va_W := [(Ay, .inr (5, [.ref Bmr, .int mrs, .int ma, .int mb, .int mlo, .int mhi, .int man, .int mtl, .int mtm, .ref Bfg, .ref Bln, .ref Btp, .ref Bbl, .int thr, .ref Btr, .ref Bwh])), (Bmr, .inl (cI, 60, .inl mrow)), (Bfg, .inl (cJ, 4608, .inr (.inl fig))), (Bln, .inl (cI, 18, .inl len)), (Btp, .inl (cJ, 520, .inr (.inl top))), (Bbl, .inl (cJ, 520, .inr (.inl bel))), (Btr, .inl (cI, 10, .inl trm)), (Bwh, .inl (cI, 10, .inl who))]
abbrev rm_X5_thrown : Room := { frames := 0, cells := 0, slots := 0, locals := 0 }
abbrev rm_X5_trim : Room := { frames := 0, cells := 0, slots := 0, locals := 0 }
abbrev rm_X5_put : Room := { frames := 1, cells := 0, slots := 0, locals := 23 }
abbrev rm_X5_copy : Room := { frames := 0, cells := 0, slots := 0, locals := 0 }
abbrev rm_X5_take : Room := { frames := 1, cells := 0, slots := 0, locals := 23 }
abbrev rm_X5_figureOf : Room := { frames := 0, cells := 0, slots := 0, locals := 0 }
abbrev rm_X5_compare : Room := { frames := 1, cells := 0, slots := 0, locals := 22 }
abbrev rm_X5_plus : Room := { frames := 2, cells := 0, slots := 0, locals := 46 }
abbrev rm_X5_minus : Room := { frames := 2, cells := 0, slots := 0, locals := 46 }
abbrev rm_X5_times : Room := { frames := 2, cells := 0, slots := 0, locals := 46 }
abbrev rm_X5_divide : Room := { frames := 2, cells := 0, slots := 0, locals := 46 }
abbrev rm_X5_halve : Room := { frames := 1, cells := 0, slots := 0, locals := 23 }
abbrev rm_X5_divisor : Room := { frames := 3, cells := 0, slots := 0, locals := 75 }
def w_X5_thrown (thr : Int32) (Q : Int32 → Prop) : Prop :=
  Q thr

def w_X5_trim (fig : Nat → Int64) (len : Nat → Int32) (p0 : Int32) (p1 : Int32) (Q : (Nat → Int32) → Prop) : Prop :=
  ∃ (I2_2 : Int32 → Prop) (μ2_2 : Int32 → Nat), I2_2 p1 ∧ ∀ (i3_1 : Int32), I2_2 i3_1 →
    ((i3_1 ≤ 0 →
      vp_in p0 18 ∧
      ∀ (len_3 : Nat → Int32), len_3 = upd len p0.toNatClampNeg i3_1 →
      Q len_3
     ) ∧ (¬ i3_1 ≤ 0 →
      ∀ (v_4 : Int32), v_4 = (256 * p0) + i3_1 →
      vp_in (v_4 - 1) 4608 ∧
      ((¬ (fig (v_4 - 1).toNatClampNeg) = 0 →
        vp_in p0 18 ∧
        ∀ (len_5 : Nat → Int32), len_5 = upd len p0.toNatClampNeg i3_1 →
        Q len_5
       ) ∧ ((fig (v_4 - 1).toNatClampNeg) = 0 →
        ∀ (i3_6 : Int32), i3_6 = i3_1 + (-1) →
        I2_2 i3_6 ∧ μ2_2 i3_6 < μ2_2 i3_1
       ))
     ))

def w_X5_put (fig : Nat → Int64) (len : Nat → Int32) (p0 : Int32) (p1 : Int64) (Q : (Nat → Int64) → (Nat → Int32) → Prop) : Prop :=
  vp_in (256 * p0) 4608 ∧
  ∀ (fig_1 : Nat → Int64), fig_1 = vp_updL fig (256 * p0).toNatClampNeg (p1 &&& 2147483647) →
  ∀ (v_2 : Int32), v_2 = (256 * p0) + 1 →
  ∀ (v_3 : Int64), v_3 = (p1 >>> ((31 : Int32).toInt64 &&& 63)) &&& 2147483647 →
  vp_in v_2 4608 ∧
  ∀ (fig_4 : Nat → Int64), fig_4 = vp_updL fig_1 v_2.toNatClampNeg v_3 →
  w_X5_trim fig_4 len p0 (2 : Int32) (fun (len_5 : Nat → Int32) =>
  Q fig_4 len_5)

def w_X5_copy (fig : Nat → Int64) (len : Nat → Int32) (p0 : Int32) (p1 : Int32) (Q : (Nat → Int64) → (Nat → Int32) → Prop) : Prop :=
  ∃ (I2_3 : Int32 → (Nat → Int64) → Prop) (μ2_3 : Int32 → (Nat → Int64) → Nat), I2_3 (0 : Int32) fig ∧ ∀ (i3_1 : Int32) (fig_2 : Nat → Int64), I2_3 i3_1 fig_2 →
    vp_in p1 18 ∧
    (((len p1.toNatClampNeg) ≤ i3_1 →
      vp_in p1 18 ∧
      vp_in p0 18 ∧
      ∀ (len_4 : Nat → Int32), len_4 = upd len p0.toNatClampNeg (len p1.toNatClampNeg) →
      Q fig_2 len_4
     ) ∧ (¬ (len p1.toNatClampNeg) ≤ i3_1 →
      ∀ (v_5 : Int32), v_5 = (256 * p0) + i3_1 →
      ∀ (v_6 : Int32), v_6 = (256 * p1) + i3_1 →
      vp_in v_6 4608 ∧
      vp_in v_5 4608 ∧
      ∀ (fig_7 : Nat → Int64), fig_7 = vp_updL fig_2 v_5.toNatClampNeg (fig_2 v_6.toNatClampNeg) →
      ∀ (i3_8 : Int32), i3_8 = i3_1 + 1 →
      I2_3 i3_8 fig_7 ∧ μ2_3 i3_8 fig_7 < μ2_3 i3_1 fig_2
     ))

def w_X5_take (fig : Nat → Int64) (len : Nat → Int32) (top : Nat → Int64) (p0 : Int32) (p1 : Int32) (Q : (Nat → Int64) → (Nat → Int32) → Prop) : Prop :=
  ∃ (I2_3 : Int32 → (Nat → Int64) → Prop) (μ2_3 : Int32 → (Nat → Int64) → Nat), I2_3 (0 : Int32) fig ∧ ∀ (i3_1 : Int32) (fig_2 : Nat → Int64), I2_3 i3_1 fig_2 →
    ((p1 ≤ i3_1 →
      w_X5_trim fig_2 len p0 p1 (fun (len_4 : Nat → Int32) =>
      Q fig_2 len_4)
     ) ∧ (¬ p1 ≤ i3_1 →
      ∀ (v_5 : Int32), v_5 = (256 * p0) + i3_1 →
      vp_in i3_1 520 ∧
      vp_in v_5 4608 ∧
      ∀ (fig_6 : Nat → Int64), fig_6 = vp_updL fig_2 v_5.toNatClampNeg (top i3_1.toNatClampNeg) →
      ∀ (i3_7 : Int32), i3_7 = i3_1 + 1 →
      I2_3 i3_7 fig_6 ∧ μ2_3 i3_7 fig_6 < μ2_3 i3_1 fig_2
     ))

def w_X5_figureOf (fig : Nat → Int64) (len : Nat → Int32) (p0 : Int32) (p1 : Int32) (Q : Int64 → Prop) : Prop :=
  vp_in p0 18 ∧
  (((len p0.toNatClampNeg) ≤ p1 →
    Q (0 : Int64)
   ) ∧ (¬ (len p0.toNatClampNeg) ≤ p1 →
    ∀ (v_1 : Int32), v_1 = (256 * p0) + p1 →
    vp_in v_1 4608 ∧
    Q (fig v_1.toNatClampNeg)
   ))

def w_X5_compare (fig : Nat → Int64) (len : Nat → Int32) (p0 : Int32) (p1 : Int32) (Q : Int32 → Prop) : Prop :=
  vp_in p0 18 ∧
  vp_in p1 18 ∧
  ∃ (J30_2 : Int32 → Prop), (
    (((len p0.toNatClampNeg) ≤ (len p1.toNatClampNeg) →
      vp_in p1 18 ∧
      J30_2 (len p1.toNatClampNeg)
     ) ∧ (¬ (len p0.toNatClampNeg) ≤ (len p1.toNatClampNeg) →
      vp_in p0 18 ∧
      J30_2 (len p0.toNatClampNeg)
     ))
   ) ∧ (∀ (t_1 : Int32), J30_2 t_1 →
    ∀ (i4_4 : Int32), i4_4 = t_1 - 1 →
    ∃ (I36_6 : Int32 → Prop) (μ36_6 : Int32 → Nat), I36_6 i4_4 ∧ ∀ (i4_5 : Int32), I36_6 i4_5 →
      ((i4_5 < 0 →
        Q (0 : Int32)
       ) ∧ (¬ i4_5 < 0 →
        w_X5_figureOf fig len p0 i4_5 (fun (r_7 : Int64) =>
        w_X5_figureOf fig len p1 i4_5 (fun (r_8 : Int64) =>
        ∀ (i5_9 : Int64), i5_9 = r_7 - r_8 →
        ((i5_9 = 0 →
          ∀ (i4_10 : Int32), i4_10 = i4_5 + (-1) →
          I36_6 i4_10 ∧ μ36_6 i4_10 < μ36_6 i4_5
         ) ∧ (¬ i5_9 = 0 →
          ((0 ≤ i5_9 →
            Q (1 : Int32)
           ) ∧ (¬ 0 ≤ i5_9 →
            Q ((-1) : Int32)
           ))
         ))))
       ))
   )

def w_X5_plus (fig : Nat → Int64) (len : Nat → Int32) (top : Nat → Int64) (p0 : Int32) (p1 : Int32) (p2 : Int32) (Q : (Nat → Int64) → (Nat → Int32) → (Nat → Int64) → Prop) : Prop :=
  vp_in p1 18 ∧
  vp_in p2 18 ∧
  ∃ (J30_2 : Int32 → Prop), (
    (((len p1.toNatClampNeg) ≤ (len p2.toNatClampNeg) →
      vp_in p2 18 ∧
      J30_2 (len p2.toNatClampNeg)
     ) ∧ (¬ (len p1.toNatClampNeg) ≤ (len p2.toNatClampNeg) →
      vp_in p1 18 ∧
      J30_2 (len p1.toNatClampNeg)
     ))
   ) ∧ (∀ (t_1 : Int32), J30_2 t_1 →
    ∀ (i4_4 : Int32), i4_4 = t_1 + 1 →
    ∃ (I40_8 : Int32 → Int64 → (Nat → Int64) → Prop) (μ40_8 : Int32 → Int64 → (Nat → Int64) → Nat), I40_8 (0 : Int32) (0 : Int64) top ∧ ∀ (i7_5 : Int32) (i5_6 : Int64) (top_7 : Nat → Int64), I40_8 i7_5 i5_6 top_7 →
      ((i4_4 ≤ i7_5 →
        w_X5_take fig len top_7 p0 i4_4 (fun (fig_9 : Nat → Int64) (len_10 : Nat → Int32) =>
        Q fig_9 len_10 top_7)
       ) ∧ (¬ i4_4 ≤ i7_5 →
        w_X5_figureOf fig len p1 i7_5 (fun (r_11 : Int64) =>
        w_X5_figureOf fig len p2 i7_5 (fun (r_12 : Int64) =>
        ∀ (v_13 : Int64), v_13 = (r_11 + r_12) + i5_6 →
        vp_in i7_5 520 ∧
        ∀ (top_14 : Nat → Int64), top_14 = vp_updL top_7 i7_5.toNatClampNeg (v_13 &&& 2147483647) →
        ∀ (i5_15 : Int64), i5_15 = v_13 >>> ((31 : Int32).toInt64 &&& 63) →
        ∀ (i7_16 : Int32), i7_16 = i7_5 + 1 →
        I40_8 i7_16 i5_15 top_14 ∧ μ40_8 i7_16 i5_15 top_14 < μ40_8 i7_5 i5_6 top_7))
       ))
   )

def w_X5_minus (fig : Nat → Int64) (len : Nat → Int32) (top : Nat → Int64) (p0 : Int32) (p1 : Int32) (p2 : Int32) (Q : (Nat → Int64) → (Nat → Int32) → (Nat → Int64) → Prop) : Prop :=
  vp_in p1 18 ∧
  ∀ (i4_1 : Int32), i4_1 = len p1.toNatClampNeg →
  ∃ (I14_5 : Int32 → Int64 → (Nat → Int64) → Prop) (μ14_5 : Int32 → Int64 → (Nat → Int64) → Nat), I14_5 (0 : Int32) (0 : Int64) top ∧ ∀ (i7_2 : Int32) (i5_3 : Int64) (top_4 : Nat → Int64), I14_5 i7_2 i5_3 top_4 →
    ((i4_1 ≤ i7_2 →
      w_X5_take fig len top_4 p0 i4_1 (fun (fig_6 : Nat → Int64) (len_7 : Nat → Int32) =>
      Q fig_6 len_7 top_4)
     ) ∧ (¬ i4_1 ≤ i7_2 →
      w_X5_figureOf fig len p1 i7_2 (fun (r_8 : Int64) =>
      w_X5_figureOf fig len p2 i7_2 (fun (r_9 : Int64) =>
      ∀ (v_10 : Int64), v_10 = (r_8 - r_9) - i5_3 →
      vp_in i7_2 520 ∧
      ∀ (top_11 : Nat → Int64), top_11 = vp_updL top_4 i7_2.toNatClampNeg (v_10 &&& 2147483647) →
      ((0 ≤ v_10 →
        ∀ (i7_12 : Int32), i7_12 = i7_2 + 1 →
        I14_5 i7_12 0 top_11 ∧ μ14_5 i7_12 0 top_11 < μ14_5 i7_2 i5_3 top_4
       ) ∧ (¬ 0 ≤ v_10 →
        ∀ (i7_13 : Int32), i7_13 = i7_2 + 1 →
        I14_5 i7_13 1 top_11 ∧ μ14_5 i7_13 1 top_11 < μ14_5 i7_2 i5_3 top_4
       ))))
     ))

def w_X5_times (fig : Nat → Int64) (len : Nat → Int32) (top : Nat → Int64) (p0 : Int32) (p1 : Int32) (p2 : Int32) (Q : (Nat → Int64) → (Nat → Int32) → (Nat → Int64) → Prop) : Prop :=
  vp_in p1 18 ∧
  vp_in p2 18 ∧
  ∀ (v_1 : Int32), v_1 = (len p1.toNatClampNeg) + (len p2.toNatClampNeg) →
  ∃ (I18_4 : Int32 → (Nat → Int64) → Prop) (μ18_4 : Int32 → (Nat → Int64) → Nat), I18_4 (0 : Int32) top ∧ ∀ (i5_2 : Int32) (top_3 : Nat → Int64), I18_4 i5_2 top_3 →
    ((v_1 ≤ i5_2 →
      ∃ (I42_7 : Int32 → (Nat → Int64) → Prop) (μ42_7 : Int32 → (Nat → Int64) → Nat), I42_7 (0 : Int32) top_3 ∧ ∀ (i5_5 : Int32) (top_6 : Nat → Int64), I42_7 i5_5 top_6 →
        vp_in p1 18 ∧
        (((len p1.toNatClampNeg) ≤ i5_5 →
          w_X5_take fig len top_6 p0 v_1 (fun (fig_8 : Nat → Int64) (len_9 : Nat → Int32) =>
          Q fig_8 len_9 top_6)
         ) ∧ (¬ (len p1.toNatClampNeg) ≤ i5_5 →
          ∃ (I59_13 : Int32 → Int64 → (Nat → Int64) → Prop) (μ59_13 : Int32 → Int64 → (Nat → Int64) → Nat), I59_13 (0 : Int32) (0 : Int64) top_6 ∧ ∀ (i8_10 : Int32) (i6_11 : Int64) (top_12 : Nat → Int64), I59_13 i8_10 i6_11 top_12 →
            vp_in p2 18 ∧
            (((len p2.toNatClampNeg) ≤ i8_10 →
              vp_in p2 18 ∧
              ∀ (v_14 : Int32), v_14 = i5_5 + (len p2.toNatClampNeg) →
              vp_in v_14 520 ∧
              ∀ (top_15 : Nat → Int64), top_15 = vp_updL top_12 v_14.toNatClampNeg i6_11 →
              ∀ (i5_16 : Int32), i5_16 = i5_5 + 1 →
              I42_7 i5_16 top_15 ∧ μ42_7 i5_16 top_15 < μ42_7 i5_5 top_6
             ) ∧ (¬ (len p2.toNatClampNeg) ≤ i8_10 →
              ∀ (v_17 : Int32), v_17 = (256 * p1) + i5_5 →
              vp_in v_17 4608 ∧
              ∀ (v_18 : Int32), v_18 = (256 * p2) + i8_10 →
              vp_in v_18 4608 ∧
              ∀ (v_19 : Int64), v_19 = (fig v_17.toNatClampNeg) * (fig v_18.toNatClampNeg) →
              vp_in (i5_5 + i8_10) 520 ∧
              ∀ (v_20 : Int64), v_20 = v_19 + (top_12 (i5_5 + i8_10).toNatClampNeg) →
              ∀ (i9_21 : Int64), i9_21 = v_20 + i6_11 →
              vp_in (i5_5 + i8_10) 520 ∧
              ∀ (top_22 : Nat → Int64), top_22 = vp_updL top_12 (i5_5 + i8_10).toNatClampNeg (i9_21 &&& 2147483647) →
              ∀ (i6_23 : Int64), i6_23 = i9_21 >>> ((31 : Int32).toInt64 &&& 63) →
              ∀ (i8_24 : Int32), i8_24 = i8_10 + 1 →
              I59_13 i8_24 i6_23 top_22 ∧ μ59_13 i8_24 i6_23 top_22 < μ59_13 i8_10 i6_11 top_12
             ))
         ))
     ) ∧ (¬ v_1 ≤ i5_2 →
      vp_in i5_2 520 ∧
      ∀ (top_27 : Nat → Int64), top_27 = vp_updL top_3 i5_2.toNatClampNeg 0 →
      ∀ (i5_28 : Int32), i5_28 = i5_2 + 1 →
      I18_4 i5_28 top_27 ∧ μ18_4 i5_28 top_27 < μ18_4 i5_2 top_3
     ))

def w_X5_divide (fig : Nat → Int64) (len : Nat → Int32) (top : Nat → Int64) (bel : Nat → Int64) (p0 : Int32) (p1 : Int32) (p2 : Int32) (p3 : Int32) (Q : (Nat → Int64) → (Nat → Int32) → (Nat → Int64) → (Nat → Int64) → Prop) : Prop :=
  vp_in p2 18 ∧
  ∀ (v_1 : Int32), v_1 = 31 * (len p2.toNatClampNeg) →
  vp_in p3 18 ∧
  ∀ (v_2 : Int32), v_2 = (len p3.toNatClampNeg) + 1 →
  ∃ (I25_6 : Int32 → (Nat → Int64) → (Nat → Int64) → Prop) (μ25_6 : Int32 → (Nat → Int64) → (Nat → Int64) → Nat), I25_6 (0 : Int32) top bel ∧ ∀ (i7_3 : Int32) (top_4 : Nat → Int64) (bel_5 : Nat → Int64), I25_6 i7_3 top_4 bel_5 →
    ((v_2 ≤ i7_3 →
      vp_in p2 18 ∧
      ∀ (i7_7 : Int32), i7_7 = len p2.toNatClampNeg →
      ∃ (I72_10 : Int32 → (Nat → Int64) → Prop) (μ72_10 : Int32 → (Nat → Int64) → Nat), I72_10 (0 : Int32) fig ∧ ∀ (i8_8 : Int32) (fig_9 : Nat → Int64), I72_10 i8_8 fig_9 →
        ((i7_7 ≤ i8_8 →
          ∀ (i8_11 : Int32), i8_11 = v_1 - 1 →
          ∃ (I105_15 : Int32 → (Nat → Int64) → (Nat → Int64) → Prop) (μ105_15 : Int32 → (Nat → Int64) → (Nat → Int64) → Nat), I105_15 i8_11 fig_9 top_4 ∧ ∀ (i8_12 : Int32) (fig_13 : Nat → Int64) (top_14 : Nat → Int64), I105_15 i8_12 fig_13 top_14 →
            ((i8_12 < 0 →
              w_X5_trim fig_13 len p0 i7_7 (fun (len_16 : Nat → Int32) =>
              w_X5_take fig_13 len_16 top_14 p1 v_2 (fun (fig_17 : Nat → Int64) (len_18 : Nat → Int32) =>
              Q fig_17 len_18 top_14 bel_5))
             ) ∧ (¬ i8_12 < 0 →
              ∀ (v_19 : Int32), v_19 = i8_12 / 31 →
              ∀ (v_20 : Int32), v_20 = (256 * p2) + v_19 →
              vp_in v_20 4608 ∧
              ∀ (v_21 : Int32), v_21 = i8_12 - i8_12 / 31 * 31 →
              ∀ (v_22 : Int64), v_22 = (fig_13 v_20.toNatClampNeg) >>> (v_21.toInt64 &&& 63) →
              ∀ (i9_23 : Int64), i9_23 = v_22 &&& 1 →
              ∃ (I139_27 : Int32 → Int64 → (Nat → Int64) → Prop) (μ139_27 : Int32 → Int64 → (Nat → Int64) → Nat), I139_27 (0 : Int32) i9_23 top_14 ∧ ∀ (i11_24 : Int32) (i9_25 : Int64) (top_26 : Nat → Int64), I139_27 i11_24 i9_25 top_26 →
                ((v_2 ≤ i11_24 →
                  ∀ (i11_28 : Int32), i11_28 = v_2 - 1 →
                  ∃ (I192_30 : Int32 → Prop) (μ192_30 : Int32 → Nat), I192_30 i11_28 ∧ ∀ (i11_29 : Int32), I192_30 i11_29 →
                    ∃ (J221_31 : Prop), (
                      ((i11_29 ≤ 0 →
                        J221_31
                       ) ∧ (¬ i11_29 ≤ 0 →
                        vp_in i11_29 520 ∧
                        vp_in i11_29 520 ∧
                        ((¬ (top_26 i11_29.toNatClampNeg) = (bel_5 i11_29.toNatClampNeg) →
                          J221_31
                         ) ∧ ((top_26 i11_29.toNatClampNeg) = (bel_5 i11_29.toNatClampNeg) →
                          ∀ (i11_32 : Int32), i11_32 = i11_29 + (-1) →
                          I192_30 i11_32 ∧ μ192_30 i11_32 < μ192_30 i11_29
                         ))
                       ))
                     ) ∧ (J221_31 →
                      vp_in i11_29 520 ∧
                      vp_in i11_29 520 ∧
                      (((top_26 i11_29.toNatClampNeg) < (bel_5 i11_29.toNatClampNeg) →
                        ∀ (i8_35 : Int32), i8_35 = i8_12 + (-1) →
                        I105_15 i8_35 fig_13 top_26 ∧ μ105_15 i8_35 fig_13 top_26 < μ105_15 i8_12 fig_13 top_14
                       ) ∧ (¬ (top_26 i11_29.toNatClampNeg) < (bel_5 i11_29.toNatClampNeg) →
                        ∃ (I245_39 : Int32 → Int64 → (Nat → Int64) → Prop) (μ245_39 : Int32 → Int64 → (Nat → Int64) → Nat), I245_39 (0 : Int32) (0 : Int64) top_26 ∧ ∀ (i14_36 : Int32) (i12_37 : Int64) (top_38 : Nat → Int64), I245_39 i14_36 i12_37 top_38 →
                          ((v_2 ≤ i14_36 →
                            ∀ (v_40 : Int32), v_40 = i8_12 / 31 →
                            ∀ (v_41 : Int32), v_41 = (256 * p0) + v_40 →
                            vp_in v_41 4608 ∧
                            ∀ (v_42 : Int32), v_42 = i8_12 - i8_12 / 31 * 31 →
                            ∀ (v_43 : Int64), v_43 = (fig_13 v_41.toNatClampNeg) ||| ((1 : Int64) <<< (v_42.toInt64 &&& 63)) →
                            vp_in v_41 4608 ∧
                            ∀ (fig_44 : Nat → Int64), fig_44 = vp_updL fig_13 v_41.toNatClampNeg v_43 →
                            ∀ (i8_45 : Int32), i8_45 = i8_12 + (-1) →
                            I105_15 i8_45 fig_44 top_38 ∧ μ105_15 i8_45 fig_44 top_38 < μ105_15 i8_12 fig_13 top_14
                           ) ∧ (¬ v_2 ≤ i14_36 →
                            vp_in i14_36 520 ∧
                            vp_in i14_36 520 ∧
                            ∀ (v_46 : Int64), v_46 = (top_38 i14_36.toNatClampNeg) - (bel_5 i14_36.toNatClampNeg) →
                            ∀ (i15_47 : Int64), i15_47 = v_46 - i12_37 →
                            vp_in i14_36 520 ∧
                            ∀ (top_48 : Nat → Int64), top_48 = vp_updL top_38 i14_36.toNatClampNeg (i15_47 &&& 2147483647) →
                            ((0 ≤ i15_47 →
                              ∀ (i14_49 : Int32), i14_49 = i14_36 + 1 →
                              I245_39 i14_49 0 top_48 ∧ μ245_39 i14_49 0 top_48 < μ245_39 i14_36 i12_37 top_38
                             ) ∧ (¬ 0 ≤ i15_47 →
                              ∀ (i14_50 : Int32), i14_50 = i14_36 + 1 →
                              I245_39 i14_50 1 top_48 ∧ μ245_39 i14_50 1 top_48 < μ245_39 i14_36 i12_37 top_38
                             ))
                           ))
                       ))
                     )
                 ) ∧ (¬ v_2 ≤ i11_24 →
                  vp_in i11_24 520 ∧
                  ∀ (v_54 : Int64), v_54 = (top_26 i11_24.toNatClampNeg) <<< ((1 : Int32).toInt64 &&& 63) →
                  ∀ (i12_55 : Int64), i12_55 = v_54 ||| i9_25 →
                  vp_in i11_24 520 ∧
                  ∀ (top_56 : Nat → Int64), top_56 = vp_updL top_26 i11_24.toNatClampNeg (i12_55 &&& 2147483647) →
                  ∀ (i9_57 : Int64), i9_57 = i12_55 >>> ((31 : Int32).toInt64 &&& 63) →
                  ∀ (i11_58 : Int32), i11_58 = i11_24 + 1 →
                  I139_27 i11_58 i9_57 top_56 ∧ μ139_27 i11_58 i9_57 top_56 < μ139_27 i11_24 i9_25 top_26
                 ))
             ))
         ) ∧ (¬ i7_7 ≤ i8_8 →
          ∀ (v_61 : Int32), v_61 = (256 * p0) + i8_8 →
          vp_in v_61 4608 ∧
          ∀ (fig_62 : Nat → Int64), fig_62 = vp_updL fig_9 v_61.toNatClampNeg 0 →
          ∀ (i8_63 : Int32), i8_63 = i8_8 + 1 →
          I72_10 i8_63 fig_62 ∧ μ72_10 i8_63 fig_62 < μ72_10 i8_8 fig_9
         ))
     ) ∧ (¬ v_2 ≤ i7_3 →
      vp_in i7_3 520 ∧
      ∀ (top_65 : Nat → Int64), top_65 = vp_updL top_4 i7_3.toNatClampNeg 0 →
      w_X5_figureOf fig len p3 i7_3 (fun (r_66 : Int64) =>
      vp_in i7_3 520 ∧
      ∀ (bel_67 : Nat → Int64), bel_67 = vp_updL bel_5 i7_3.toNatClampNeg r_66 →
      ∀ (i7_68 : Int32), i7_68 = i7_3 + 1 →
      I25_6 i7_68 top_65 bel_67 ∧ μ25_6 i7_68 top_65 bel_67 < μ25_6 i7_3 top_4 bel_5)
     ))

def w_X5_halve (fig : Nat → Int64) (len : Nat → Int32) (p0 : Int32) (Q : (Nat → Int64) → (Nat → Int32) → Prop) : Prop :=
  vp_in p0 18 ∧
  ∀ (v_1 : Int32), v_1 = (len p0.toNatClampNeg) - 1 →
  ∃ (I12_5 : Int32 → Int64 → (Nat → Int64) → Prop) (μ12_5 : Int32 → Int64 → (Nat → Int64) → Nat), I12_5 v_1 (0 : Int64) fig ∧ ∀ (i4_2 : Int32) (i2_3 : Int64) (fig_4 : Nat → Int64), I12_5 i4_2 i2_3 fig_4 →
    ((i4_2 < 0 →
      vp_in p0 18 ∧
      w_X5_trim fig_4 len p0 (len p0.toNatClampNeg) (fun (len_6 : Nat → Int32) =>
      Q fig_4 len_6)
     ) ∧ (¬ i4_2 < 0 →
      ∀ (v_7 : Int32), v_7 = (256 * p0) + i4_2 →
      vp_in v_7 4608 ∧
      ∀ (i5_8 : Int64), i5_8 = fig_4 v_7.toNatClampNeg →
      ∀ (v_9 : Int32), v_9 = (256 * p0) + i4_2 →
      ∀ (v_10 : Int64), v_10 = (i5_8 >>> ((1 : Int32).toInt64 &&& 63)) ||| (i2_3 <<< ((30 : Int32).toInt64 &&& 63)) →
      vp_in v_9 4608 ∧
      ∀ (fig_11 : Nat → Int64), fig_11 = vp_updL fig_4 v_9.toNatClampNeg v_10 →
      ∀ (i2_12 : Int64), i2_12 = i5_8 &&& 1 →
      ∀ (i4_13 : Int32), i4_13 = i4_2 + (-1) →
      I12_5 i4_13 i2_12 fig_11 ∧ μ12_5 i4_13 i2_12 fig_11 < μ12_5 i4_2 i2_3 fig_4
     ))

def w_X5_divisor (fig : Nat → Int64) (len : Nat → Int32) (top : Nat → Int64) (p0 : Int32) (p1 : Int32) (Q : (Nat → Int64) → (Nat → Int32) → (Nat → Int64) → Prop) : Prop :=
  w_X5_copy fig len (10 : Int32) p0 (fun (fig_1 : Nat → Int64) (len_2 : Nat → Int32) =>
  w_X5_copy fig_1 len_2 (11 : Int32) p1 (fun (fig_3 : Nat → Int64) (len_4 : Nat → Int32) =>
  vp_in 10 18 ∧
  (((len_4 (10 : Int32).toNatClampNeg) = 0 →
    vp_in p0 18 ∧
    ((¬ (len_4 p0.toNatClampNeg) = 0 →
      w_X5_copy fig_3 len_4 (10 : Int32) p0 (fun (fig_5 : Nat → Int64) (len_6 : Nat → Int32) =>
      Q fig_5 len_6 top)
     ) ∧ ((len_4 p0.toNatClampNeg) = 0 →
      w_X5_copy fig_3 len_4 (10 : Int32) p1 (fun (fig_7 : Nat → Int64) (len_8 : Nat → Int32) =>
      Q fig_7 len_8 top)
     ))
   ) ∧ (¬ (len_4 (10 : Int32).toNatClampNeg) = 0 →
    vp_in 11 18 ∧
    ((¬ (len_4 (11 : Int32).toNatClampNeg) = 0 →
      ∃ (I57_13 : Int32 → (Nat → Int64) → (Nat → Int32) → Prop) (μ57_13 : Int32 → (Nat → Int64) → (Nat → Int32) → Nat), I57_13 (0 : Int32) fig_3 len_4 ∧ ∀ (i3_10 : Int32) (fig_11 : Nat → Int64) (len_12 : Nat → Int32), I57_13 i3_10 fig_11 len_12 →
        vp_in 2560 4608 ∧
        ∀ (v_14 : Int64), v_14 = (fig_11 (2560 : Int32).toNatClampNeg) - (fig_11 (2560 : Int32).toNatClampNeg) / 2 * 2 →
        ((¬ v_14 = 0 →
          ∃ (I109_18 : (Nat → Int64) → (Nat → Int32) → (Nat → Int64) → Prop) (μ109_18 : (Nat → Int64) → (Nat → Int32) → (Nat → Int64) → Nat), I109_18 fig_11 len_12 top ∧ ∀ (fig_15 : Nat → Int64) (len_16 : Nat → Int32) (top_17 : Nat → Int64), I109_18 fig_15 len_16 top_17 →
            vp_in 11 18 ∧
            (((len_16 (11 : Int32).toNatClampNeg) ≤ 0 →
              ∃ (I222_23 : Int32 → (Nat → Int64) → (Nat → Int32) → (Nat → Int64) → Prop) (μ222_23 : Int32 → (Nat → Int64) → (Nat → Int32) → (Nat → Int64) → Nat), I222_23 (0 : Int32) fig_15 len_16 top_17 ∧ ∀ (i4_19 : Int32) (fig_20 : Nat → Int64) (len_21 : Nat → Int32) (top_22 : Nat → Int64), I222_23 i4_19 fig_20 len_21 top_22 →
                ((i3_10 ≤ i4_19 →
                  Q fig_20 len_21 top_22
                 ) ∧ (¬ i3_10 ≤ i4_19 →
                  w_X5_plus fig_20 len_21 top_22 (10 : Int32) (10 : Int32) (10 : Int32) (fun (fig_24 : Nat → Int64) (len_25 : Nat → Int32) (top_26 : Nat → Int64) =>
                  ∀ (i4_27 : Int32), i4_27 = i4_19 + 1 →
                  I222_23 i4_27 fig_24 len_25 top_26 ∧ μ222_23 i4_27 fig_24 len_25 top_26 < μ222_23 i4_19 fig_20 len_21 top_22)
                 ))
             ) ∧ (¬ (len_16 (11 : Int32).toNatClampNeg) ≤ 0 →
              ∃ (I119_31 : (Nat → Int64) → (Nat → Int32) → Prop) (μ119_31 : (Nat → Int64) → (Nat → Int32) → Nat), I119_31 fig_15 len_16 ∧ ∀ (fig_29 : Nat → Int64) (len_30 : Nat → Int32), I119_31 fig_29 len_30 →
                vp_in 2560 4608 ∧
                ∀ (v_32 : Int64), v_32 = (fig_29 (2560 : Int32).toNatClampNeg) - (fig_29 (2560 : Int32).toNatClampNeg) / 2 * 2 →
                ((¬ v_32 = 0 →
                  ∃ (I145_35 : (Nat → Int64) → (Nat → Int32) → Prop) (μ145_35 : (Nat → Int64) → (Nat → Int32) → Nat), I145_35 fig_29 len_30 ∧ ∀ (fig_33 : Nat → Int64) (len_34 : Nat → Int32), I145_35 fig_33 len_34 →
                    vp_in 2816 4608 ∧
                    ∀ (v_36 : Int64), v_36 = (fig_33 (2816 : Int32).toNatClampNeg) - (fig_33 (2816 : Int32).toNatClampNeg) / 2 * 2 →
                    ((¬ v_36 = 0 →
                      w_X5_compare fig_33 len_34 (10 : Int32) (11 : Int32) (fun (r_37 : Int32) =>
                      ((r_37 ≤ 0 →
                        w_X5_minus fig_33 len_34 top_17 (11 : Int32) (11 : Int32) (10 : Int32) (fun (fig_38 : Nat → Int64) (len_39 : Nat → Int32) (top_40 : Nat → Int64) =>
                        I109_18 fig_38 len_39 top_40 ∧ μ109_18 fig_38 len_39 top_40 < μ109_18 fig_15 len_16 top_17)
                       ) ∧ (¬ r_37 ≤ 0 →
                        w_X5_copy fig_33 len_34 (13 : Int32) (10 : Int32) (fun (fig_41 : Nat → Int64) (len_42 : Nat → Int32) =>
                        w_X5_copy fig_41 len_42 (10 : Int32) (11 : Int32) (fun (fig_43 : Nat → Int64) (len_44 : Nat → Int32) =>
                        w_X5_copy fig_43 len_44 (11 : Int32) (13 : Int32) (fun (fig_45 : Nat → Int64) (len_46 : Nat → Int32) =>
                        w_X5_minus fig_45 len_46 top_17 (11 : Int32) (11 : Int32) (10 : Int32) (fun (fig_47 : Nat → Int64) (len_48 : Nat → Int32) (top_49 : Nat → Int64) =>
                        I109_18 fig_47 len_48 top_49 ∧ μ109_18 fig_47 len_48 top_49 < μ109_18 fig_15 len_16 top_17))))
                       )))
                     ) ∧ (v_36 = 0 →
                      w_X5_halve fig_33 len_34 (11 : Int32) (fun (fig_51 : Nat → Int64) (len_52 : Nat → Int32) =>
                      I145_35 fig_51 len_52 ∧ μ145_35 fig_51 len_52 < μ145_35 fig_33 len_34)
                     ))
                 ) ∧ (v_32 = 0 →
                  w_X5_halve fig_29 len_30 (10 : Int32) (fun (fig_54 : Nat → Int64) (len_55 : Nat → Int32) =>
                  I119_31 fig_54 len_55 ∧ μ119_31 fig_54 len_55 < μ119_31 fig_29 len_30)
                 ))
             ))
         ) ∧ (v_14 = 0 →
          vp_in 2816 4608 ∧
          ∀ (v_58 : Int64), v_58 = (fig_11 (2816 : Int32).toNatClampNeg) - (fig_11 (2816 : Int32).toNatClampNeg) / 2 * 2 →
          ((¬ v_58 = 0 →
            ∃ (I109_62 : (Nat → Int64) → (Nat → Int32) → (Nat → Int64) → Prop) (μ109_62 : (Nat → Int64) → (Nat → Int32) → (Nat → Int64) → Nat), I109_62 fig_11 len_12 top ∧ ∀ (fig_59 : Nat → Int64) (len_60 : Nat → Int32) (top_61 : Nat → Int64), I109_62 fig_59 len_60 top_61 →
              vp_in 11 18 ∧
              (((len_60 (11 : Int32).toNatClampNeg) ≤ 0 →
                ∃ (I222_67 : Int32 → (Nat → Int64) → (Nat → Int32) → (Nat → Int64) → Prop) (μ222_67 : Int32 → (Nat → Int64) → (Nat → Int32) → (Nat → Int64) → Nat), I222_67 (0 : Int32) fig_59 len_60 top_61 ∧ ∀ (i4_63 : Int32) (fig_64 : Nat → Int64) (len_65 : Nat → Int32) (top_66 : Nat → Int64), I222_67 i4_63 fig_64 len_65 top_66 →
                  ((i3_10 ≤ i4_63 →
                    Q fig_64 len_65 top_66
                   ) ∧ (¬ i3_10 ≤ i4_63 →
                    w_X5_plus fig_64 len_65 top_66 (10 : Int32) (10 : Int32) (10 : Int32) (fun (fig_68 : Nat → Int64) (len_69 : Nat → Int32) (top_70 : Nat → Int64) =>
                    ∀ (i4_71 : Int32), i4_71 = i4_63 + 1 →
                    I222_67 i4_71 fig_68 len_69 top_70 ∧ μ222_67 i4_71 fig_68 len_69 top_70 < μ222_67 i4_63 fig_64 len_65 top_66)
                   ))
               ) ∧ (¬ (len_60 (11 : Int32).toNatClampNeg) ≤ 0 →
                ∃ (I119_75 : (Nat → Int64) → (Nat → Int32) → Prop) (μ119_75 : (Nat → Int64) → (Nat → Int32) → Nat), I119_75 fig_59 len_60 ∧ ∀ (fig_73 : Nat → Int64) (len_74 : Nat → Int32), I119_75 fig_73 len_74 →
                  vp_in 2560 4608 ∧
                  ∀ (v_76 : Int64), v_76 = (fig_73 (2560 : Int32).toNatClampNeg) - (fig_73 (2560 : Int32).toNatClampNeg) / 2 * 2 →
                  ((¬ v_76 = 0 →
                    ∃ (I145_79 : (Nat → Int64) → (Nat → Int32) → Prop) (μ145_79 : (Nat → Int64) → (Nat → Int32) → Nat), I145_79 fig_73 len_74 ∧ ∀ (fig_77 : Nat → Int64) (len_78 : Nat → Int32), I145_79 fig_77 len_78 →
                      vp_in 2816 4608 ∧
                      ∀ (v_80 : Int64), v_80 = (fig_77 (2816 : Int32).toNatClampNeg) - (fig_77 (2816 : Int32).toNatClampNeg) / 2 * 2 →
                      ((¬ v_80 = 0 →
                        w_X5_compare fig_77 len_78 (10 : Int32) (11 : Int32) (fun (r_81 : Int32) =>
                        ((r_81 ≤ 0 →
                          w_X5_minus fig_77 len_78 top_61 (11 : Int32) (11 : Int32) (10 : Int32) (fun (fig_82 : Nat → Int64) (len_83 : Nat → Int32) (top_84 : Nat → Int64) =>
                          I109_62 fig_82 len_83 top_84 ∧ μ109_62 fig_82 len_83 top_84 < μ109_62 fig_59 len_60 top_61)
                         ) ∧ (¬ r_81 ≤ 0 →
                          w_X5_copy fig_77 len_78 (13 : Int32) (10 : Int32) (fun (fig_85 : Nat → Int64) (len_86 : Nat → Int32) =>
                          w_X5_copy fig_85 len_86 (10 : Int32) (11 : Int32) (fun (fig_87 : Nat → Int64) (len_88 : Nat → Int32) =>
                          w_X5_copy fig_87 len_88 (11 : Int32) (13 : Int32) (fun (fig_89 : Nat → Int64) (len_90 : Nat → Int32) =>
                          w_X5_minus fig_89 len_90 top_61 (11 : Int32) (11 : Int32) (10 : Int32) (fun (fig_91 : Nat → Int64) (len_92 : Nat → Int32) (top_93 : Nat → Int64) =>
                          I109_62 fig_91 len_92 top_93 ∧ μ109_62 fig_91 len_92 top_93 < μ109_62 fig_59 len_60 top_61))))
                         )))
                       ) ∧ (v_80 = 0 →
                        w_X5_halve fig_77 len_78 (11 : Int32) (fun (fig_95 : Nat → Int64) (len_96 : Nat → Int32) =>
                        I145_79 fig_95 len_96 ∧ μ145_79 fig_95 len_96 < μ145_79 fig_77 len_78)
                       ))
                   ) ∧ (v_76 = 0 →
                    w_X5_halve fig_73 len_74 (10 : Int32) (fun (fig_98 : Nat → Int64) (len_99 : Nat → Int32) =>
                    I119_75 fig_98 len_99 ∧ μ119_75 fig_98 len_99 < μ119_75 fig_73 len_74)
                   ))
               ))
           ) ∧ (v_58 = 0 →
            w_X5_halve fig_11 len_12 (10 : Int32) (fun (fig_102 : Nat → Int64) (len_103 : Nat → Int32) =>
            w_X5_halve fig_102 len_103 (11 : Int32) (fun (fig_104 : Nat → Int64) (len_105 : Nat → Int32) =>
            ∀ (i3_106 : Int32), i3_106 = i3_10 + 1 →
            I57_13 i3_106 fig_104 len_105 ∧ μ57_13 i3_106 fig_104 len_105 < μ57_13 i3_10 fig_11 len_12))
           ))
         ))
     ) ∧ ((len_4 (11 : Int32).toNatClampNeg) = 0 →
      vp_in p0 18 ∧
      ((¬ (len_4 p0.toNatClampNeg) = 0 →
        w_X5_copy fig_3 len_4 (10 : Int32) p0 (fun (fig_109 : Nat → Int64) (len_110 : Nat → Int32) =>
        Q fig_109 len_110 top)
       ) ∧ ((len_4 p0.toNatClampNeg) = 0 →
        w_X5_copy fig_3 len_4 (10 : Int32) p1 (fun (fig_111 : Nat → Int64) (len_112 : Nat → Int32) =>
        Q fig_111 len_112 top)
       ))
     ))
   ))))

theorem fX5_thrown_46 : Cond.fieldLink RX5 46 "PrivateCountsModel" "thrown" "I" ∈ wsX5_thrown := by decide +kernel
theorem uX5_thrown_X5 : ∀ w ∈ u_ws RX5 TX5 16, w ∈ wsX5_thrown := by decide +kernel
set_option maxHeartbeats 4000000 in
set_option maxRecDepth 100000 in
theorem M_X5_thrown (l : Launch) (G : va_G) (cI cJ : ClassId) (Ay Bmr Bfg Bln Btp Bbl Btr Bwh : Nat) (mrow : Nat → Int32) (mrs : Int32) (ma : Int32) (mb : Int32) (mlo : Int32) (mhi : Int32) (man : Int32) (mtl : Int32) (mtm : Int32) (fig : Nat → Int64) (len : Nat → Int32) (top : Nat → Int64) (bel : Nat → Int64) (thr : Int32) (trm : Nat → Int32) (who : Nat → Int32) (Q : Int32 → Prop) (hw : w_X5_thrown thr Q) : Ki l yX5_thrown wsX5_thrown rm_X5_thrown G cI cJ [.ref Ay] (wX5 cI cJ Ay Bmr Bfg Bln Btp Bbl Btr Bwh mrow mrs ma mb mlo mhi man mtl mtm fig len top bel thr trm who) (fun (r : Int32) (u : Unit) => Q r) (fun u => (wX5 cI cJ Ay Bmr Bfg Bln Btp Bbl Btr Bwh mrow mrs ma mb mlo mhi man mtl mtm fig len top bel thr trm who)) := by
  refine ki_intro (cc := cX5_thrown) (maxL := 1) rfl rfl (by decide) rfl (Nat.le_of_ble_eq_true rfl) ?_
  intro p e s m args below meth c A Z ls hx hb hml hts hown hP hK hD hS hA hl hret
  have hl : lv_has ls 1 [(0, .ref Ay)] := hl
  unfold w_X5_thrown at hw
  refine lv_aload_n hx hb dX5_thrown_0 rfl (lv_at hl 0 rfl) ?_
  refine k_get hx hb hts uX5_thrown_X5 hown hK hP 0 5 rfl rfl 13 (by decide) fX5_thrown_46 (.int thr) rfl dX5_thrown_1 ?_
  exact hret _ () _ _ _ _ hw hP hD hS dX5_thrown_4
theorem fX5_trim_27 : Cond.fieldLink RX5 27 "PrivateCountsModel" "length" "[I" ∈ wsX5_trim := by decide +kernel
theorem uX5_trim_X5 : ∀ w ∈ u_ws RX5 TX5 16, w ∈ wsX5_trim := by decide +kernel
theorem fX5_trim_23 : Cond.fieldLink RX5 23 "PrivateCountsModel" "figure" "[J" ∈ wsX5_trim := by decide +kernel
set_option maxHeartbeats 4000000 in
set_option maxRecDepth 100000 in
theorem M_X5_trim (l : Launch) (G : va_G) (cI cJ : ClassId) (Ay Bmr Bfg Bln Btp Bbl Btr Bwh : Nat) (mrow : Nat → Int32) (mrs : Int32) (ma : Int32) (mb : Int32) (mlo : Int32) (mhi : Int32) (man : Int32) (mtl : Int32) (mtm : Int32) (fig : Nat → Int64) (len : Nat → Int32) (top : Nat → Int64) (bel : Nat → Int64) (thr : Int32) (trm : Nat → Int32) (who : Nat → Int32) (p0 : Int32) (p1 : Int32) (Q : (Nat → Int32) → Prop) (hw : w_X5_trim fig len p0 p1 Q) : Kv l yX5_trim wsX5_trim rm_X5_trim G cI cJ [.ref Ay, .int p0, .int p1] (wX5 cI cJ Ay Bmr Bfg Bln Btp Bbl Btr Bwh mrow mrs ma mb mlo mhi man mtl mtm fig len top bel thr trm who) (fun (u : (Nat → Int32)) => Q u) (fun u => (wX5 cI cJ Ay Bmr Bfg Bln Btp Bbl Btr Bwh mrow mrs ma mb mlo mhi man mtl mtm fig u top bel thr trm who)) := by
  refine kv_intro (cc := cX5_trim) (maxL := 4) rfl rfl (by decide) rfl (Nat.le_of_ble_eq_true rfl) ?_
  intro p e s m args below meth c A Z ls hx hb hml hts hown hP hK hD hS hA hl hret
  have hl : lv_has ls 4 [(0, .ref Ay), (1, .int p0), (2, .int p1)] := hl
  unfold w_X5_trim at hw
  refine lv_iload_n hx hb dX5_trim_0 rfl (lv_at hl 2 rfl) ?_
  refine lv_istore_n (lv' := [(3, .int p1), (0, .ref Ay), (1, .int p0), (2, .int p1)]) hx hb dX5_trim_1 rfl hl (by decide) rfl (fun ls hl => ?_)
  obtain ⟨I2_2, μ2_2, hi, hw⟩ := hw
  suffices hLI2_2 : ∀ (N : Nat) (i3_1 : Int32) (_ : μ2_2 i3_1 = N) (_ : I2_2 i3_1) (H : Heap) (locs : List Loc) (ls : Array Slot), va_P G vwCl (wX5 cI cJ Ay Bmr Bfg Bln Btp Bbl Btr Bwh mrow mrs ma mb mlo mhi man mtl mtm fig len top bel thr trm who) H → va_D A (wX5 cI cJ Ay Bmr Bfg Bln Btp Bbl Btr Bwh mrow mrs ma mb mlo mhi man mtl mtm fig len top bel thr trm who) → va_S A s.heap H locs → lv_has ls 4 [(3, .int i3_1), (0, .ref Ay), (1, .int p0)] → W p l e rm_X5_trim s m args below meth c H locs 0 0 Z (F0 m 2 ls []) from
    hLI2_2 _ p1 rfl hi _ _ _ hP hD hS (lv_sub hl [0, 1, 2] rfl)
  clear hi hP hD hS hl
  intro N
  induction N using Nat.strongRecOn with
  | ind N ihI2_2 =>
    intro i3_1 hNI2_2 hi H locs ls hP hD hS hl
    have hw := hw i3_1 hi
    refine lv_iload_n hx hb dX5_trim_2 rfl (lv_at hl 0 rfl) ?_
    refine lv_if_le (tgt := 31) hx hb dX5_trim_3 (by decide) (fun c_8 => ?_) (fun c_8 => ?_)
    · have hw := hw.1 c_8
      refine lv_aload_n hx hb dX5_trim_31 rfl (lv_at hl 1 rfl) ?_
      refine k_get hx hb hts uX5_trim_X5 hown hK hP 0 5 rfl rfl 10 (by decide) fX5_trim_27 (.ref Bln) rfl dX5_trim_32 ?_
      refine lv_iload_n hx hb dX5_trim_35 rfl (lv_at hl 2 rfl) ?_
      refine lv_iload_n hx hb dX5_trim_36 rfl (lv_at hl 0 rfl) ?_
      obtain ⟨hin, hw⟩ := hw
      refine k_iast hx hb hK hP hD hS 3 rfl hin (w' := fun g => (wX5 cI cJ Ay Bmr Bfg Bln Btp Bbl Btr Bwh mrow mrs ma mb mlo mhi man mtl mtm fig g top bel thr trm who)) (fun _ => rfl) dX5_trim_37 (fun len_3 elen_3 H locs hP hD hS => ?_)
      have hw := hw len_3 elen_3
      exact hret len_3 _ _ _ _ hw hP hD hS dX5_trim_38
    · have hw := hw.2 c_8
      refine lv_aload_n hx hb dX5_trim_6 rfl (lv_at hl 1 rfl) ?_
      refine k_get hx hb hts uX5_trim_X5 hown hK hP 0 5 rfl rfl 9 (by decide) fX5_trim_23 (.ref Bfg) rfl dX5_trim_7 ?_
      refine lv_sipush (v := 256) hx hb dX5_trim_10 (by decide) ?_
      refine lv_iload_n hx hb dX5_trim_13 rfl (lv_at hl 2 rfl) ?_
      refine lv_imul hx hb dX5_trim_14 ?_
      refine lv_iload_n hx hb dX5_trim_15 rfl (lv_at hl 0 rfl) ?_
      refine lv_iadd hx hb dX5_trim_16 ?_
      refine lv_topi (fun v_4 ev_4 => ?_)
      have hw := hw v_4 ev_4
      refine lv_iconst (v := 1) hx hb dX5_trim_17 (by decide) ?_
      refine lv_isub hx hb dX5_trim_18 ?_
      obtain ⟨hin, hw⟩ := hw
      refine k_lald hx hb hK hP 2 rfl hin dX5_trim_19 ?_
      refine lv_lconst (v := 0) hx hb dX5_trim_20 (by decide) ?_
      refine k_lif_ne (tgt := 31) hx hb dX5_trim_21 dX5_trim_22 (by decide) (fun c_7 => ?_) (fun c_7 => ?_)
      · have hw := hw.1 c_7
        refine lv_aload_n hx hb dX5_trim_31 rfl (lv_at hl 1 rfl) ?_
        refine k_get hx hb hts uX5_trim_X5 hown hK hP 0 5 rfl rfl 10 (by decide) fX5_trim_27 (.ref Bln) rfl dX5_trim_32 ?_
        refine lv_iload_n hx hb dX5_trim_35 rfl (lv_at hl 2 rfl) ?_
        refine lv_iload_n hx hb dX5_trim_36 rfl (lv_at hl 0 rfl) ?_
        obtain ⟨hin, hw⟩ := hw
        refine k_iast hx hb hK hP hD hS 3 rfl hin (w' := fun g => (wX5 cI cJ Ay Bmr Bfg Bln Btp Bbl Btr Bwh mrow mrs ma mb mlo mhi man mtl mtm fig g top bel thr trm who)) (fun _ => rfl) dX5_trim_37 (fun len_5 elen_5 H locs hP hD hS => ?_)
        have hw := hw len_5 elen_5
        exact hret len_5 _ _ _ _ hw hP hD hS dX5_trim_38
      · have hw := hw.2 c_7
        obtain ⟨i3_6, ei3_6⟩ : ∃ y : Int32, y = i3_1 + (-1) := ⟨_, rfl⟩
        have hw := hw i3_6 ei3_6
        refine lv_iinc (v := i3_6) (lv' := [(3, .int i3_6), (0, .ref Ay), (1, .int p0)]) hx hb dX5_trim_25 hl (k := 0) rfl (by rw [ei3_6]; rfl) (by decide) rfl (fun ls hl => ?_)
        refine lv_goto (tgt := 2) hx hb dX5_trim_28 (by decide) ?_
        exact ihI2_2 _ (by rw [← hNI2_2]; exact hw.2) i3_6 rfl hw.1 _ _ _ hP hD hS (lv_sub hl [0, 1, 2] rfl)
theorem fX5_put_23 : Cond.fieldLink RX5 23 "PrivateCountsModel" "figure" "[J" ∈ wsX5_put := by decide +kernel
theorem uX5_put_X5 : ∀ w ∈ u_ws RX5 TX5 16, w ∈ wsX5_put := by decide +kernel
theorem fX5_put_49 : Cond.constantLong RX5 49 (2147483647) ∈ wsX5_put := by decide +kernel
set_option maxHeartbeats 4000000 in
set_option maxRecDepth 100000 in
theorem M_X5_put (l : Launch) (G : va_G) (cI cJ : ClassId) (Ay Bmr Bfg Bln Btp Bbl Btr Bwh : Nat) (mrow : Nat → Int32) (mrs : Int32) (ma : Int32) (mb : Int32) (mlo : Int32) (mhi : Int32) (man : Int32) (mtl : Int32) (mtm : Int32) (fig : Nat → Int64) (len : Nat → Int32) (top : Nat → Int64) (bel : Nat → Int64) (thr : Int32) (trm : Nat → Int32) (who : Nat → Int32) (p0 : Int32) (p1 : Int64) (Q : (Nat → Int64) → (Nat → Int32) → Prop) (hw : w_X5_put fig len p0 p1 Q) : Kv l yX5_put wsX5_put rm_X5_put G cI cJ [.ref Ay, .int p0, .long p1] (wX5 cI cJ Ay Bmr Bfg Bln Btp Bbl Btr Bwh mrow mrs ma mb mlo mhi man mtl mtm fig len top bel thr trm who) (fun (u : (Nat → Int64) × (Nat → Int32)) => Q u.1 u.2) (fun u => (wX5 cI cJ Ay Bmr Bfg Bln Btp Bbl Btr Bwh mrow mrs ma mb mlo mhi man mtl mtm u.1 u.2 top bel thr trm who)) := by
  refine kv_intro (cc := cX5_put) (maxL := 4) rfl rfl (by decide) rfl (Nat.le_of_ble_eq_true rfl) ?_
  intro p e s m args below meth c A Z ls hx hb hml hts hown hP hK hD hS hA hl hret
  have hl : lv_has ls 4 [(0, .ref Ay), (1, .int p0), (2, .long p1)] := hl
  unfold w_X5_put at hw
  refine lv_aload_n hx hb dX5_put_0 rfl (lv_at hl 0 rfl) ?_
  refine k_get hx hb hts uX5_put_X5 hown hK hP 0 5 rfl rfl 9 (by decide) fX5_put_23 (.ref Bfg) rfl dX5_put_1 ?_
  refine lv_sipush (v := 256) hx hb dX5_put_4 (by decide) ?_
  refine lv_iload_n hx hb dX5_put_7 rfl (lv_at hl 1 rfl) ?_
  refine lv_imul hx hb dX5_put_8 ?_
  refine lv_lload_n hx hb dX5_put_9 rfl (lv_at hl 2 rfl) ?_
  refine lv_ldc2 (v := 2147483647) hx hb hown (hts _ fX5_put_49) dX5_put_10 ?_
  refine lv_land hx hb dX5_put_13 ?_
  obtain ⟨hin, hw⟩ := hw
  refine k_last hx hb hK hP hD hS 2 rfl hin (w' := fun g => (wX5 cI cJ Ay Bmr Bfg Bln Btp Bbl Btr Bwh mrow mrs ma mb mlo mhi man mtl mtm g len top bel thr trm who)) (fun _ => rfl) dX5_put_14 (fun fig_1 efig_1 H locs hP hD hS => ?_)
  have hw := hw fig_1 efig_1
  refine lv_aload_n hx hb dX5_put_15 rfl (lv_at hl 0 rfl) ?_
  refine k_get hx hb hts uX5_put_X5 hown hK hP 0 5 rfl rfl 9 (by decide) fX5_put_23 (.ref Bfg) rfl dX5_put_16 ?_
  refine lv_sipush (v := 256) hx hb dX5_put_19 (by decide) ?_
  refine lv_iload_n hx hb dX5_put_22 rfl (lv_at hl 1 rfl) ?_
  refine lv_imul hx hb dX5_put_23 ?_
  refine lv_iconst (v := 1) hx hb dX5_put_24 (by decide) ?_
  refine lv_iadd hx hb dX5_put_25 ?_
  refine lv_topi (fun v_2 ev_2 => ?_)
  have hw := hw v_2 ev_2
  refine lv_lload_n hx hb dX5_put_26 rfl (lv_at hl 2 rfl) ?_
  refine lv_bipush (v := 31) hx hb dX5_put_27 (by decide) ?_
  refine lv_lshr (v := p1 >>> ((31 : Int32).toInt64 &&& 63)) hx hb dX5_put_29 rfl ?_
  refine lv_ldc2 (v := 2147483647) hx hb hown (hts _ fX5_put_49) dX5_put_30 ?_
  refine lv_land hx hb dX5_put_33 ?_
  refine lv_topl (fun v_3 ev_3 => ?_)
  have hw := hw v_3 ev_3
  obtain ⟨hin, hw⟩ := hw
  refine k_last hx hb hK hP hD hS 2 rfl hin (w' := fun g => (wX5 cI cJ Ay Bmr Bfg Bln Btp Bbl Btr Bwh mrow mrs ma mb mlo mhi man mtl mtm g len top bel thr trm who)) (fun _ => rfl) dX5_put_34 (fun fig_4 efig_4 H locs hP hD hS => ?_)
  have hw := hw fig_4 efig_4
  refine lv_aload_n hx hb dX5_put_35 rfl (lv_at hl 0 rfl) ?_
  refine lv_iload_n hx hb dX5_put_36 rfl (lv_at hl 1 rfl) ?_
  refine lv_iconst (v := 2) hx hb dX5_put_37 (by decide) ?_
  refine k_Vv (M_X5_trim l G cI cJ Ay Bmr Bfg Bln Btp Bbl Btr Bwh mrow mrs ma mb mlo mhi man mtl mtm fig_4 len top bel thr trm who p0 (2 : Int32) _ hw) ⟨hx, hb, hml, hown, hts⟩ (cwV 2 hts gX5_put_X5_trim rfl rfl rfl (by decide +kernel) ⟨Nat.le_of_ble_eq_true rfl, Nat.le_of_ble_eq_true rfl⟩) hK hP hD hS hA [0, 1, 2, 3, 4, 5, 6, 7] [] [0, 1, 2, 3, 4, 5, 6, 7] (wr := []) (wn := fun u : (Nat → Int32) => (wX5 cI cJ Ay Bmr Bfg Bln Btp Bbl Btr Bwh mrow mrs ma mb mlo mhi man mtl mtm fig_4 u top bel thr trm who)) rfl rfl (by decide) (by decide) (by decide) (by decide) (fun _ => rfl) (rest := []) (q0 := 0) rfl rfl rfl hl.1 rfl (Nat.le_of_ble_eq_true rfl) (Nat.zero_le _) (Nat.zero_le _) dX5_put_38 (fun u H locs hw hP hD hS => ?_)
  obtain ⟨len_5, rfl⟩ : ∃ z, z = u := ⟨_, rfl⟩
  have hP : va_P G vwCl (wX5 cI cJ Ay Bmr Bfg Bln Btp Bbl Btr Bwh mrow mrs ma mb mlo mhi man mtl mtm fig_4 len_5 top bel thr trm who) H := hP
  have hD : va_D A (wX5 cI cJ Ay Bmr Bfg Bln Btp Bbl Btr Bwh mrow mrs ma mb mlo mhi man mtl mtm fig_4 len_5 top bel thr trm who) := hD
  exact hret (fig_4, len_5) _ _ _ _ hw hP hD hS dX5_put_41
theorem fX5_copy_27 : Cond.fieldLink RX5 27 "PrivateCountsModel" "length" "[I" ∈ wsX5_copy := by decide +kernel
theorem uX5_copy_X5 : ∀ w ∈ u_ws RX5 TX5 16, w ∈ wsX5_copy := by decide +kernel
theorem fX5_copy_23 : Cond.fieldLink RX5 23 "PrivateCountsModel" "figure" "[J" ∈ wsX5_copy := by decide +kernel
set_option maxHeartbeats 4000000 in
set_option maxRecDepth 100000 in
theorem M_X5_copy (l : Launch) (G : va_G) (cI cJ : ClassId) (Ay Bmr Bfg Bln Btp Bbl Btr Bwh : Nat) (mrow : Nat → Int32) (mrs : Int32) (ma : Int32) (mb : Int32) (mlo : Int32) (mhi : Int32) (man : Int32) (mtl : Int32) (mtm : Int32) (fig : Nat → Int64) (len : Nat → Int32) (top : Nat → Int64) (bel : Nat → Int64) (thr : Int32) (trm : Nat → Int32) (who : Nat → Int32) (p0 : Int32) (p1 : Int32) (Q : (Nat → Int64) → (Nat → Int32) → Prop) (hw : w_X5_copy fig len p0 p1 Q) : Kv l yX5_copy wsX5_copy rm_X5_copy G cI cJ [.ref Ay, .int p0, .int p1] (wX5 cI cJ Ay Bmr Bfg Bln Btp Bbl Btr Bwh mrow mrs ma mb mlo mhi man mtl mtm fig len top bel thr trm who) (fun (u : (Nat → Int64) × (Nat → Int32)) => Q u.1 u.2) (fun u => (wX5 cI cJ Ay Bmr Bfg Bln Btp Bbl Btr Bwh mrow mrs ma mb mlo mhi man mtl mtm u.1 u.2 top bel thr trm who)) := by
  refine kv_intro (cc := cX5_copy) (maxL := 4) rfl rfl (by decide) rfl (Nat.le_of_ble_eq_true rfl) ?_
  intro p e s m args below meth c A Z ls hx hb hml hts hown hP hK hD hS hA hl hret
  have hl : lv_has ls 4 [(0, .ref Ay), (1, .int p0), (2, .int p1)] := hl
  unfold w_X5_copy at hw
  refine lv_iconst (v := 0) hx hb dX5_copy_0 (by decide) ?_
  refine lv_istore_n (lv' := [(3, .int 0), (0, .ref Ay), (1, .int p0), (2, .int p1)]) hx hb dX5_copy_1 rfl hl (by decide) rfl (fun ls hl => ?_)
  obtain ⟨I2_3, μ2_3, hi, hw⟩ := hw
  suffices hLI2_3 : ∀ (N : Nat) (i3_1 : Int32) (fig_2 : Nat → Int64) (_ : μ2_3 i3_1 fig_2 = N) (_ : I2_3 i3_1 fig_2) (H : Heap) (locs : List Loc) (ls : Array Slot), va_P G vwCl (wX5 cI cJ Ay Bmr Bfg Bln Btp Bbl Btr Bwh mrow mrs ma mb mlo mhi man mtl mtm fig_2 len top bel thr trm who) H → va_D A (wX5 cI cJ Ay Bmr Bfg Bln Btp Bbl Btr Bwh mrow mrs ma mb mlo mhi man mtl mtm fig_2 len top bel thr trm who) → va_S A s.heap H locs → lv_has ls 4 [(3, .int i3_1), (0, .ref Ay), (1, .int p0), (2, .int p1)] → W p l e rm_X5_copy s m args below meth c H locs 0 0 Z (F0 m 2 ls []) from
    hLI2_3 _ (0 : Int32) fig rfl hi _ _ _ hP hD hS (lv_sub hl [0, 1, 2, 3] rfl)
  clear hi hP hD hS hl
  intro N
  induction N using Nat.strongRecOn with
  | ind N ihI2_3 =>
    intro i3_1 fig_2 hNI2_3 hi H locs ls hP hD hS hl
    have hw := hw i3_1 fig_2 hi
    refine lv_iload_n hx hb dX5_copy_2 rfl (lv_at hl 0 rfl) ?_
    refine lv_aload_n hx hb dX5_copy_3 rfl (lv_at hl 1 rfl) ?_
    refine k_get hx hb hts uX5_copy_X5 hown hK hP 0 5 rfl rfl 10 (by decide) fX5_copy_27 (.ref Bln) rfl dX5_copy_4 ?_
    refine lv_iload_n hx hb dX5_copy_7 rfl (lv_at hl 3 rfl) ?_
    obtain ⟨hin, hw⟩ := hw
    refine k_iald hx hb hK hP 3 rfl hin dX5_copy_8 ?_
    refine lv_icmp_ge (tgt := 42) hx hb dX5_copy_9 (by decide) (fun c_9 => ?_) (fun c_9 => ?_)
    · have hw := hw.1 c_9
      refine lv_aload_n hx hb dX5_copy_42 rfl (lv_at hl 1 rfl) ?_
      refine k_get hx hb hts uX5_copy_X5 hown hK hP 0 5 rfl rfl 10 (by decide) fX5_copy_27 (.ref Bln) rfl dX5_copy_43 ?_
      refine lv_iload_n hx hb dX5_copy_46 rfl (lv_at hl 2 rfl) ?_
      refine lv_aload_n hx hb dX5_copy_47 rfl (lv_at hl 1 rfl) ?_
      refine k_get hx hb hts uX5_copy_X5 hown hK hP 0 5 rfl rfl 10 (by decide) fX5_copy_27 (.ref Bln) rfl dX5_copy_48 ?_
      refine lv_iload_n hx hb dX5_copy_51 rfl (lv_at hl 3 rfl) ?_
      obtain ⟨hin, hw⟩ := hw
      refine k_iald hx hb hK hP 3 rfl hin dX5_copy_52 ?_
      obtain ⟨hin, hw⟩ := hw
      refine k_iast hx hb hK hP hD hS 3 rfl hin (w' := fun g => (wX5 cI cJ Ay Bmr Bfg Bln Btp Bbl Btr Bwh mrow mrs ma mb mlo mhi man mtl mtm fig_2 g top bel thr trm who)) (fun _ => rfl) dX5_copy_53 (fun len_4 elen_4 H locs hP hD hS => ?_)
      have hw := hw len_4 elen_4
      exact hret (fig_2, len_4) _ _ _ _ hw hP hD hS dX5_copy_54
    · have hw := hw.2 c_9
      refine lv_aload_n hx hb dX5_copy_12 rfl (lv_at hl 1 rfl) ?_
      refine k_get hx hb hts uX5_copy_X5 hown hK hP 0 5 rfl rfl 9 (by decide) fX5_copy_23 (.ref Bfg) rfl dX5_copy_13 ?_
      refine lv_sipush (v := 256) hx hb dX5_copy_16 (by decide) ?_
      refine lv_iload_n hx hb dX5_copy_19 rfl (lv_at hl 2 rfl) ?_
      refine lv_imul hx hb dX5_copy_20 ?_
      refine lv_iload_n hx hb dX5_copy_21 rfl (lv_at hl 0 rfl) ?_
      refine lv_iadd hx hb dX5_copy_22 ?_
      refine lv_topi (fun v_5 ev_5 => ?_)
      have hw := hw v_5 ev_5
      refine lv_aload_n hx hb dX5_copy_23 rfl (lv_at hl 1 rfl) ?_
      refine k_get hx hb hts uX5_copy_X5 hown hK hP 0 5 rfl rfl 9 (by decide) fX5_copy_23 (.ref Bfg) rfl dX5_copy_24 ?_
      refine lv_sipush (v := 256) hx hb dX5_copy_27 (by decide) ?_
      refine lv_iload_n hx hb dX5_copy_30 rfl (lv_at hl 3 rfl) ?_
      refine lv_imul hx hb dX5_copy_31 ?_
      refine lv_iload_n hx hb dX5_copy_32 rfl (lv_at hl 0 rfl) ?_
      refine lv_iadd hx hb dX5_copy_33 ?_
      refine lv_topi (fun v_6 ev_6 => ?_)
      have hw := hw v_6 ev_6
      obtain ⟨hin, hw⟩ := hw
      refine k_lald hx hb hK hP 2 rfl hin dX5_copy_34 ?_
      obtain ⟨hin, hw⟩ := hw
      refine k_last hx hb hK hP hD hS 2 rfl hin (w' := fun g => (wX5 cI cJ Ay Bmr Bfg Bln Btp Bbl Btr Bwh mrow mrs ma mb mlo mhi man mtl mtm g len top bel thr trm who)) (fun _ => rfl) dX5_copy_35 (fun fig_7 efig_7 H locs hP hD hS => ?_)
      have hw := hw fig_7 efig_7
      obtain ⟨i3_8, ei3_8⟩ : ∃ y : Int32, y = i3_1 + 1 := ⟨_, rfl⟩
      have hw := hw i3_8 ei3_8
      refine lv_iinc (v := i3_8) (lv' := [(3, .int i3_8), (0, .ref Ay), (1, .int p0), (2, .int p1)]) hx hb dX5_copy_36 hl (k := 0) rfl (by rw [ei3_8]; rfl) (by decide) rfl (fun ls hl => ?_)
      refine lv_goto (tgt := 2) hx hb dX5_copy_39 (by decide) ?_
      exact ihI2_3 _ (by rw [← hNI2_3]; exact hw.2) i3_8 fig_7 rfl hw.1 _ _ _ hP hD hS (lv_sub hl [0, 1, 2, 3] rfl)
theorem fX5_take_23 : Cond.fieldLink RX5 23 "PrivateCountsModel" "figure" "[J" ∈ wsX5_take := by decide +kernel
theorem uX5_take_X5 : ∀ w ∈ u_ws RX5 TX5 16, w ∈ wsX5_take := by decide +kernel
theorem fX5_take_30 : Cond.fieldLink RX5 30 "PrivateCountsModel" "top" "[J" ∈ wsX5_take := by decide +kernel
set_option maxHeartbeats 4000000 in
set_option maxRecDepth 100000 in
theorem M_X5_take (l : Launch) (G : va_G) (cI cJ : ClassId) (Ay Bmr Bfg Bln Btp Bbl Btr Bwh : Nat) (mrow : Nat → Int32) (mrs : Int32) (ma : Int32) (mb : Int32) (mlo : Int32) (mhi : Int32) (man : Int32) (mtl : Int32) (mtm : Int32) (fig : Nat → Int64) (len : Nat → Int32) (top : Nat → Int64) (bel : Nat → Int64) (thr : Int32) (trm : Nat → Int32) (who : Nat → Int32) (p0 : Int32) (p1 : Int32) (Q : (Nat → Int64) → (Nat → Int32) → Prop) (hw : w_X5_take fig len top p0 p1 Q) : Kv l yX5_take wsX5_take rm_X5_take G cI cJ [.ref Ay, .int p0, .int p1] (wX5 cI cJ Ay Bmr Bfg Bln Btp Bbl Btr Bwh mrow mrs ma mb mlo mhi man mtl mtm fig len top bel thr trm who) (fun (u : (Nat → Int64) × (Nat → Int32)) => Q u.1 u.2) (fun u => (wX5 cI cJ Ay Bmr Bfg Bln Btp Bbl Btr Bwh mrow mrs ma mb mlo mhi man mtl mtm u.1 u.2 top bel thr trm who)) := by
  refine kv_intro (cc := cX5_take) (maxL := 4) rfl rfl (by decide) rfl (Nat.le_of_ble_eq_true rfl) ?_
  intro p e s m args below meth c A Z ls hx hb hml hts hown hP hK hD hS hA hl hret
  have hl : lv_has ls 4 [(0, .ref Ay), (1, .int p0), (2, .int p1)] := hl
  unfold w_X5_take at hw
  refine lv_iconst (v := 0) hx hb dX5_take_0 (by decide) ?_
  refine lv_istore_n (lv' := [(3, .int 0), (0, .ref Ay), (1, .int p0), (2, .int p1)]) hx hb dX5_take_1 rfl hl (by decide) rfl (fun ls hl => ?_)
  obtain ⟨I2_3, μ2_3, hi, hw⟩ := hw
  suffices hLI2_3 : ∀ (N : Nat) (i3_1 : Int32) (fig_2 : Nat → Int64) (_ : μ2_3 i3_1 fig_2 = N) (_ : I2_3 i3_1 fig_2) (H : Heap) (locs : List Loc) (ls : Array Slot), va_P G vwCl (wX5 cI cJ Ay Bmr Bfg Bln Btp Bbl Btr Bwh mrow mrs ma mb mlo mhi man mtl mtm fig_2 len top bel thr trm who) H → va_D A (wX5 cI cJ Ay Bmr Bfg Bln Btp Bbl Btr Bwh mrow mrs ma mb mlo mhi man mtl mtm fig_2 len top bel thr trm who) → va_S A s.heap H locs → lv_has ls 4 [(3, .int i3_1), (0, .ref Ay), (1, .int p0), (2, .int p1)] → W p l e rm_X5_take s m args below meth c H locs 0 0 Z (F0 m 2 ls []) from
    hLI2_3 _ (0 : Int32) fig rfl hi _ _ _ hP hD hS (lv_sub hl [0, 1, 2, 3] rfl)
  clear hi hP hD hS hl
  intro N
  induction N using Nat.strongRecOn with
  | ind N ihI2_3 =>
    intro i3_1 fig_2 hNI2_3 hi H locs ls hP hD hS hl
    have hw := hw i3_1 fig_2 hi
    refine lv_iload_n hx hb dX5_take_2 rfl (lv_at hl 0 rfl) ?_
    refine lv_iload_n hx hb dX5_take_3 rfl (lv_at hl 3 rfl) ?_
    refine lv_icmp_ge (tgt := 31) hx hb dX5_take_4 (by decide) (fun c_8 => ?_) (fun c_8 => ?_)
    · have hw := hw.1 c_8
      refine lv_aload_n hx hb dX5_take_31 rfl (lv_at hl 1 rfl) ?_
      refine lv_iload_n hx hb dX5_take_32 rfl (lv_at hl 2 rfl) ?_
      refine lv_iload_n hx hb dX5_take_33 rfl (lv_at hl 3 rfl) ?_
      refine k_Vv (M_X5_trim l G cI cJ Ay Bmr Bfg Bln Btp Bbl Btr Bwh mrow mrs ma mb mlo mhi man mtl mtm fig_2 len top bel thr trm who p0 p1 _ hw) ⟨hx, hb, hml, hown, hts⟩ (cwV 2 hts gX5_take_X5_trim rfl rfl rfl (by decide +kernel) ⟨Nat.le_of_ble_eq_true rfl, Nat.le_of_ble_eq_true rfl⟩) hK hP hD hS hA [0, 1, 2, 3, 4, 5, 6, 7] [] [0, 1, 2, 3, 4, 5, 6, 7] (wr := []) (wn := fun u : (Nat → Int32) => (wX5 cI cJ Ay Bmr Bfg Bln Btp Bbl Btr Bwh mrow mrs ma mb mlo mhi man mtl mtm fig_2 u top bel thr trm who)) rfl rfl (by decide) (by decide) (by decide) (by decide) (fun _ => rfl) (rest := []) (q0 := 0) rfl rfl rfl hl.1 rfl (Nat.le_of_ble_eq_true rfl) (Nat.zero_le _) (Nat.zero_le _) dX5_take_34 (fun u H locs hw hP hD hS => ?_)
      obtain ⟨len_4, rfl⟩ : ∃ z, z = u := ⟨_, rfl⟩
      have hP : va_P G vwCl (wX5 cI cJ Ay Bmr Bfg Bln Btp Bbl Btr Bwh mrow mrs ma mb mlo mhi man mtl mtm fig_2 len_4 top bel thr trm who) H := hP
      have hD : va_D A (wX5 cI cJ Ay Bmr Bfg Bln Btp Bbl Btr Bwh mrow mrs ma mb mlo mhi man mtl mtm fig_2 len_4 top bel thr trm who) := hD
      exact hret (fig_2, len_4) _ _ _ _ hw hP hD hS dX5_take_37
    · have hw := hw.2 c_8
      refine lv_aload_n hx hb dX5_take_7 rfl (lv_at hl 1 rfl) ?_
      refine k_get hx hb hts uX5_take_X5 hown hK hP 0 5 rfl rfl 9 (by decide) fX5_take_23 (.ref Bfg) rfl dX5_take_8 ?_
      refine lv_sipush (v := 256) hx hb dX5_take_11 (by decide) ?_
      refine lv_iload_n hx hb dX5_take_14 rfl (lv_at hl 2 rfl) ?_
      refine lv_imul hx hb dX5_take_15 ?_
      refine lv_iload_n hx hb dX5_take_16 rfl (lv_at hl 0 rfl) ?_
      refine lv_iadd hx hb dX5_take_17 ?_
      refine lv_topi (fun v_5 ev_5 => ?_)
      have hw := hw v_5 ev_5
      refine lv_aload_n hx hb dX5_take_18 rfl (lv_at hl 1 rfl) ?_
      refine k_get hx hb hts uX5_take_X5 hown hK hP 0 5 rfl rfl 11 (by decide) fX5_take_30 (.ref Btp) rfl dX5_take_19 ?_
      refine lv_iload_n hx hb dX5_take_22 rfl (lv_at hl 0 rfl) ?_
      obtain ⟨hin, hw⟩ := hw
      refine k_lald hx hb hK hP 4 rfl hin dX5_take_23 ?_
      obtain ⟨hin, hw⟩ := hw
      refine k_last hx hb hK hP hD hS 2 rfl hin (w' := fun g => (wX5 cI cJ Ay Bmr Bfg Bln Btp Bbl Btr Bwh mrow mrs ma mb mlo mhi man mtl mtm g len top bel thr trm who)) (fun _ => rfl) dX5_take_24 (fun fig_6 efig_6 H locs hP hD hS => ?_)
      have hw := hw fig_6 efig_6
      obtain ⟨i3_7, ei3_7⟩ : ∃ y : Int32, y = i3_1 + 1 := ⟨_, rfl⟩
      have hw := hw i3_7 ei3_7
      refine lv_iinc (v := i3_7) (lv' := [(3, .int i3_7), (0, .ref Ay), (1, .int p0), (2, .int p1)]) hx hb dX5_take_25 hl (k := 0) rfl (by rw [ei3_7]; rfl) (by decide) rfl (fun ls hl => ?_)
      refine lv_goto (tgt := 2) hx hb dX5_take_28 (by decide) ?_
      exact ihI2_3 _ (by rw [← hNI2_3]; exact hw.2) i3_7 fig_6 rfl hw.1 _ _ _ hP hD hS (lv_sub hl [0, 1, 2, 3] rfl)
theorem fX5_figureOf_27 : Cond.fieldLink RX5 27 "PrivateCountsModel" "length" "[I" ∈ wsX5_figureOf := by decide +kernel
theorem uX5_figureOf_X5 : ∀ w ∈ u_ws RX5 TX5 16, w ∈ wsX5_figureOf := by decide +kernel
theorem fX5_figureOf_23 : Cond.fieldLink RX5 23 "PrivateCountsModel" "figure" "[J" ∈ wsX5_figureOf := by decide +kernel
set_option maxHeartbeats 4000000 in
set_option maxRecDepth 100000 in
theorem M_X5_figureOf (l : Launch) (G : va_G) (cI cJ : ClassId) (Ay Bmr Bfg Bln Btp Bbl Btr Bwh : Nat) (mrow : Nat → Int32) (mrs : Int32) (ma : Int32) (mb : Int32) (mlo : Int32) (mhi : Int32) (man : Int32) (mtl : Int32) (mtm : Int32) (fig : Nat → Int64) (len : Nat → Int32) (top : Nat → Int64) (bel : Nat → Int64) (thr : Int32) (trm : Nat → Int32) (who : Nat → Int32) (p0 : Int32) (p1 : Int32) (Q : Int64 → Prop) (hw : w_X5_figureOf fig len p0 p1 Q) : Kl l yX5_figureOf wsX5_figureOf rm_X5_figureOf G cI cJ [.ref Ay, .int p0, .int p1] (wX5 cI cJ Ay Bmr Bfg Bln Btp Bbl Btr Bwh mrow mrs ma mb mlo mhi man mtl mtm fig len top bel thr trm who) (fun (r : Int64) (u : Unit) => Q r) (fun u => (wX5 cI cJ Ay Bmr Bfg Bln Btp Bbl Btr Bwh mrow mrs ma mb mlo mhi man mtl mtm fig len top bel thr trm who)) := by
  refine kl_intro (cc := cX5_figureOf) (maxL := 3) rfl rfl (by decide) rfl (Nat.le_of_ble_eq_true rfl) ?_
  intro p e s m args below meth c A Z ls hx hb hml hts hown hP hK hD hS hA hl hret
  have hl : lv_has ls 3 [(0, .ref Ay), (1, .int p0), (2, .int p1)] := hl
  unfold w_X5_figureOf at hw
  refine lv_iload_n hx hb dX5_figureOf_0 rfl (lv_at hl 2 rfl) ?_
  refine lv_aload_n hx hb dX5_figureOf_1 rfl (lv_at hl 0 rfl) ?_
  refine k_get hx hb hts uX5_figureOf_X5 hown hK hP 0 5 rfl rfl 10 (by decide) fX5_figureOf_27 (.ref Bln) rfl dX5_figureOf_2 ?_
  refine lv_iload_n hx hb dX5_figureOf_5 rfl (lv_at hl 1 rfl) ?_
  obtain ⟨hin, hw⟩ := hw
  refine k_iald hx hb hK hP 3 rfl hin dX5_figureOf_6 ?_
  refine lv_icmp_ge (tgt := 25) hx hb dX5_figureOf_7 (by decide) (fun c_2 => ?_) (fun c_2 => ?_)
  · have hw := hw.1 c_2
    refine lv_lconst (v := 0) hx hb dX5_figureOf_25 (by decide) ?_
    exact hret _ () _ _ _ _ hw hP hD hS dX5_figureOf_26
  · have hw := hw.2 c_2
    refine lv_aload_n hx hb dX5_figureOf_10 rfl (lv_at hl 0 rfl) ?_
    refine k_get hx hb hts uX5_figureOf_X5 hown hK hP 0 5 rfl rfl 9 (by decide) fX5_figureOf_23 (.ref Bfg) rfl dX5_figureOf_11 ?_
    refine lv_sipush (v := 256) hx hb dX5_figureOf_14 (by decide) ?_
    refine lv_iload_n hx hb dX5_figureOf_17 rfl (lv_at hl 1 rfl) ?_
    refine lv_imul hx hb dX5_figureOf_18 ?_
    refine lv_iload_n hx hb dX5_figureOf_19 rfl (lv_at hl 2 rfl) ?_
    refine lv_iadd hx hb dX5_figureOf_20 ?_
    refine lv_topi (fun v_1 ev_1 => ?_)
    have hw := hw v_1 ev_1
    obtain ⟨hin, hw⟩ := hw
    refine k_lald hx hb hK hP 2 rfl hin dX5_figureOf_21 ?_
    refine lv_goto (tgt := 26) hx hb dX5_figureOf_22 (by decide) ?_
    exact hret _ () _ _ _ _ hw hP hD hS dX5_figureOf_26
theorem fX5_compare_27 : Cond.fieldLink RX5 27 "PrivateCountsModel" "length" "[I" ∈ wsX5_compare := by decide +kernel
theorem uX5_compare_X5 : ∀ w ∈ u_ws RX5 TX5 16, w ∈ wsX5_compare := by decide +kernel
set_option maxHeartbeats 4000000 in
set_option maxRecDepth 100000 in
theorem M_X5_compare (l : Launch) (G : va_G) (cI cJ : ClassId) (Ay Bmr Bfg Bln Btp Bbl Btr Bwh : Nat) (mrow : Nat → Int32) (mrs : Int32) (ma : Int32) (mb : Int32) (mlo : Int32) (mhi : Int32) (man : Int32) (mtl : Int32) (mtm : Int32) (fig : Nat → Int64) (len : Nat → Int32) (top : Nat → Int64) (bel : Nat → Int64) (thr : Int32) (trm : Nat → Int32) (who : Nat → Int32) (p0 : Int32) (p1 : Int32) (Q : Int32 → Prop) (hw : w_X5_compare fig len p0 p1 Q) : Ki l yX5_compare wsX5_compare rm_X5_compare G cI cJ [.ref Ay, .int p0, .int p1] (wX5 cI cJ Ay Bmr Bfg Bln Btp Bbl Btr Bwh mrow mrs ma mb mlo mhi man mtl mtm fig len top bel thr trm who) (fun (r : Int32) (u : Unit) => Q r) (fun u => (wX5 cI cJ Ay Bmr Bfg Bln Btp Bbl Btr Bwh mrow mrs ma mb mlo mhi man mtl mtm fig len top bel thr trm who)) := by
  refine ki_intro (cc := cX5_compare) (maxL := 7) rfl rfl (by decide) rfl (Nat.le_of_ble_eq_true rfl) ?_
  intro p e s m args below meth c A Z ls hx hb hml hts hown hP hK hD hS hA hl hret
  have hl : lv_has ls 7 [(0, .ref Ay), (1, .int p0), (2, .int p1)] := hl
  unfold w_X5_compare at hw
  refine lv_aload_n hx hb dX5_compare_0 rfl (lv_at hl 0 rfl) ?_
  refine k_get hx hb hts uX5_compare_X5 hown hK hP 0 5 rfl rfl 10 (by decide) fX5_compare_27 (.ref Bln) rfl dX5_compare_1 ?_
  refine lv_iload_n hx hb dX5_compare_4 rfl (lv_at hl 1 rfl) ?_
  obtain ⟨hin, hw⟩ := hw
  refine k_iald hx hb hK hP 3 rfl hin dX5_compare_5 ?_
  refine lv_aload_n hx hb dX5_compare_6 rfl (lv_at hl 0 rfl) ?_
  refine k_get hx hb hts uX5_compare_X5 hown hK hP 0 5 rfl rfl 10 (by decide) fX5_compare_27 (.ref Bln) rfl dX5_compare_7 ?_
  refine lv_iload_n hx hb dX5_compare_10 rfl (lv_at hl 2 rfl) ?_
  obtain ⟨hin, hw⟩ := hw
  refine k_iald hx hb hK hP 3 rfl hin dX5_compare_11 ?_
  obtain ⟨J30_2, hw, hR⟩ := hw
  have hJ30_2 : ∀ (t_1 : Int32) (_ : J30_2 t_1) (H : Heap) (locs : List Loc) (ls : Array Slot), va_P G vwCl (wX5 cI cJ Ay Bmr Bfg Bln Btp Bbl Btr Bwh mrow mrs ma mb mlo mhi man mtl mtm fig len top bel thr trm who) H → va_D A (wX5 cI cJ Ay Bmr Bfg Bln Btp Bbl Btr Bwh mrow mrs ma mb mlo mhi man mtl mtm fig len top bel thr trm who) → va_S A s.heap H locs → lv_has ls 7 [(0, .ref Ay), (1, .int p0), (2, .int p1)] → W p l e rm_X5_compare s m args below meth c H locs 0 0 Z (F0 m 30 ls [.int t_1]) := by
    intro t_1 hw H locs ls hP hD hS hl
    have hw := hR _ hw
    refine lv_istore_n (lv' := [(3, .int t_1), (0, .ref Ay), (1, .int p0), (2, .int p1)]) hx hb dX5_compare_30 rfl hl (by decide) rfl (fun ls hl => ?_)
    refine lv_iload_n hx hb dX5_compare_31 rfl (lv_at hl 0 rfl) ?_
    refine lv_iconst (v := 1) hx hb dX5_compare_32 (by decide) ?_
    refine lv_isub hx hb dX5_compare_33 ?_
    refine lv_topi (fun i4_4 ei4_4 => ?_)
    have hw := hw i4_4 ei4_4
    refine lv_istore (lv' := [(4, .int i4_4), (3, .int t_1), (0, .ref Ay), (1, .int p0), (2, .int p1)]) hx hb dX5_compare_34 hl (by decide) rfl (fun ls hl => ?_)
    obtain ⟨I36_6, μ36_6, hi, hw⟩ := hw
    suffices hLI36_6 : ∀ (N : Nat) (i4_5 : Int32) (_ : μ36_6 i4_5 = N) (_ : I36_6 i4_5) (H : Heap) (locs : List Loc) (ls : Array Slot), va_P G vwCl (wX5 cI cJ Ay Bmr Bfg Bln Btp Bbl Btr Bwh mrow mrs ma mb mlo mhi man mtl mtm fig len top bel thr trm who) H → va_D A (wX5 cI cJ Ay Bmr Bfg Bln Btp Bbl Btr Bwh mrow mrs ma mb mlo mhi man mtl mtm fig len top bel thr trm who) → va_S A s.heap H locs → lv_has ls 7 [(4, .int i4_5), (0, .ref Ay), (1, .int p0), (2, .int p1)] → W p l e rm_X5_compare s m args below meth c H locs 0 0 Z (F0 m 36 ls []) from
      hLI36_6 _ i4_4 rfl hi _ _ _ hP hD hS (lv_sub hl [0, 2, 3, 4] rfl)
    clear hi hP hD hS hl
    intro N
    induction N using Nat.strongRecOn with
    | ind N ihI36_6 =>
      intro i4_5 hNI36_6 hi H locs ls hP hD hS hl
      have hw := hw i4_5 hi
      refine lv_iload hx hb dX5_compare_36 (lv_at hl 0 rfl) ?_
      refine lv_if_lt (tgt := 84) hx hb dX5_compare_38 (by decide) (fun c_13 => ?_) (fun c_13 => ?_)
      · have hw := hw.1 c_13
        refine lv_iconst (v := 0) hx hb dX5_compare_84 (by decide) ?_
        exact hret _ () _ _ _ _ hw hP hD hS dX5_compare_85
      · have hw := hw.2 c_13
        refine lv_aload_n hx hb dX5_compare_41 rfl (lv_at hl 1 rfl) ?_
        refine lv_iload_n hx hb dX5_compare_42 rfl (lv_at hl 2 rfl) ?_
        refine lv_iload hx hb dX5_compare_43 (lv_at hl 0 rfl) ?_
        refine k_Vl (M_X5_figureOf l G cI cJ Ay Bmr Bfg Bln Btp Bbl Btr Bwh mrow mrs ma mb mlo mhi man mtl mtm fig len top bel thr trm who p0 i4_5 _ hw) ⟨hx, hb, hml, hown, hts⟩ (cwV 2 hts gX5_compare_X5_figureOf rfl rfl rfl (by decide +kernel) ⟨Nat.le_of_ble_eq_true rfl, Nat.le_of_ble_eq_true rfl⟩) hK hP hD hS hA [0, 1, 2, 3, 4, 5, 6, 7] [] [0, 1, 2, 3, 4, 5, 6, 7] (wr := []) (wn := fun u : Unit => (wX5 cI cJ Ay Bmr Bfg Bln Btp Bbl Btr Bwh mrow mrs ma mb mlo mhi man mtl mtm fig len top bel thr trm who)) rfl rfl (by decide) (by decide) (by decide) (by decide) (fun _ => rfl) (rest := []) (q0 := 0) rfl rfl rfl hl.1 rfl (Nat.le_of_ble_eq_true rfl) (Nat.zero_le _) (Nat.zero_le _) dX5_compare_45 (fun r_7 u H locs hw hP hD hS => ?_)
        refine lv_aload_n hx hb dX5_compare_48 rfl (lv_at hl 1 rfl) ?_
        refine lv_iload_n hx hb dX5_compare_49 rfl (lv_at hl 3 rfl) ?_
        refine lv_iload hx hb dX5_compare_50 (lv_at hl 0 rfl) ?_
        refine k_Vl (M_X5_figureOf l G cI cJ Ay Bmr Bfg Bln Btp Bbl Btr Bwh mrow mrs ma mb mlo mhi man mtl mtm fig len top bel thr trm who p1 i4_5 _ hw) ⟨hx, hb, hml, hown, hts⟩ (cwV 2 hts gX5_compare_X5_figureOf rfl rfl rfl (by decide +kernel) ⟨Nat.le_of_ble_eq_true rfl, Nat.le_of_ble_eq_true rfl⟩) hK hP hD hS hA [0, 1, 2, 3, 4, 5, 6, 7] [] [0, 1, 2, 3, 4, 5, 6, 7] (wr := []) (wn := fun u : Unit => (wX5 cI cJ Ay Bmr Bfg Bln Btp Bbl Btr Bwh mrow mrs ma mb mlo mhi man mtl mtm fig len top bel thr trm who)) rfl rfl (by decide) (by decide) (by decide) (by decide) (fun _ => rfl) (rest := [.long r_7]) (q0 := 0) rfl rfl rfl hl.1 rfl (Nat.le_of_ble_eq_true rfl) (Nat.zero_le _) (Nat.zero_le _) dX5_compare_52 (fun r_8 u H locs hw hP hD hS => ?_)
        refine lv_lsub hx hb dX5_compare_55 ?_
        refine lv_topl (fun i5_9 ei5_9 => ?_)
        have hw := hw i5_9 ei5_9
        refine lv_lstore (lv' := [(5, .long i5_9), (4, .int i4_5), (0, .ref Ay), (1, .int p0), (2, .int p1)]) hx hb dX5_compare_56 hl (by decide) rfl (fun ls hl => ?_)
        refine lv_lload hx hb dX5_compare_58 (lv_at hl 0 rfl) ?_
        refine lv_lconst (v := 0) hx hb dX5_compare_60 (by decide) ?_
        refine k_lif_eq (tgt := 78) hx hb dX5_compare_61 dX5_compare_62 (by decide) (fun c_12 => ?_) (fun c_12 => ?_)
        · have hw := hw.1 c_12
          obtain ⟨i4_10, ei4_10⟩ : ∃ y : Int32, y = i4_5 + (-1) := ⟨_, rfl⟩
          have hw := hw i4_10 ei4_10
          refine lv_iinc (v := i4_10) (lv' := [(4, .int i4_10), (5, .long i5_9), (0, .ref Ay), (1, .int p0), (2, .int p1)]) hx hb dX5_compare_78 hl (k := 1) rfl (by rw [ei4_10]; rfl) (by decide) rfl (fun ls hl => ?_)
          refine lv_goto (tgt := 36) hx hb dX5_compare_81 (by decide) ?_
          exact ihI36_6 _ (by rw [← hNI36_6]; exact hw.2) i4_10 rfl hw.1 _ _ _ hP hD hS (lv_sub hl [0, 2, 3, 4] rfl)
        · have hw := hw.2 c_12
          refine lv_lload hx hb dX5_compare_65 (lv_at hl 0 rfl) ?_
          refine lv_lconst (v := 0) hx hb dX5_compare_67 (by decide) ?_
          refine k_lif_ge (tgt := 76) hx hb dX5_compare_68 dX5_compare_69 (by decide) (fun c_11 => ?_) (fun c_11 => ?_)
          · have hw := hw.1 c_11
            refine lv_iconst (v := 1) hx hb dX5_compare_76 (by decide) ?_
            exact hret _ () _ _ _ _ hw hP hD hS dX5_compare_77
          · have hw := hw.2 c_11
            refine lv_iconst (v := (-1)) hx hb dX5_compare_72 (by decide) ?_
            refine lv_goto (tgt := 77) hx hb dX5_compare_73 (by decide) ?_
            exact hret _ () _ _ _ _ hw hP hD hS dX5_compare_77
  clear hR
  refine lv_icmp_le (tgt := 24) hx hb dX5_compare_12 (by decide) (fun c_3 => ?_) (fun c_3 => ?_)
  · have hw := hw.1 c_3
    refine lv_aload_n hx hb dX5_compare_24 rfl (lv_at hl 0 rfl) ?_
    refine k_get hx hb hts uX5_compare_X5 hown hK hP 0 5 rfl rfl 10 (by decide) fX5_compare_27 (.ref Bln) rfl dX5_compare_25 ?_
    refine lv_iload_n hx hb dX5_compare_28 rfl (lv_at hl 2 rfl) ?_
    obtain ⟨hin, hw⟩ := hw
    refine k_iald hx hb hK hP 3 rfl hin dX5_compare_29 ?_
    exact hJ30_2 (len p1.toNatClampNeg) hw _ _ _ hP hD hS (lv_sub hl [0, 1, 2] rfl)
  · have hw := hw.2 c_3
    refine lv_aload_n hx hb dX5_compare_15 rfl (lv_at hl 0 rfl) ?_
    refine k_get hx hb hts uX5_compare_X5 hown hK hP 0 5 rfl rfl 10 (by decide) fX5_compare_27 (.ref Bln) rfl dX5_compare_16 ?_
    refine lv_iload_n hx hb dX5_compare_19 rfl (lv_at hl 1 rfl) ?_
    obtain ⟨hin, hw⟩ := hw
    refine k_iald hx hb hK hP 3 rfl hin dX5_compare_20 ?_
    refine lv_goto (tgt := 30) hx hb dX5_compare_21 (by decide) ?_
    exact hJ30_2 (len p0.toNatClampNeg) hw _ _ _ hP hD hS (lv_sub hl [0, 1, 2] rfl)
theorem fX5_plus_27 : Cond.fieldLink RX5 27 "PrivateCountsModel" "length" "[I" ∈ wsX5_plus := by decide +kernel
theorem uX5_plus_X5 : ∀ w ∈ u_ws RX5 TX5 16, w ∈ wsX5_plus := by decide +kernel
theorem fX5_plus_30 : Cond.fieldLink RX5 30 "PrivateCountsModel" "top" "[J" ∈ wsX5_plus := by decide +kernel
theorem fX5_plus_49 : Cond.constantLong RX5 49 (2147483647) ∈ wsX5_plus := by decide +kernel
set_option maxHeartbeats 4000000 in
set_option maxRecDepth 100000 in
theorem M_X5_plus (l : Launch) (G : va_G) (cI cJ : ClassId) (Ay Bmr Bfg Bln Btp Bbl Btr Bwh : Nat) (mrow : Nat → Int32) (mrs : Int32) (ma : Int32) (mb : Int32) (mlo : Int32) (mhi : Int32) (man : Int32) (mtl : Int32) (mtm : Int32) (fig : Nat → Int64) (len : Nat → Int32) (top : Nat → Int64) (bel : Nat → Int64) (thr : Int32) (trm : Nat → Int32) (who : Nat → Int32) (p0 : Int32) (p1 : Int32) (p2 : Int32) (Q : (Nat → Int64) → (Nat → Int32) → (Nat → Int64) → Prop) (hw : w_X5_plus fig len top p0 p1 p2 Q) : Kv l yX5_plus wsX5_plus rm_X5_plus G cI cJ [.ref Ay, .int p0, .int p1, .int p2] (wX5 cI cJ Ay Bmr Bfg Bln Btp Bbl Btr Bwh mrow mrs ma mb mlo mhi man mtl mtm fig len top bel thr trm who) (fun (u : (Nat → Int64) × (Nat → Int32) × (Nat → Int64)) => Q u.1 u.2.1 u.2.2) (fun u => (wX5 cI cJ Ay Bmr Bfg Bln Btp Bbl Btr Bwh mrow mrs ma mb mlo mhi man mtl mtm u.1 u.2.1 u.2.2 bel thr trm who)) := by
  refine kv_intro (cc := cX5_plus) (maxL := 10) rfl rfl (by decide) rfl (Nat.le_of_ble_eq_true rfl) ?_
  intro p e s m args below meth c A Z ls hx hb hml hts hown hP hK hD hS hA hl hret
  have hl : lv_has ls 10 [(0, .ref Ay), (1, .int p0), (2, .int p1), (3, .int p2)] := hl
  unfold w_X5_plus at hw
  refine lv_aload_n hx hb dX5_plus_0 rfl (lv_at hl 0 rfl) ?_
  refine k_get hx hb hts uX5_plus_X5 hown hK hP 0 5 rfl rfl 10 (by decide) fX5_plus_27 (.ref Bln) rfl dX5_plus_1 ?_
  refine lv_iload_n hx hb dX5_plus_4 rfl (lv_at hl 2 rfl) ?_
  obtain ⟨hin, hw⟩ := hw
  refine k_iald hx hb hK hP 3 rfl hin dX5_plus_5 ?_
  refine lv_aload_n hx hb dX5_plus_6 rfl (lv_at hl 0 rfl) ?_
  refine k_get hx hb hts uX5_plus_X5 hown hK hP 0 5 rfl rfl 10 (by decide) fX5_plus_27 (.ref Bln) rfl dX5_plus_7 ?_
  refine lv_iload_n hx hb dX5_plus_10 rfl (lv_at hl 3 rfl) ?_
  obtain ⟨hin, hw⟩ := hw
  refine k_iald hx hb hK hP 3 rfl hin dX5_plus_11 ?_
  obtain ⟨J30_2, hw, hR⟩ := hw
  have hJ30_2 : ∀ (t_1 : Int32) (_ : J30_2 t_1) (H : Heap) (locs : List Loc) (ls : Array Slot), va_P G vwCl (wX5 cI cJ Ay Bmr Bfg Bln Btp Bbl Btr Bwh mrow mrs ma mb mlo mhi man mtl mtm fig len top bel thr trm who) H → va_D A (wX5 cI cJ Ay Bmr Bfg Bln Btp Bbl Btr Bwh mrow mrs ma mb mlo mhi man mtl mtm fig len top bel thr trm who) → va_S A s.heap H locs → lv_has ls 10 [(0, .ref Ay), (1, .int p0), (2, .int p1), (3, .int p2)] → W p l e rm_X5_plus s m args below meth c H locs 0 0 Z (F0 m 30 ls [.int t_1]) := by
    intro t_1 hw H locs ls hP hD hS hl
    have hw := hR _ hw
    refine lv_iconst (v := 1) hx hb dX5_plus_30 (by decide) ?_
    refine lv_iadd hx hb dX5_plus_31 ?_
    refine lv_topi (fun i4_4 ei4_4 => ?_)
    have hw := hw i4_4 ei4_4
    refine lv_istore (lv' := [(4, .int i4_4), (0, .ref Ay), (1, .int p0), (2, .int p1), (3, .int p2)]) hx hb dX5_plus_32 hl (by decide) rfl (fun ls hl => ?_)
    refine lv_lconst (v := 0) hx hb dX5_plus_34 (by decide) ?_
    refine lv_lstore (lv' := [(5, .long 0), (4, .int i4_4), (0, .ref Ay), (1, .int p0), (2, .int p1), (3, .int p2)]) hx hb dX5_plus_35 hl (by decide) rfl (fun ls hl => ?_)
    refine lv_iconst (v := 0) hx hb dX5_plus_37 (by decide) ?_
    refine lv_istore (lv' := [(7, .int 0), (5, .long 0), (4, .int i4_4), (0, .ref Ay), (1, .int p0), (2, .int p1), (3, .int p2)]) hx hb dX5_plus_38 hl (by decide) rfl (fun ls hl => ?_)
    obtain ⟨I40_8, μ40_8, hi, hw⟩ := hw
    suffices hLI40_8 : ∀ (N : Nat) (i7_5 : Int32) (i5_6 : Int64) (top_7 : Nat → Int64) (_ : μ40_8 i7_5 i5_6 top_7 = N) (_ : I40_8 i7_5 i5_6 top_7) (H : Heap) (locs : List Loc) (ls : Array Slot), va_P G vwCl (wX5 cI cJ Ay Bmr Bfg Bln Btp Bbl Btr Bwh mrow mrs ma mb mlo mhi man mtl mtm fig len top_7 bel thr trm who) H → va_D A (wX5 cI cJ Ay Bmr Bfg Bln Btp Bbl Btr Bwh mrow mrs ma mb mlo mhi man mtl mtm fig len top_7 bel thr trm who) → va_S A s.heap H locs → lv_has ls 10 [(7, .int i7_5), (5, .long i5_6), (4, .int i4_4), (0, .ref Ay), (1, .int p0), (2, .int p1), (3, .int p2)] → W p l e rm_X5_plus s m args below meth c H locs 0 0 Z (F0 m 40 ls []) from
      hLI40_8 _ (0 : Int32) (0 : Int64) top rfl hi _ _ _ hP hD hS (lv_sub hl [0, 1, 2, 3, 4, 5, 6] rfl)
    clear hi hP hD hS hl
    intro N
    induction N using Nat.strongRecOn with
    | ind N ihI40_8 =>
      intro i7_5 i5_6 top_7 hNI40_8 hi H locs ls hP hD hS hl
      have hw := hw i7_5 i5_6 top_7 hi
      refine lv_iload hx hb dX5_plus_40 (lv_at hl 0 rfl) ?_
      refine lv_iload hx hb dX5_plus_42 (lv_at hl 2 rfl) ?_
      refine lv_icmp_ge (tgt := 93) hx hb dX5_plus_44 (by decide) (fun c_17 => ?_) (fun c_17 => ?_)
      · have hw := hw.1 c_17
        refine lv_aload_n hx hb dX5_plus_93 rfl (lv_at hl 3 rfl) ?_
        refine lv_iload_n hx hb dX5_plus_94 rfl (lv_at hl 4 rfl) ?_
        refine lv_iload hx hb dX5_plus_95 (lv_at hl 2 rfl) ?_
        refine k_Vv (M_X5_take l G cI cJ Ay Bmr Bfg Bln Btp Bbl Btr Bwh mrow mrs ma mb mlo mhi man mtl mtm fig len top_7 bel thr trm who p0 i4_4 _ hw) ⟨hx, hb, hml, hown, hts⟩ (cwV 2 hts gX5_plus_X5_take rfl rfl rfl (by decide +kernel) ⟨Nat.le_of_ble_eq_true rfl, Nat.le_of_ble_eq_true rfl⟩) hK hP hD hS hA [0, 1, 2, 3, 4, 5, 6, 7] [] [0, 1, 2, 3, 4, 5, 6, 7] (wr := []) (wn := fun u : (Nat → Int64) × (Nat → Int32) => (wX5 cI cJ Ay Bmr Bfg Bln Btp Bbl Btr Bwh mrow mrs ma mb mlo mhi man mtl mtm u.1 u.2 top_7 bel thr trm who)) rfl rfl (by decide) (by decide) (by decide) (by decide) (fun _ => rfl) (rest := []) (q0 := 0) rfl rfl rfl hl.1 rfl (Nat.le_of_ble_eq_true rfl) (Nat.zero_le _) (Nat.zero_le _) dX5_plus_97 (fun u H locs hw hP hD hS => ?_)
        obtain ⟨fig_9, len_10⟩ := u
        have hP : va_P G vwCl (wX5 cI cJ Ay Bmr Bfg Bln Btp Bbl Btr Bwh mrow mrs ma mb mlo mhi man mtl mtm fig_9 len_10 top_7 bel thr trm who) H := hP
        have hD : va_D A (wX5 cI cJ Ay Bmr Bfg Bln Btp Bbl Btr Bwh mrow mrs ma mb mlo mhi man mtl mtm fig_9 len_10 top_7 bel thr trm who) := hD
        exact hret (fig_9, len_10, top_7) _ _ _ _ hw hP hD hS dX5_plus_100
      · have hw := hw.2 c_17
        refine lv_aload_n hx hb dX5_plus_47 rfl (lv_at hl 3 rfl) ?_
        refine lv_iload_n hx hb dX5_plus_48 rfl (lv_at hl 5 rfl) ?_
        refine lv_iload hx hb dX5_plus_49 (lv_at hl 0 rfl) ?_
        refine k_Vl (M_X5_figureOf l G cI cJ Ay Bmr Bfg Bln Btp Bbl Btr Bwh mrow mrs ma mb mlo mhi man mtl mtm fig len top_7 bel thr trm who p1 i7_5 _ hw) ⟨hx, hb, hml, hown, hts⟩ (cwV 2 hts gX5_plus_X5_figureOf rfl rfl rfl (by decide +kernel) ⟨Nat.le_of_ble_eq_true rfl, Nat.le_of_ble_eq_true rfl⟩) hK hP hD hS hA [0, 1, 2, 3, 4, 5, 6, 7] [] [0, 1, 2, 3, 4, 5, 6, 7] (wr := []) (wn := fun u : Unit => (wX5 cI cJ Ay Bmr Bfg Bln Btp Bbl Btr Bwh mrow mrs ma mb mlo mhi man mtl mtm fig len top_7 bel thr trm who)) rfl rfl (by decide) (by decide) (by decide) (by decide) (fun _ => rfl) (rest := []) (q0 := 0) rfl rfl rfl hl.1 rfl (Nat.le_of_ble_eq_true rfl) (Nat.zero_le _) (Nat.zero_le _) dX5_plus_51 (fun r_11 u H locs hw hP hD hS => ?_)
        refine lv_aload_n hx hb dX5_plus_54 rfl (lv_at hl 3 rfl) ?_
        refine lv_iload_n hx hb dX5_plus_55 rfl (lv_at hl 6 rfl) ?_
        refine lv_iload hx hb dX5_plus_56 (lv_at hl 0 rfl) ?_
        refine k_Vl (M_X5_figureOf l G cI cJ Ay Bmr Bfg Bln Btp Bbl Btr Bwh mrow mrs ma mb mlo mhi man mtl mtm fig len top_7 bel thr trm who p2 i7_5 _ hw) ⟨hx, hb, hml, hown, hts⟩ (cwV 2 hts gX5_plus_X5_figureOf rfl rfl rfl (by decide +kernel) ⟨Nat.le_of_ble_eq_true rfl, Nat.le_of_ble_eq_true rfl⟩) hK hP hD hS hA [0, 1, 2, 3, 4, 5, 6, 7] [] [0, 1, 2, 3, 4, 5, 6, 7] (wr := []) (wn := fun u : Unit => (wX5 cI cJ Ay Bmr Bfg Bln Btp Bbl Btr Bwh mrow mrs ma mb mlo mhi man mtl mtm fig len top_7 bel thr trm who)) rfl rfl (by decide) (by decide) (by decide) (by decide) (fun _ => rfl) (rest := [.long r_11]) (q0 := 0) rfl rfl rfl hl.1 rfl (Nat.le_of_ble_eq_true rfl) (Nat.zero_le _) (Nat.zero_le _) dX5_plus_58 (fun r_12 u H locs hw hP hD hS => ?_)
        refine lv_ladd hx hb dX5_plus_61 ?_
        refine lv_lload hx hb dX5_plus_62 (lv_at hl 1 rfl) ?_
        refine lv_ladd hx hb dX5_plus_64 ?_
        refine lv_topl (fun v_13 ev_13 => ?_)
        have hw := hw v_13 ev_13
        refine lv_lstore (lv' := [(8, .long v_13), (7, .int i7_5), (5, .long i5_6), (4, .int i4_4), (0, .ref Ay), (1, .int p0), (2, .int p1), (3, .int p2)]) hx hb dX5_plus_65 hl (by decide) rfl (fun ls hl => ?_)
        refine lv_aload_n hx hb dX5_plus_67 rfl (lv_at hl 4 rfl) ?_
        refine k_get hx hb hts uX5_plus_X5 hown hK hP 0 5 rfl rfl 11 (by decide) fX5_plus_30 (.ref Btp) rfl dX5_plus_68 ?_
        refine lv_iload hx hb dX5_plus_71 (lv_at hl 1 rfl) ?_
        refine lv_lload hx hb dX5_plus_73 (lv_at hl 0 rfl) ?_
        refine lv_ldc2 (v := 2147483647) hx hb hown (hts _ fX5_plus_49) dX5_plus_75 ?_
        refine lv_land hx hb dX5_plus_78 ?_
        obtain ⟨hin, hw⟩ := hw
        refine k_last hx hb hK hP hD hS 4 rfl hin (w' := fun g => (wX5 cI cJ Ay Bmr Bfg Bln Btp Bbl Btr Bwh mrow mrs ma mb mlo mhi man mtl mtm fig len g bel thr trm who)) (fun _ => rfl) dX5_plus_79 (fun top_14 etop_14 H locs hP hD hS => ?_)
        have hw := hw top_14 etop_14
        refine lv_lload hx hb dX5_plus_80 (lv_at hl 0 rfl) ?_
        refine lv_bipush (v := 31) hx hb dX5_plus_82 (by decide) ?_
        refine lv_lshr (v := v_13 >>> ((31 : Int32).toInt64 &&& 63)) hx hb dX5_plus_84 rfl ?_
        refine lv_topl (fun i5_15 ei5_15 => ?_)
        have hw := hw i5_15 ei5_15
        refine lv_lstore (lv' := [(5, .long i5_15), (8, .long v_13), (7, .int i7_5), (4, .int i4_4), (0, .ref Ay), (1, .int p0), (2, .int p1), (3, .int p2)]) hx hb dX5_plus_85 hl (by decide) rfl (fun ls hl => ?_)
        obtain ⟨i7_16, ei7_16⟩ : ∃ y : Int32, y = i7_5 + 1 := ⟨_, rfl⟩
        have hw := hw i7_16 ei7_16
        refine lv_iinc (v := i7_16) (lv' := [(7, .int i7_16), (5, .long i5_15), (8, .long v_13), (4, .int i4_4), (0, .ref Ay), (1, .int p0), (2, .int p1), (3, .int p2)]) hx hb dX5_plus_87 hl (k := 2) rfl (by rw [ei7_16]; rfl) (by decide) rfl (fun ls hl => ?_)
        refine lv_goto (tgt := 40) hx hb dX5_plus_90 (by decide) ?_
        exact ihI40_8 _ (by rw [← hNI40_8]; exact hw.2) i7_16 i5_15 top_14 rfl hw.1 _ _ _ hP hD hS (lv_sub hl [0, 1, 3, 4, 5, 6, 7] rfl)
  clear hR
  refine lv_icmp_le (tgt := 24) hx hb dX5_plus_12 (by decide) (fun c_3 => ?_) (fun c_3 => ?_)
  · have hw := hw.1 c_3
    refine lv_aload_n hx hb dX5_plus_24 rfl (lv_at hl 0 rfl) ?_
    refine k_get hx hb hts uX5_plus_X5 hown hK hP 0 5 rfl rfl 10 (by decide) fX5_plus_27 (.ref Bln) rfl dX5_plus_25 ?_
    refine lv_iload_n hx hb dX5_plus_28 rfl (lv_at hl 3 rfl) ?_
    obtain ⟨hin, hw⟩ := hw
    refine k_iald hx hb hK hP 3 rfl hin dX5_plus_29 ?_
    exact hJ30_2 (len p2.toNatClampNeg) hw _ _ _ hP hD hS (lv_sub hl [0, 1, 2, 3] rfl)
  · have hw := hw.2 c_3
    refine lv_aload_n hx hb dX5_plus_15 rfl (lv_at hl 0 rfl) ?_
    refine k_get hx hb hts uX5_plus_X5 hown hK hP 0 5 rfl rfl 10 (by decide) fX5_plus_27 (.ref Bln) rfl dX5_plus_16 ?_
    refine lv_iload_n hx hb dX5_plus_19 rfl (lv_at hl 2 rfl) ?_
    obtain ⟨hin, hw⟩ := hw
    refine k_iald hx hb hK hP 3 rfl hin dX5_plus_20 ?_
    refine lv_goto (tgt := 30) hx hb dX5_plus_21 (by decide) ?_
    exact hJ30_2 (len p1.toNatClampNeg) hw _ _ _ hP hD hS (lv_sub hl [0, 1, 2, 3] rfl)
theorem fX5_minus_27 : Cond.fieldLink RX5 27 "PrivateCountsModel" "length" "[I" ∈ wsX5_minus := by decide +kernel
theorem uX5_minus_X5 : ∀ w ∈ u_ws RX5 TX5 16, w ∈ wsX5_minus := by decide +kernel
theorem fX5_minus_30 : Cond.fieldLink RX5 30 "PrivateCountsModel" "top" "[J" ∈ wsX5_minus := by decide +kernel
theorem fX5_minus_49 : Cond.constantLong RX5 49 (2147483647) ∈ wsX5_minus := by decide +kernel
set_option maxHeartbeats 4000000 in
set_option maxRecDepth 100000 in
theorem M_X5_minus (l : Launch) (G : va_G) (cI cJ : ClassId) (Ay Bmr Bfg Bln Btp Bbl Btr Bwh : Nat) (mrow : Nat → Int32) (mrs : Int32) (ma : Int32) (mb : Int32) (mlo : Int32) (mhi : Int32) (man : Int32) (mtl : Int32) (mtm : Int32) (fig : Nat → Int64) (len : Nat → Int32) (top : Nat → Int64) (bel : Nat → Int64) (thr : Int32) (trm : Nat → Int32) (who : Nat → Int32) (p0 : Int32) (p1 : Int32) (p2 : Int32) (Q : (Nat → Int64) → (Nat → Int32) → (Nat → Int64) → Prop) (hw : w_X5_minus fig len top p0 p1 p2 Q) : Kv l yX5_minus wsX5_minus rm_X5_minus G cI cJ [.ref Ay, .int p0, .int p1, .int p2] (wX5 cI cJ Ay Bmr Bfg Bln Btp Bbl Btr Bwh mrow mrs ma mb mlo mhi man mtl mtm fig len top bel thr trm who) (fun (u : (Nat → Int64) × (Nat → Int32) × (Nat → Int64)) => Q u.1 u.2.1 u.2.2) (fun u => (wX5 cI cJ Ay Bmr Bfg Bln Btp Bbl Btr Bwh mrow mrs ma mb mlo mhi man mtl mtm u.1 u.2.1 u.2.2 bel thr trm who)) := by
  refine kv_intro (cc := cX5_minus) (maxL := 10) rfl rfl (by decide) rfl (Nat.le_of_ble_eq_true rfl) ?_
  intro p e s m args below meth c A Z ls hx hb hml hts hown hP hK hD hS hA hl hret
  have hl : lv_has ls 10 [(0, .ref Ay), (1, .int p0), (2, .int p1), (3, .int p2)] := hl
  unfold w_X5_minus at hw
  refine lv_aload_n hx hb dX5_minus_0 rfl (lv_at hl 0 rfl) ?_
  refine k_get hx hb hts uX5_minus_X5 hown hK hP 0 5 rfl rfl 10 (by decide) fX5_minus_27 (.ref Bln) rfl dX5_minus_1 ?_
  refine lv_iload_n hx hb dX5_minus_4 rfl (lv_at hl 2 rfl) ?_
  obtain ⟨hin, hw⟩ := hw
  refine k_iald hx hb hK hP 3 rfl hin dX5_minus_5 ?_
  refine lv_topi (fun i4_1 ei4_1 => ?_)
  have hw := hw i4_1 ei4_1
  refine lv_istore (lv' := [(4, .int i4_1), (0, .ref Ay), (1, .int p0), (2, .int p1), (3, .int p2)]) hx hb dX5_minus_6 hl (by decide) rfl (fun ls hl => ?_)
  refine lv_lconst (v := 0) hx hb dX5_minus_8 (by decide) ?_
  refine lv_lstore (lv' := [(5, .long 0), (4, .int i4_1), (0, .ref Ay), (1, .int p0), (2, .int p1), (3, .int p2)]) hx hb dX5_minus_9 hl (by decide) rfl (fun ls hl => ?_)
  refine lv_iconst (v := 0) hx hb dX5_minus_11 (by decide) ?_
  refine lv_istore (lv' := [(7, .int 0), (5, .long 0), (4, .int i4_1), (0, .ref Ay), (1, .int p0), (2, .int p1), (3, .int p2)]) hx hb dX5_minus_12 hl (by decide) rfl (fun ls hl => ?_)
  obtain ⟨I14_5, μ14_5, hi, hw⟩ := hw
  suffices hLI14_5 : ∀ (N : Nat) (i7_2 : Int32) (i5_3 : Int64) (top_4 : Nat → Int64) (_ : μ14_5 i7_2 i5_3 top_4 = N) (_ : I14_5 i7_2 i5_3 top_4) (H : Heap) (locs : List Loc) (ls : Array Slot), va_P G vwCl (wX5 cI cJ Ay Bmr Bfg Bln Btp Bbl Btr Bwh mrow mrs ma mb mlo mhi man mtl mtm fig len top_4 bel thr trm who) H → va_D A (wX5 cI cJ Ay Bmr Bfg Bln Btp Bbl Btr Bwh mrow mrs ma mb mlo mhi man mtl mtm fig len top_4 bel thr trm who) → va_S A s.heap H locs → lv_has ls 10 [(7, .int i7_2), (5, .long i5_3), (4, .int i4_1), (0, .ref Ay), (1, .int p0), (2, .int p1), (3, .int p2)] → W p l e rm_X5_minus s m args below meth c H locs 0 0 Z (F0 m 14 ls []) from
    hLI14_5 _ (0 : Int32) (0 : Int64) top rfl hi _ _ _ hP hD hS (lv_sub hl [0, 1, 2, 3, 4, 5, 6] rfl)
  clear hi hP hD hS hl
  intro N
  induction N using Nat.strongRecOn with
  | ind N ihI14_5 =>
    intro i7_2 i5_3 top_4 hNI14_5 hi H locs ls hP hD hS hl
    have hw := hw i7_2 i5_3 top_4 hi
    refine lv_iload hx hb dX5_minus_14 (lv_at hl 0 rfl) ?_
    refine lv_iload hx hb dX5_minus_16 (lv_at hl 2 rfl) ?_
    refine lv_icmp_ge (tgt := 74) hx hb dX5_minus_18 (by decide) (fun c_15 => ?_) (fun c_15 => ?_)
    · have hw := hw.1 c_15
      refine lv_aload_n hx hb dX5_minus_74 rfl (lv_at hl 3 rfl) ?_
      refine lv_iload_n hx hb dX5_minus_75 rfl (lv_at hl 4 rfl) ?_
      refine lv_iload hx hb dX5_minus_76 (lv_at hl 2 rfl) ?_
      refine k_Vv (M_X5_take l G cI cJ Ay Bmr Bfg Bln Btp Bbl Btr Bwh mrow mrs ma mb mlo mhi man mtl mtm fig len top_4 bel thr trm who p0 i4_1 _ hw) ⟨hx, hb, hml, hown, hts⟩ (cwV 2 hts gX5_minus_X5_take rfl rfl rfl (by decide +kernel) ⟨Nat.le_of_ble_eq_true rfl, Nat.le_of_ble_eq_true rfl⟩) hK hP hD hS hA [0, 1, 2, 3, 4, 5, 6, 7] [] [0, 1, 2, 3, 4, 5, 6, 7] (wr := []) (wn := fun u : (Nat → Int64) × (Nat → Int32) => (wX5 cI cJ Ay Bmr Bfg Bln Btp Bbl Btr Bwh mrow mrs ma mb mlo mhi man mtl mtm u.1 u.2 top_4 bel thr trm who)) rfl rfl (by decide) (by decide) (by decide) (by decide) (fun _ => rfl) (rest := []) (q0 := 0) rfl rfl rfl hl.1 rfl (Nat.le_of_ble_eq_true rfl) (Nat.zero_le _) (Nat.zero_le _) dX5_minus_78 (fun u H locs hw hP hD hS => ?_)
      obtain ⟨fig_6, len_7⟩ := u
      have hP : va_P G vwCl (wX5 cI cJ Ay Bmr Bfg Bln Btp Bbl Btr Bwh mrow mrs ma mb mlo mhi man mtl mtm fig_6 len_7 top_4 bel thr trm who) H := hP
      have hD : va_D A (wX5 cI cJ Ay Bmr Bfg Bln Btp Bbl Btr Bwh mrow mrs ma mb mlo mhi man mtl mtm fig_6 len_7 top_4 bel thr trm who) := hD
      exact hret (fig_6, len_7, top_4) _ _ _ _ hw hP hD hS dX5_minus_81
    · have hw := hw.2 c_15
      refine lv_aload_n hx hb dX5_minus_21 rfl (lv_at hl 3 rfl) ?_
      refine lv_iload_n hx hb dX5_minus_22 rfl (lv_at hl 5 rfl) ?_
      refine lv_iload hx hb dX5_minus_23 (lv_at hl 0 rfl) ?_
      refine k_Vl (M_X5_figureOf l G cI cJ Ay Bmr Bfg Bln Btp Bbl Btr Bwh mrow mrs ma mb mlo mhi man mtl mtm fig len top_4 bel thr trm who p1 i7_2 _ hw) ⟨hx, hb, hml, hown, hts⟩ (cwV 2 hts gX5_minus_X5_figureOf rfl rfl rfl (by decide +kernel) ⟨Nat.le_of_ble_eq_true rfl, Nat.le_of_ble_eq_true rfl⟩) hK hP hD hS hA [0, 1, 2, 3, 4, 5, 6, 7] [] [0, 1, 2, 3, 4, 5, 6, 7] (wr := []) (wn := fun u : Unit => (wX5 cI cJ Ay Bmr Bfg Bln Btp Bbl Btr Bwh mrow mrs ma mb mlo mhi man mtl mtm fig len top_4 bel thr trm who)) rfl rfl (by decide) (by decide) (by decide) (by decide) (fun _ => rfl) (rest := []) (q0 := 0) rfl rfl rfl hl.1 rfl (Nat.le_of_ble_eq_true rfl) (Nat.zero_le _) (Nat.zero_le _) dX5_minus_25 (fun r_8 u H locs hw hP hD hS => ?_)
      refine lv_aload_n hx hb dX5_minus_28 rfl (lv_at hl 3 rfl) ?_
      refine lv_iload_n hx hb dX5_minus_29 rfl (lv_at hl 6 rfl) ?_
      refine lv_iload hx hb dX5_minus_30 (lv_at hl 0 rfl) ?_
      refine k_Vl (M_X5_figureOf l G cI cJ Ay Bmr Bfg Bln Btp Bbl Btr Bwh mrow mrs ma mb mlo mhi man mtl mtm fig len top_4 bel thr trm who p2 i7_2 _ hw) ⟨hx, hb, hml, hown, hts⟩ (cwV 2 hts gX5_minus_X5_figureOf rfl rfl rfl (by decide +kernel) ⟨Nat.le_of_ble_eq_true rfl, Nat.le_of_ble_eq_true rfl⟩) hK hP hD hS hA [0, 1, 2, 3, 4, 5, 6, 7] [] [0, 1, 2, 3, 4, 5, 6, 7] (wr := []) (wn := fun u : Unit => (wX5 cI cJ Ay Bmr Bfg Bln Btp Bbl Btr Bwh mrow mrs ma mb mlo mhi man mtl mtm fig len top_4 bel thr trm who)) rfl rfl (by decide) (by decide) (by decide) (by decide) (fun _ => rfl) (rest := [.long r_8]) (q0 := 0) rfl rfl rfl hl.1 rfl (Nat.le_of_ble_eq_true rfl) (Nat.zero_le _) (Nat.zero_le _) dX5_minus_32 (fun r_9 u H locs hw hP hD hS => ?_)
      refine lv_lsub hx hb dX5_minus_35 ?_
      refine lv_lload hx hb dX5_minus_36 (lv_at hl 1 rfl) ?_
      refine lv_lsub hx hb dX5_minus_38 ?_
      refine lv_topl (fun v_10 ev_10 => ?_)
      have hw := hw v_10 ev_10
      refine lv_lstore (lv' := [(8, .long v_10), (7, .int i7_2), (5, .long i5_3), (4, .int i4_1), (0, .ref Ay), (1, .int p0), (2, .int p1), (3, .int p2)]) hx hb dX5_minus_39 hl (by decide) rfl (fun ls hl => ?_)
      refine lv_aload_n hx hb dX5_minus_41 rfl (lv_at hl 4 rfl) ?_
      refine k_get hx hb hts uX5_minus_X5 hown hK hP 0 5 rfl rfl 11 (by decide) fX5_minus_30 (.ref Btp) rfl dX5_minus_42 ?_
      refine lv_iload hx hb dX5_minus_45 (lv_at hl 1 rfl) ?_
      refine lv_lload hx hb dX5_minus_47 (lv_at hl 0 rfl) ?_
      refine lv_ldc2 (v := 2147483647) hx hb hown (hts _ fX5_minus_49) dX5_minus_49 ?_
      refine lv_land hx hb dX5_minus_52 ?_
      obtain ⟨hin, hw⟩ := hw
      refine k_last hx hb hK hP hD hS 4 rfl hin (w' := fun g => (wX5 cI cJ Ay Bmr Bfg Bln Btp Bbl Btr Bwh mrow mrs ma mb mlo mhi man mtl mtm fig len g bel thr trm who)) (fun _ => rfl) dX5_minus_53 (fun top_11 etop_11 H locs hP hD hS => ?_)
      have hw := hw top_11 etop_11
      refine lv_lload hx hb dX5_minus_54 (lv_at hl 0 rfl) ?_
      refine lv_lconst (v := 0) hx hb dX5_minus_56 (by decide) ?_
      refine k_lif_ge (tgt := 65) hx hb dX5_minus_57 dX5_minus_58 (by decide) (fun c_14 => ?_) (fun c_14 => ?_)
      · have hw := hw.1 c_14
        refine lv_lconst (v := 0) hx hb dX5_minus_65 (by decide) ?_
        refine lv_lstore (lv' := [(5, .long 0), (8, .long v_10), (7, .int i7_2), (4, .int i4_1), (0, .ref Ay), (1, .int p0), (2, .int p1), (3, .int p2)]) hx hb dX5_minus_66 hl (by decide) rfl (fun ls hl => ?_)
        obtain ⟨i7_12, ei7_12⟩ : ∃ y : Int32, y = i7_2 + 1 := ⟨_, rfl⟩
        have hw := hw i7_12 ei7_12
        refine lv_iinc (v := i7_12) (lv' := [(7, .int i7_12), (5, .long 0), (8, .long v_10), (4, .int i4_1), (0, .ref Ay), (1, .int p0), (2, .int p1), (3, .int p2)]) hx hb dX5_minus_68 hl (k := 2) rfl (by rw [ei7_12]; rfl) (by decide) rfl (fun ls hl => ?_)
        refine lv_goto (tgt := 14) hx hb dX5_minus_71 (by decide) ?_
        exact ihI14_5 _ (by rw [← hNI14_5]; exact hw.2) i7_12 0 top_11 rfl hw.1 _ _ _ hP hD hS (lv_sub hl [0, 1, 3, 4, 5, 6, 7] rfl)
      · have hw := hw.2 c_14
        refine lv_lconst (v := 1) hx hb dX5_minus_61 (by decide) ?_
        refine lv_goto (tgt := 66) hx hb dX5_minus_62 (by decide) ?_
        refine lv_lstore (lv' := [(5, .long 1), (8, .long v_10), (7, .int i7_2), (4, .int i4_1), (0, .ref Ay), (1, .int p0), (2, .int p1), (3, .int p2)]) hx hb dX5_minus_66 hl (by decide) rfl (fun ls hl => ?_)
        obtain ⟨i7_13, ei7_13⟩ : ∃ y : Int32, y = i7_2 + 1 := ⟨_, rfl⟩
        have hw := hw i7_13 ei7_13
        refine lv_iinc (v := i7_13) (lv' := [(7, .int i7_13), (5, .long 1), (8, .long v_10), (4, .int i4_1), (0, .ref Ay), (1, .int p0), (2, .int p1), (3, .int p2)]) hx hb dX5_minus_68 hl (k := 2) rfl (by rw [ei7_13]; rfl) (by decide) rfl (fun ls hl => ?_)
        refine lv_goto (tgt := 14) hx hb dX5_minus_71 (by decide) ?_
        exact ihI14_5 _ (by rw [← hNI14_5]; exact hw.2) i7_13 1 top_11 rfl hw.1 _ _ _ hP hD hS (lv_sub hl [0, 1, 3, 4, 5, 6, 7] rfl)
theorem fX5_times_27 : Cond.fieldLink RX5 27 "PrivateCountsModel" "length" "[I" ∈ wsX5_times := by decide +kernel
theorem uX5_times_X5 : ∀ w ∈ u_ws RX5 TX5 16, w ∈ wsX5_times := by decide +kernel
theorem fX5_times_30 : Cond.fieldLink RX5 30 "PrivateCountsModel" "top" "[J" ∈ wsX5_times := by decide +kernel
theorem fX5_times_23 : Cond.fieldLink RX5 23 "PrivateCountsModel" "figure" "[J" ∈ wsX5_times := by decide +kernel
theorem fX5_times_49 : Cond.constantLong RX5 49 (2147483647) ∈ wsX5_times := by decide +kernel
set_option maxHeartbeats 4000000 in
set_option maxRecDepth 100000 in
theorem M_X5_times (l : Launch) (G : va_G) (cI cJ : ClassId) (Ay Bmr Bfg Bln Btp Bbl Btr Bwh : Nat) (mrow : Nat → Int32) (mrs : Int32) (ma : Int32) (mb : Int32) (mlo : Int32) (mhi : Int32) (man : Int32) (mtl : Int32) (mtm : Int32) (fig : Nat → Int64) (len : Nat → Int32) (top : Nat → Int64) (bel : Nat → Int64) (thr : Int32) (trm : Nat → Int32) (who : Nat → Int32) (p0 : Int32) (p1 : Int32) (p2 : Int32) (Q : (Nat → Int64) → (Nat → Int32) → (Nat → Int64) → Prop) (hw : w_X5_times fig len top p0 p1 p2 Q) : Kv l yX5_times wsX5_times rm_X5_times G cI cJ [.ref Ay, .int p0, .int p1, .int p2] (wX5 cI cJ Ay Bmr Bfg Bln Btp Bbl Btr Bwh mrow mrs ma mb mlo mhi man mtl mtm fig len top bel thr trm who) (fun (u : (Nat → Int64) × (Nat → Int32) × (Nat → Int64)) => Q u.1 u.2.1 u.2.2) (fun u => (wX5 cI cJ Ay Bmr Bfg Bln Btp Bbl Btr Bwh mrow mrs ma mb mlo mhi man mtl mtm u.1 u.2.1 u.2.2 bel thr trm who)) := by
  refine kv_intro (cc := cX5_times) (maxL := 11) rfl rfl (by decide) rfl (Nat.le_of_ble_eq_true rfl) ?_
  intro p e s m args below meth c A Z ls hx hb hml hts hown hP hK hD hS hA hl hret
  have hl : lv_has ls 11 [(0, .ref Ay), (1, .int p0), (2, .int p1), (3, .int p2)] := hl
  unfold w_X5_times at hw
  refine lv_aload_n hx hb dX5_times_0 rfl (lv_at hl 0 rfl) ?_
  refine k_get hx hb hts uX5_times_X5 hown hK hP 0 5 rfl rfl 10 (by decide) fX5_times_27 (.ref Bln) rfl dX5_times_1 ?_
  refine lv_iload_n hx hb dX5_times_4 rfl (lv_at hl 2 rfl) ?_
  obtain ⟨hin, hw⟩ := hw
  refine k_iald hx hb hK hP 3 rfl hin dX5_times_5 ?_
  refine lv_aload_n hx hb dX5_times_6 rfl (lv_at hl 0 rfl) ?_
  refine k_get hx hb hts uX5_times_X5 hown hK hP 0 5 rfl rfl 10 (by decide) fX5_times_27 (.ref Bln) rfl dX5_times_7 ?_
  refine lv_iload_n hx hb dX5_times_10 rfl (lv_at hl 3 rfl) ?_
  obtain ⟨hin, hw⟩ := hw
  refine k_iald hx hb hK hP 3 rfl hin dX5_times_11 ?_
  refine lv_iadd hx hb dX5_times_12 ?_
  refine lv_topi (fun v_1 ev_1 => ?_)
  have hw := hw v_1 ev_1
  refine lv_istore (lv' := [(4, .int v_1), (0, .ref Ay), (1, .int p0), (2, .int p1), (3, .int p2)]) hx hb dX5_times_13 hl (by decide) rfl (fun ls hl => ?_)
  refine lv_iconst (v := 0) hx hb dX5_times_15 (by decide) ?_
  refine lv_istore (lv' := [(5, .int 0), (4, .int v_1), (0, .ref Ay), (1, .int p0), (2, .int p1), (3, .int p2)]) hx hb dX5_times_16 hl (by decide) rfl (fun ls hl => ?_)
  obtain ⟨I18_4, μ18_4, hi, hw⟩ := hw
  suffices hLI18_4 : ∀ (N : Nat) (i5_2 : Int32) (top_3 : Nat → Int64) (_ : μ18_4 i5_2 top_3 = N) (_ : I18_4 i5_2 top_3) (H : Heap) (locs : List Loc) (ls : Array Slot), va_P G vwCl (wX5 cI cJ Ay Bmr Bfg Bln Btp Bbl Btr Bwh mrow mrs ma mb mlo mhi man mtl mtm fig len top_3 bel thr trm who) H → va_D A (wX5 cI cJ Ay Bmr Bfg Bln Btp Bbl Btr Bwh mrow mrs ma mb mlo mhi man mtl mtm fig len top_3 bel thr trm who) → va_S A s.heap H locs → lv_has ls 11 [(5, .int i5_2), (4, .int v_1), (0, .ref Ay), (1, .int p0), (2, .int p1), (3, .int p2)] → W p l e rm_X5_times s m args below meth c H locs 0 0 Z (F0 m 18 ls []) from
    hLI18_4 _ (0 : Int32) top rfl hi _ _ _ hP hD hS (lv_sub hl [0, 1, 2, 3, 4, 5] rfl)
  clear hi hP hD hS hl
  intro N
  induction N using Nat.strongRecOn with
  | ind N ihI18_4 =>
    intro i5_2 top_3 hNI18_4 hi H locs ls hP hD hS hl
    have hw := hw i5_2 top_3 hi
    refine lv_iload hx hb dX5_times_18 (lv_at hl 0 rfl) ?_
    refine lv_iload hx hb dX5_times_20 (lv_at hl 1 rfl) ?_
    refine lv_icmp_ge (tgt := 39) hx hb dX5_times_22 (by decide) (fun c_29 => ?_) (fun c_29 => ?_)
    · have hw := hw.1 c_29
      refine lv_iconst (v := 0) hx hb dX5_times_39 (by decide) ?_
      refine lv_istore (lv' := [(5, .int 0), (4, .int v_1), (0, .ref Ay), (1, .int p0), (2, .int p1), (3, .int p2)]) hx hb dX5_times_40 hl (by decide) rfl (fun ls hl => ?_)
      obtain ⟨I42_7, μ42_7, hi, hw⟩ := hw
      suffices hLI42_7 : ∀ (N : Nat) (i5_5 : Int32) (top_6 : Nat → Int64) (_ : μ42_7 i5_5 top_6 = N) (_ : I42_7 i5_5 top_6) (H : Heap) (locs : List Loc) (ls : Array Slot), va_P G vwCl (wX5 cI cJ Ay Bmr Bfg Bln Btp Bbl Btr Bwh mrow mrs ma mb mlo mhi man mtl mtm fig len top_6 bel thr trm who) H → va_D A (wX5 cI cJ Ay Bmr Bfg Bln Btp Bbl Btr Bwh mrow mrs ma mb mlo mhi man mtl mtm fig len top_6 bel thr trm who) → va_S A s.heap H locs → lv_has ls 11 [(5, .int i5_5), (4, .int v_1), (0, .ref Ay), (1, .int p0), (2, .int p1), (3, .int p2)] → W p l e rm_X5_times s m args below meth c H locs 0 0 Z (F0 m 42 ls []) from
        hLI42_7 _ (0 : Int32) top_3 rfl hi _ _ _ hP hD hS (lv_sub hl [0, 1, 2, 3, 4, 5] rfl)
      clear hi hP hD hS hl
      intro N
      induction N using Nat.strongRecOn with
      | ind N ihI42_7 =>
        intro i5_5 top_6 hNI42_7 hi H locs ls hP hD hS hl
        have hw := hw i5_5 top_6 hi
        refine lv_iload hx hb dX5_times_42 (lv_at hl 0 rfl) ?_
        refine lv_aload_n hx hb dX5_times_44 rfl (lv_at hl 2 rfl) ?_
        refine k_get hx hb hts uX5_times_X5 hown hK hP 0 5 rfl rfl 10 (by decide) fX5_times_27 (.ref Bln) rfl dX5_times_45 ?_
        refine lv_iload_n hx hb dX5_times_48 rfl (lv_at hl 4 rfl) ?_
        obtain ⟨hin, hw⟩ := hw
        refine k_iald hx hb hK hP 3 rfl hin dX5_times_49 ?_
        refine lv_icmp_ge (tgt := 164) hx hb dX5_times_50 (by decide) (fun c_26 => ?_) (fun c_26 => ?_)
        · have hw := hw.1 c_26
          refine lv_aload_n hx hb dX5_times_164 rfl (lv_at hl 2 rfl) ?_
          refine lv_iload_n hx hb dX5_times_165 rfl (lv_at hl 3 rfl) ?_
          refine lv_iload hx hb dX5_times_166 (lv_at hl 1 rfl) ?_
          refine k_Vv (M_X5_take l G cI cJ Ay Bmr Bfg Bln Btp Bbl Btr Bwh mrow mrs ma mb mlo mhi man mtl mtm fig len top_6 bel thr trm who p0 v_1 _ hw) ⟨hx, hb, hml, hown, hts⟩ (cwV 2 hts gX5_times_X5_take rfl rfl rfl (by decide +kernel) ⟨Nat.le_of_ble_eq_true rfl, Nat.le_of_ble_eq_true rfl⟩) hK hP hD hS hA [0, 1, 2, 3, 4, 5, 6, 7] [] [0, 1, 2, 3, 4, 5, 6, 7] (wr := []) (wn := fun u : (Nat → Int64) × (Nat → Int32) => (wX5 cI cJ Ay Bmr Bfg Bln Btp Bbl Btr Bwh mrow mrs ma mb mlo mhi man mtl mtm u.1 u.2 top_6 bel thr trm who)) rfl rfl (by decide) (by decide) (by decide) (by decide) (fun _ => rfl) (rest := []) (q0 := 0) rfl rfl rfl hl.1 rfl (Nat.le_of_ble_eq_true rfl) (Nat.zero_le _) (Nat.zero_le _) dX5_times_168 (fun u H locs hw hP hD hS => ?_)
          obtain ⟨fig_8, len_9⟩ := u
          have hP : va_P G vwCl (wX5 cI cJ Ay Bmr Bfg Bln Btp Bbl Btr Bwh mrow mrs ma mb mlo mhi man mtl mtm fig_8 len_9 top_6 bel thr trm who) H := hP
          have hD : va_D A (wX5 cI cJ Ay Bmr Bfg Bln Btp Bbl Btr Bwh mrow mrs ma mb mlo mhi man mtl mtm fig_8 len_9 top_6 bel thr trm who) := hD
          exact hret (fig_8, len_9, top_6) _ _ _ _ hw hP hD hS dX5_times_171
        · have hw := hw.2 c_26
          refine lv_lconst (v := 0) hx hb dX5_times_53 (by decide) ?_
          refine lv_lstore (lv' := [(6, .long 0), (5, .int i5_5), (4, .int v_1), (0, .ref Ay), (1, .int p0), (2, .int p1), (3, .int p2)]) hx hb dX5_times_54 hl (by decide) rfl (fun ls hl => ?_)
          refine lv_iconst (v := 0) hx hb dX5_times_56 (by decide) ?_
          refine lv_istore (lv' := [(8, .int 0), (6, .long 0), (5, .int i5_5), (4, .int v_1), (0, .ref Ay), (1, .int p0), (2, .int p1), (3, .int p2)]) hx hb dX5_times_57 hl (by decide) rfl (fun ls hl => ?_)
          obtain ⟨I59_13, μ59_13, hi, hw⟩ := hw
          suffices hLI59_13 : ∀ (N : Nat) (i8_10 : Int32) (i6_11 : Int64) (top_12 : Nat → Int64) (_ : μ59_13 i8_10 i6_11 top_12 = N) (_ : I59_13 i8_10 i6_11 top_12) (H : Heap) (locs : List Loc) (ls : Array Slot), va_P G vwCl (wX5 cI cJ Ay Bmr Bfg Bln Btp Bbl Btr Bwh mrow mrs ma mb mlo mhi man mtl mtm fig len top_12 bel thr trm who) H → va_D A (wX5 cI cJ Ay Bmr Bfg Bln Btp Bbl Btr Bwh mrow mrs ma mb mlo mhi man mtl mtm fig len top_12 bel thr trm who) → va_S A s.heap H locs → lv_has ls 11 [(8, .int i8_10), (6, .long i6_11), (5, .int i5_5), (4, .int v_1), (0, .ref Ay), (1, .int p0), (2, .int p1), (3, .int p2)] → W p l e rm_X5_times s m args below meth c H locs 0 0 Z (F0 m 59 ls []) from
            hLI59_13 _ (0 : Int32) (0 : Int64) top_6 rfl hi _ _ _ hP hD hS (lv_sub hl [0, 1, 2, 3, 4, 5, 6, 7] rfl)
          clear hi hP hD hS hl
          intro N
          induction N using Nat.strongRecOn with
          | ind N ihI59_13 =>
            intro i8_10 i6_11 top_12 hNI59_13 hi H locs ls hP hD hS hl
            have hw := hw i8_10 i6_11 top_12 hi
            refine lv_iload hx hb dX5_times_59 (lv_at hl 0 rfl) ?_
            refine lv_aload_n hx hb dX5_times_61 rfl (lv_at hl 4 rfl) ?_
            refine k_get hx hb hts uX5_times_X5 hown hK hP 0 5 rfl rfl 10 (by decide) fX5_times_27 (.ref Bln) rfl dX5_times_62 ?_
            refine lv_iload_n hx hb dX5_times_65 rfl (lv_at hl 7 rfl) ?_
            obtain ⟨hin, hw⟩ := hw
            refine k_iald hx hb hK hP 3 rfl hin dX5_times_66 ?_
            refine lv_icmp_ge (tgt := 142) hx hb dX5_times_67 (by decide) (fun c_25 => ?_) (fun c_25 => ?_)
            · have hw := hw.1 c_25
              refine lv_aload_n hx hb dX5_times_142 rfl (lv_at hl 4 rfl) ?_
              refine k_get hx hb hts uX5_times_X5 hown hK hP 0 5 rfl rfl 11 (by decide) fX5_times_30 (.ref Btp) rfl dX5_times_143 ?_
              refine lv_iload hx hb dX5_times_146 (lv_at hl 2 rfl) ?_
              refine lv_aload_n hx hb dX5_times_148 rfl (lv_at hl 4 rfl) ?_
              refine k_get hx hb hts uX5_times_X5 hown hK hP 0 5 rfl rfl 10 (by decide) fX5_times_27 (.ref Bln) rfl dX5_times_149 ?_
              refine lv_iload_n hx hb dX5_times_152 rfl (lv_at hl 7 rfl) ?_
              obtain ⟨hin, hw⟩ := hw
              refine k_iald hx hb hK hP 3 rfl hin dX5_times_153 ?_
              refine lv_iadd hx hb dX5_times_154 ?_
              refine lv_topi (fun v_14 ev_14 => ?_)
              have hw := hw v_14 ev_14
              refine lv_lload hx hb dX5_times_155 (lv_at hl 1 rfl) ?_
              obtain ⟨hin, hw⟩ := hw
              refine k_last hx hb hK hP hD hS 4 rfl hin (w' := fun g => (wX5 cI cJ Ay Bmr Bfg Bln Btp Bbl Btr Bwh mrow mrs ma mb mlo mhi man mtl mtm fig len g bel thr trm who)) (fun _ => rfl) dX5_times_157 (fun top_15 etop_15 H locs hP hD hS => ?_)
              have hw := hw top_15 etop_15
              obtain ⟨i5_16, ei5_16⟩ : ∃ y : Int32, y = i5_5 + 1 := ⟨_, rfl⟩
              have hw := hw i5_16 ei5_16
              refine lv_iinc (v := i5_16) (lv' := [(5, .int i5_16), (8, .int i8_10), (6, .long i6_11), (4, .int v_1), (0, .ref Ay), (1, .int p0), (2, .int p1), (3, .int p2)]) hx hb dX5_times_158 hl (k := 2) rfl (by rw [ei5_16]; rfl) (by decide) rfl (fun ls hl => ?_)
              refine lv_goto (tgt := 42) hx hb dX5_times_161 (by decide) ?_
              exact ihI42_7 _ (by rw [← hNI42_7]; exact hw.2) i5_16 top_15 rfl hw.1 _ _ _ hP hD hS (lv_sub hl [0, 3, 4, 5, 6, 7] rfl)
            · have hw := hw.2 c_25
              refine lv_aload_n hx hb dX5_times_70 rfl (lv_at hl 4 rfl) ?_
              refine k_get hx hb hts uX5_times_X5 hown hK hP 0 5 rfl rfl 9 (by decide) fX5_times_23 (.ref Bfg) rfl dX5_times_71 ?_
              refine lv_sipush (v := 256) hx hb dX5_times_74 (by decide) ?_
              refine lv_iload_n hx hb dX5_times_77 rfl (lv_at hl 6 rfl) ?_
              refine lv_imul hx hb dX5_times_78 ?_
              refine lv_iload hx hb dX5_times_79 (lv_at hl 2 rfl) ?_
              refine lv_iadd hx hb dX5_times_81 ?_
              refine lv_topi (fun v_17 ev_17 => ?_)
              have hw := hw v_17 ev_17
              obtain ⟨hin, hw⟩ := hw
              refine k_lald hx hb hK hP 2 rfl hin dX5_times_82 ?_
              refine lv_aload_n hx hb dX5_times_83 rfl (lv_at hl 4 rfl) ?_
              refine k_get hx hb hts uX5_times_X5 hown hK hP 0 5 rfl rfl 9 (by decide) fX5_times_23 (.ref Bfg) rfl dX5_times_84 ?_
              refine lv_sipush (v := 256) hx hb dX5_times_87 (by decide) ?_
              refine lv_iload_n hx hb dX5_times_90 rfl (lv_at hl 7 rfl) ?_
              refine lv_imul hx hb dX5_times_91 ?_
              refine lv_iload hx hb dX5_times_92 (lv_at hl 0 rfl) ?_
              refine lv_iadd hx hb dX5_times_94 ?_
              refine lv_topi (fun v_18 ev_18 => ?_)
              have hw := hw v_18 ev_18
              obtain ⟨hin, hw⟩ := hw
              refine k_lald hx hb hK hP 2 rfl hin dX5_times_95 ?_
              refine lv_lmul hx hb dX5_times_96 ?_
              refine lv_topl (fun v_19 ev_19 => ?_)
              have hw := hw v_19 ev_19
              refine lv_aload_n hx hb dX5_times_97 rfl (lv_at hl 4 rfl) ?_
              refine k_get hx hb hts uX5_times_X5 hown hK hP 0 5 rfl rfl 11 (by decide) fX5_times_30 (.ref Btp) rfl dX5_times_98 ?_
              refine lv_iload hx hb dX5_times_101 (lv_at hl 2 rfl) ?_
              refine lv_iload hx hb dX5_times_103 (lv_at hl 0 rfl) ?_
              refine lv_iadd hx hb dX5_times_105 ?_
              obtain ⟨hin, hw⟩ := hw
              refine k_lald hx hb hK hP 4 rfl hin dX5_times_106 ?_
              refine lv_ladd hx hb dX5_times_107 ?_
              refine lv_topl (fun v_20 ev_20 => ?_)
              have hw := hw v_20 ev_20
              refine lv_lload hx hb dX5_times_108 (lv_at hl 1 rfl) ?_
              refine lv_ladd hx hb dX5_times_110 ?_
              refine lv_topl (fun i9_21 ei9_21 => ?_)
              have hw := hw i9_21 ei9_21
              refine lv_lstore (lv' := [(9, .long i9_21), (8, .int i8_10), (6, .long i6_11), (5, .int i5_5), (4, .int v_1), (0, .ref Ay), (1, .int p0), (2, .int p1), (3, .int p2)]) hx hb dX5_times_111 hl (by decide) rfl (fun ls hl => ?_)
              refine lv_aload_n hx hb dX5_times_113 rfl (lv_at hl 5 rfl) ?_
              refine k_get hx hb hts uX5_times_X5 hown hK hP 0 5 rfl rfl 11 (by decide) fX5_times_30 (.ref Btp) rfl dX5_times_114 ?_
              refine lv_iload hx hb dX5_times_117 (lv_at hl 3 rfl) ?_
              refine lv_iload hx hb dX5_times_119 (lv_at hl 1 rfl) ?_
              refine lv_iadd hx hb dX5_times_121 ?_
              refine lv_lload hx hb dX5_times_122 (lv_at hl 0 rfl) ?_
              refine lv_ldc2 (v := 2147483647) hx hb hown (hts _ fX5_times_49) dX5_times_124 ?_
              refine lv_land hx hb dX5_times_127 ?_
              obtain ⟨hin, hw⟩ := hw
              refine k_last hx hb hK hP hD hS 4 rfl hin (w' := fun g => (wX5 cI cJ Ay Bmr Bfg Bln Btp Bbl Btr Bwh mrow mrs ma mb mlo mhi man mtl mtm fig len g bel thr trm who)) (fun _ => rfl) dX5_times_128 (fun top_22 etop_22 H locs hP hD hS => ?_)
              have hw := hw top_22 etop_22
              refine lv_lload hx hb dX5_times_129 (lv_at hl 0 rfl) ?_
              refine lv_bipush (v := 31) hx hb dX5_times_131 (by decide) ?_
              refine lv_lshr (v := i9_21 >>> ((31 : Int32).toInt64 &&& 63)) hx hb dX5_times_133 rfl ?_
              refine lv_topl (fun i6_23 ei6_23 => ?_)
              have hw := hw i6_23 ei6_23
              refine lv_lstore (lv' := [(6, .long i6_23), (9, .long i9_21), (8, .int i8_10), (5, .int i5_5), (4, .int v_1), (0, .ref Ay), (1, .int p0), (2, .int p1), (3, .int p2)]) hx hb dX5_times_134 hl (by decide) rfl (fun ls hl => ?_)
              obtain ⟨i8_24, ei8_24⟩ : ∃ y : Int32, y = i8_10 + 1 := ⟨_, rfl⟩
              have hw := hw i8_24 ei8_24
              refine lv_iinc (v := i8_24) (lv' := [(8, .int i8_24), (6, .long i6_23), (9, .long i9_21), (5, .int i5_5), (4, .int v_1), (0, .ref Ay), (1, .int p0), (2, .int p1), (3, .int p2)]) hx hb dX5_times_136 hl (k := 2) rfl (by rw [ei8_24]; rfl) (by decide) rfl (fun ls hl => ?_)
              refine lv_goto (tgt := 59) hx hb dX5_times_139 (by decide) ?_
              exact ihI59_13 _ (by rw [← hNI59_13]; exact hw.2) i8_24 i6_23 top_22 rfl hw.1 _ _ _ hP hD hS (lv_sub hl [0, 1, 3, 4, 5, 6, 7, 8] rfl)
    · have hw := hw.2 c_29
      refine lv_aload_n hx hb dX5_times_25 rfl (lv_at hl 2 rfl) ?_
      refine k_get hx hb hts uX5_times_X5 hown hK hP 0 5 rfl rfl 11 (by decide) fX5_times_30 (.ref Btp) rfl dX5_times_26 ?_
      refine lv_iload hx hb dX5_times_29 (lv_at hl 0 rfl) ?_
      refine lv_lconst (v := 0) hx hb dX5_times_31 (by decide) ?_
      obtain ⟨hin, hw⟩ := hw
      refine k_last hx hb hK hP hD hS 4 rfl hin (w' := fun g => (wX5 cI cJ Ay Bmr Bfg Bln Btp Bbl Btr Bwh mrow mrs ma mb mlo mhi man mtl mtm fig len g bel thr trm who)) (fun _ => rfl) dX5_times_32 (fun top_27 etop_27 H locs hP hD hS => ?_)
      have hw := hw top_27 etop_27
      obtain ⟨i5_28, ei5_28⟩ : ∃ y : Int32, y = i5_2 + 1 := ⟨_, rfl⟩
      have hw := hw i5_28 ei5_28
      refine lv_iinc (v := i5_28) (lv' := [(5, .int i5_28), (4, .int v_1), (0, .ref Ay), (1, .int p0), (2, .int p1), (3, .int p2)]) hx hb dX5_times_33 hl (k := 0) rfl (by rw [ei5_28]; rfl) (by decide) rfl (fun ls hl => ?_)
      refine lv_goto (tgt := 18) hx hb dX5_times_36 (by decide) ?_
      exact ihI18_4 _ (by rw [← hNI18_4]; exact hw.2) i5_28 top_27 rfl hw.1 _ _ _ hP hD hS (lv_sub hl [0, 1, 2, 3, 4, 5] rfl)
theorem fX5_divide_27 : Cond.fieldLink RX5 27 "PrivateCountsModel" "length" "[I" ∈ wsX5_divide := by decide +kernel
theorem uX5_divide_X5 : ∀ w ∈ u_ws RX5 TX5 16, w ∈ wsX5_divide := by decide +kernel
theorem fX5_divide_23 : Cond.fieldLink RX5 23 "PrivateCountsModel" "figure" "[J" ∈ wsX5_divide := by decide +kernel
theorem fX5_divide_30 : Cond.fieldLink RX5 30 "PrivateCountsModel" "top" "[J" ∈ wsX5_divide := by decide +kernel
theorem fX5_divide_33 : Cond.fieldLink RX5 33 "PrivateCountsModel" "below" "[J" ∈ wsX5_divide := by decide +kernel
theorem fX5_divide_49 : Cond.constantLong RX5 49 (2147483647) ∈ wsX5_divide := by decide +kernel
set_option maxHeartbeats 4000000 in
set_option maxRecDepth 100000 in
theorem M_X5_divide (l : Launch) (G : va_G) (cI cJ : ClassId) (Ay Bmr Bfg Bln Btp Bbl Btr Bwh : Nat) (mrow : Nat → Int32) (mrs : Int32) (ma : Int32) (mb : Int32) (mlo : Int32) (mhi : Int32) (man : Int32) (mtl : Int32) (mtm : Int32) (fig : Nat → Int64) (len : Nat → Int32) (top : Nat → Int64) (bel : Nat → Int64) (thr : Int32) (trm : Nat → Int32) (who : Nat → Int32) (p0 : Int32) (p1 : Int32) (p2 : Int32) (p3 : Int32) (Q : (Nat → Int64) → (Nat → Int32) → (Nat → Int64) → (Nat → Int64) → Prop) (hw : w_X5_divide fig len top bel p0 p1 p2 p3 Q) : Kv l yX5_divide wsX5_divide rm_X5_divide G cI cJ [.ref Ay, .int p0, .int p1, .int p2, .int p3] (wX5 cI cJ Ay Bmr Bfg Bln Btp Bbl Btr Bwh mrow mrs ma mb mlo mhi man mtl mtm fig len top bel thr trm who) (fun (u : (Nat → Int64) × (Nat → Int32) × (Nat → Int64) × (Nat → Int64)) => Q u.1 u.2.1 u.2.2.1 u.2.2.2) (fun u => (wX5 cI cJ Ay Bmr Bfg Bln Btp Bbl Btr Bwh mrow mrs ma mb mlo mhi man mtl mtm u.1 u.2.1 u.2.2.1 u.2.2.2 thr trm who)) := by
  refine kv_intro (cc := cX5_divide) (maxL := 17) rfl rfl (by decide) rfl (Nat.le_of_ble_eq_true rfl) ?_
  intro p e s m args below meth c A Z ls hx hb hml hts hown hP hK hD hS hA hl hret
  have hl : lv_has ls 17 [(0, .ref Ay), (1, .int p0), (2, .int p1), (3, .int p2), (4, .int p3)] := hl
  unfold w_X5_divide at hw
  refine lv_bipush (v := 31) hx hb dX5_divide_0 (by decide) ?_
  refine lv_aload_n hx hb dX5_divide_2 rfl (lv_at hl 0 rfl) ?_
  refine k_get hx hb hts uX5_divide_X5 hown hK hP 0 5 rfl rfl 10 (by decide) fX5_divide_27 (.ref Bln) rfl dX5_divide_3 ?_
  refine lv_iload_n hx hb dX5_divide_6 rfl (lv_at hl 3 rfl) ?_
  obtain ⟨hin, hw⟩ := hw
  refine k_iald hx hb hK hP 3 rfl hin dX5_divide_7 ?_
  refine lv_imul hx hb dX5_divide_8 ?_
  refine lv_topi (fun v_1 ev_1 => ?_)
  have hw := hw v_1 ev_1
  refine lv_istore (lv' := [(5, .int v_1), (0, .ref Ay), (1, .int p0), (2, .int p1), (3, .int p2), (4, .int p3)]) hx hb dX5_divide_9 hl (by decide) rfl (fun ls hl => ?_)
  refine lv_aload_n hx hb dX5_divide_11 rfl (lv_at hl 1 rfl) ?_
  refine k_get hx hb hts uX5_divide_X5 hown hK hP 0 5 rfl rfl 10 (by decide) fX5_divide_27 (.ref Bln) rfl dX5_divide_12 ?_
  refine lv_iload hx hb dX5_divide_15 (lv_at hl 5 rfl) ?_
  obtain ⟨hin, hw⟩ := hw
  refine k_iald hx hb hK hP 3 rfl hin dX5_divide_17 ?_
  refine lv_iconst (v := 1) hx hb dX5_divide_18 (by decide) ?_
  refine lv_iadd hx hb dX5_divide_19 ?_
  refine lv_topi (fun v_2 ev_2 => ?_)
  have hw := hw v_2 ev_2
  refine lv_istore (lv' := [(6, .int v_2), (5, .int v_1), (0, .ref Ay), (1, .int p0), (2, .int p1), (3, .int p2), (4, .int p3)]) hx hb dX5_divide_20 hl (by decide) rfl (fun ls hl => ?_)
  refine lv_iconst (v := 0) hx hb dX5_divide_22 (by decide) ?_
  refine lv_istore (lv' := [(7, .int 0), (6, .int v_2), (5, .int v_1), (0, .ref Ay), (1, .int p0), (2, .int p1), (3, .int p2), (4, .int p3)]) hx hb dX5_divide_23 hl (by decide) rfl (fun ls hl => ?_)
  obtain ⟨I25_6, μ25_6, hi, hw⟩ := hw
  suffices hLI25_6 : ∀ (N : Nat) (i7_3 : Int32) (top_4 : Nat → Int64) (bel_5 : Nat → Int64) (_ : μ25_6 i7_3 top_4 bel_5 = N) (_ : I25_6 i7_3 top_4 bel_5) (H : Heap) (locs : List Loc) (ls : Array Slot), va_P G vwCl (wX5 cI cJ Ay Bmr Bfg Bln Btp Bbl Btr Bwh mrow mrs ma mb mlo mhi man mtl mtm fig len top_4 bel_5 thr trm who) H → va_D A (wX5 cI cJ Ay Bmr Bfg Bln Btp Bbl Btr Bwh mrow mrs ma mb mlo mhi man mtl mtm fig len top_4 bel_5 thr trm who) → va_S A s.heap H locs → lv_has ls 17 [(7, .int i7_3), (6, .int v_2), (5, .int v_1), (0, .ref Ay), (1, .int p0), (2, .int p1), (3, .int p2), (4, .int p3)] → W p l e rm_X5_divide s m args below meth c H locs 0 0 Z (F0 m 25 ls []) from
    hLI25_6 _ (0 : Int32) top bel rfl hi _ _ _ hP hD hS (lv_sub hl [0, 1, 2, 3, 4, 5, 6, 7] rfl)
  clear hi hP hD hS hl
  intro N
  induction N using Nat.strongRecOn with
  | ind N ihI25_6 =>
    intro i7_3 top_4 bel_5 hNI25_6 hi H locs ls hP hD hS hl
    have hw := hw i7_3 top_4 bel_5 hi
    refine lv_iload hx hb dX5_divide_25 (lv_at hl 0 rfl) ?_
    refine lv_iload hx hb dX5_divide_27 (lv_at hl 1 rfl) ?_
    refine lv_icmp_ge (tgt := 61) hx hb dX5_divide_29 (by decide) (fun c_69 => ?_) (fun c_69 => ?_)
    · have hw := hw.1 c_69
      refine lv_aload_n hx hb dX5_divide_61 rfl (lv_at hl 3 rfl) ?_
      refine k_get hx hb hts uX5_divide_X5 hown hK hP 0 5 rfl rfl 10 (by decide) fX5_divide_27 (.ref Bln) rfl dX5_divide_62 ?_
      refine lv_iload_n hx hb dX5_divide_65 rfl (lv_at hl 6 rfl) ?_
      obtain ⟨hin, hw⟩ := hw
      refine k_iald hx hb hK hP 3 rfl hin dX5_divide_66 ?_
      refine lv_topi (fun i7_7 ei7_7 => ?_)
      have hw := hw i7_7 ei7_7
      refine lv_istore (lv' := [(7, .int i7_7), (6, .int v_2), (5, .int v_1), (0, .ref Ay), (1, .int p0), (2, .int p1), (3, .int p2), (4, .int p3)]) hx hb dX5_divide_67 hl (by decide) rfl (fun ls hl => ?_)
      refine lv_iconst (v := 0) hx hb dX5_divide_69 (by decide) ?_
      refine lv_istore (lv' := [(8, .int 0), (7, .int i7_7), (6, .int v_2), (5, .int v_1), (0, .ref Ay), (1, .int p0), (2, .int p1), (3, .int p2), (4, .int p3)]) hx hb dX5_divide_70 hl (by decide) rfl (fun ls hl => ?_)
      obtain ⟨I72_10, μ72_10, hi, hw⟩ := hw
      suffices hLI72_10 : ∀ (N : Nat) (i8_8 : Int32) (fig_9 : Nat → Int64) (_ : μ72_10 i8_8 fig_9 = N) (_ : I72_10 i8_8 fig_9) (H : Heap) (locs : List Loc) (ls : Array Slot), va_P G vwCl (wX5 cI cJ Ay Bmr Bfg Bln Btp Bbl Btr Bwh mrow mrs ma mb mlo mhi man mtl mtm fig_9 len top_4 bel_5 thr trm who) H → va_D A (wX5 cI cJ Ay Bmr Bfg Bln Btp Bbl Btr Bwh mrow mrs ma mb mlo mhi man mtl mtm fig_9 len top_4 bel_5 thr trm who) → va_S A s.heap H locs → lv_has ls 17 [(8, .int i8_8), (7, .int i7_7), (6, .int v_2), (5, .int v_1), (0, .ref Ay), (1, .int p0), (2, .int p1), (3, .int p2)] → W p l e rm_X5_divide s m args below meth c H locs 0 0 Z (F0 m 72 ls []) from
        hLI72_10 _ (0 : Int32) fig rfl hi _ _ _ hP hD hS (lv_sub hl [0, 1, 2, 3, 4, 5, 6, 7] rfl)
      clear hi hP hD hS hl
      intro N
      induction N using Nat.strongRecOn with
      | ind N ihI72_10 =>
        intro i8_8 fig_9 hNI72_10 hi H locs ls hP hD hS hl
        have hw := hw i8_8 fig_9 hi
        refine lv_iload hx hb dX5_divide_72 (lv_at hl 0 rfl) ?_
        refine lv_iload hx hb dX5_divide_74 (lv_at hl 1 rfl) ?_
        refine lv_icmp_ge (tgt := 99) hx hb dX5_divide_76 (by decide) (fun c_64 => ?_) (fun c_64 => ?_)
        · have hw := hw.1 c_64
          refine lv_iload hx hb dX5_divide_99 (lv_at hl 3 rfl) ?_
          refine lv_iconst (v := 1) hx hb dX5_divide_101 (by decide) ?_
          refine lv_isub hx hb dX5_divide_102 ?_
          refine lv_topi (fun i8_11 ei8_11 => ?_)
          have hw := hw i8_11 ei8_11
          refine lv_istore (lv' := [(8, .int i8_11), (7, .int i7_7), (6, .int v_2), (5, .int v_1), (0, .ref Ay), (1, .int p0), (2, .int p1), (3, .int p2)]) hx hb dX5_divide_103 hl (by decide) rfl (fun ls hl => ?_)
          obtain ⟨I105_15, μ105_15, hi, hw⟩ := hw
          suffices hLI105_15 : ∀ (N : Nat) (i8_12 : Int32) (fig_13 : Nat → Int64) (top_14 : Nat → Int64) (_ : μ105_15 i8_12 fig_13 top_14 = N) (_ : I105_15 i8_12 fig_13 top_14) (H : Heap) (locs : List Loc) (ls : Array Slot), va_P G vwCl (wX5 cI cJ Ay Bmr Bfg Bln Btp Bbl Btr Bwh mrow mrs ma mb mlo mhi man mtl mtm fig_13 len top_14 bel_5 thr trm who) H → va_D A (wX5 cI cJ Ay Bmr Bfg Bln Btp Bbl Btr Bwh mrow mrs ma mb mlo mhi man mtl mtm fig_13 len top_14 bel_5 thr trm who) → va_S A s.heap H locs → lv_has ls 17 [(8, .int i8_12), (7, .int i7_7), (6, .int v_2), (0, .ref Ay), (1, .int p0), (2, .int p1), (3, .int p2)] → W p l e rm_X5_divide s m args below meth c H locs 0 0 Z (F0 m 105 ls []) from
            hLI105_15 _ i8_11 fig_9 top_4 rfl hi _ _ _ hP hD hS (lv_sub hl [0, 1, 2, 4, 5, 6, 7] rfl)
          clear hi hP hD hS hl
          intro N
          induction N using Nat.strongRecOn with
          | ind N ihI105_15 =>
            intro i8_12 fig_13 top_14 hNI105_15 hi H locs ls hP hD hS hl
            have hw := hw i8_12 fig_13 top_14 hi
            refine lv_iload hx hb dX5_divide_105 (lv_at hl 0 rfl) ?_
            refine lv_if_lt (tgt := 337) hx hb dX5_divide_107 (by decide) (fun c_60 => ?_) (fun c_60 => ?_)
            · have hw := hw.1 c_60
              refine lv_aload_n hx hb dX5_divide_337 rfl (lv_at hl 3 rfl) ?_
              refine lv_iload_n hx hb dX5_divide_338 rfl (lv_at hl 4 rfl) ?_
              refine lv_iload hx hb dX5_divide_339 (lv_at hl 1 rfl) ?_
              refine k_Vv (M_X5_trim l G cI cJ Ay Bmr Bfg Bln Btp Bbl Btr Bwh mrow mrs ma mb mlo mhi man mtl mtm fig_13 len top_14 bel_5 thr trm who p0 i7_7 _ hw) ⟨hx, hb, hml, hown, hts⟩ (cwV 2 hts gX5_divide_X5_trim rfl rfl rfl (by decide +kernel) ⟨Nat.le_of_ble_eq_true rfl, Nat.le_of_ble_eq_true rfl⟩) hK hP hD hS hA [0, 1, 2, 3, 4, 5, 6, 7] [] [0, 1, 2, 3, 4, 5, 6, 7] (wr := []) (wn := fun u : (Nat → Int32) => (wX5 cI cJ Ay Bmr Bfg Bln Btp Bbl Btr Bwh mrow mrs ma mb mlo mhi man mtl mtm fig_13 u top_14 bel_5 thr trm who)) rfl rfl (by decide) (by decide) (by decide) (by decide) (fun _ => rfl) (rest := []) (q0 := 0) rfl rfl rfl hl.1 rfl (Nat.le_of_ble_eq_true rfl) (Nat.zero_le _) (Nat.zero_le _) dX5_divide_341 (fun u H locs hw hP hD hS => ?_)
              obtain ⟨len_16, rfl⟩ : ∃ z, z = u := ⟨_, rfl⟩
              have hP : va_P G vwCl (wX5 cI cJ Ay Bmr Bfg Bln Btp Bbl Btr Bwh mrow mrs ma mb mlo mhi man mtl mtm fig_13 len_16 top_14 bel_5 thr trm who) H := hP
              have hD : va_D A (wX5 cI cJ Ay Bmr Bfg Bln Btp Bbl Btr Bwh mrow mrs ma mb mlo mhi man mtl mtm fig_13 len_16 top_14 bel_5 thr trm who) := hD
              refine lv_aload_n hx hb dX5_divide_344 rfl (lv_at hl 3 rfl) ?_
              refine lv_iload_n hx hb dX5_divide_345 rfl (lv_at hl 5 rfl) ?_
              refine lv_iload hx hb dX5_divide_346 (lv_at hl 2 rfl) ?_
              refine k_Vv (M_X5_take l G cI cJ Ay Bmr Bfg Bln Btp Bbl Btr Bwh mrow mrs ma mb mlo mhi man mtl mtm fig_13 len_16 top_14 bel_5 thr trm who p1 v_2 _ hw) ⟨hx, hb, hml, hown, hts⟩ (cwV 2 hts gX5_divide_X5_take rfl rfl rfl (by decide +kernel) ⟨Nat.le_of_ble_eq_true rfl, Nat.le_of_ble_eq_true rfl⟩) hK hP hD hS hA [0, 1, 2, 3, 4, 5, 6, 7] [] [0, 1, 2, 3, 4, 5, 6, 7] (wr := []) (wn := fun u : (Nat → Int64) × (Nat → Int32) => (wX5 cI cJ Ay Bmr Bfg Bln Btp Bbl Btr Bwh mrow mrs ma mb mlo mhi man mtl mtm u.1 u.2 top_14 bel_5 thr trm who)) rfl rfl (by decide) (by decide) (by decide) (by decide) (fun _ => rfl) (rest := []) (q0 := 0) rfl rfl rfl hl.1 rfl (Nat.le_of_ble_eq_true rfl) (Nat.zero_le _) (Nat.zero_le _) dX5_divide_348 (fun u H locs hw hP hD hS => ?_)
              obtain ⟨fig_17, len_18⟩ := u
              have hP : va_P G vwCl (wX5 cI cJ Ay Bmr Bfg Bln Btp Bbl Btr Bwh mrow mrs ma mb mlo mhi man mtl mtm fig_17 len_18 top_14 bel_5 thr trm who) H := hP
              have hD : va_D A (wX5 cI cJ Ay Bmr Bfg Bln Btp Bbl Btr Bwh mrow mrs ma mb mlo mhi man mtl mtm fig_17 len_18 top_14 bel_5 thr trm who) := hD
              exact hret (fig_17, len_18, top_14, bel_5) _ _ _ _ hw hP hD hS dX5_divide_351
            · have hw := hw.2 c_60
              refine lv_aload_n hx hb dX5_divide_110 rfl (lv_at hl 3 rfl) ?_
              refine k_get hx hb hts uX5_divide_X5 hown hK hP 0 5 rfl rfl 9 (by decide) fX5_divide_23 (.ref Bfg) rfl dX5_divide_111 ?_
              refine lv_sipush (v := 256) hx hb dX5_divide_114 (by decide) ?_
              refine lv_iload_n hx hb dX5_divide_117 rfl (lv_at hl 6 rfl) ?_
              refine lv_imul hx hb dX5_divide_118 ?_
              refine lv_iload hx hb dX5_divide_119 (lv_at hl 0 rfl) ?_
              refine lv_bipush (v := 31) hx hb dX5_divide_121 (by decide) ?_
              refine lv_idiv hx hb dX5_divide_123 (by decide) ?_
              refine lv_topi (fun v_19 ev_19 => ?_)
              have hw := hw v_19 ev_19
              refine lv_iadd hx hb dX5_divide_124 ?_
              refine lv_topi (fun v_20 ev_20 => ?_)
              have hw := hw v_20 ev_20
              obtain ⟨hin, hw⟩ := hw
              refine k_lald hx hb hK hP 2 rfl hin dX5_divide_125 ?_
              refine lv_iload hx hb dX5_divide_126 (lv_at hl 0 rfl) ?_
              refine lv_bipush (v := 31) hx hb dX5_divide_128 (by decide) ?_
              refine lv_irem hx hb dX5_divide_130 (by decide) ?_
              refine lv_topi (fun v_21 ev_21 => ?_)
              have hw := hw v_21 ev_21
              refine lv_lshr (v := (fig_13 v_20.toNatClampNeg) >>> (v_21.toInt64 &&& 63)) hx hb dX5_divide_131 rfl ?_
              refine lv_topl (fun v_22 ev_22 => ?_)
              have hw := hw v_22 ev_22
              refine lv_lconst (v := 1) hx hb dX5_divide_132 (by decide) ?_
              refine lv_land hx hb dX5_divide_133 ?_
              refine lv_topl (fun i9_23 ei9_23 => ?_)
              have hw := hw i9_23 ei9_23
              refine lv_lstore (lv' := [(9, .long i9_23), (8, .int i8_12), (7, .int i7_7), (6, .int v_2), (0, .ref Ay), (1, .int p0), (2, .int p1), (3, .int p2)]) hx hb dX5_divide_134 hl (by decide) rfl (fun ls hl => ?_)
              refine lv_iconst (v := 0) hx hb dX5_divide_136 (by decide) ?_
              refine lv_istore (lv' := [(11, .int 0), (9, .long i9_23), (8, .int i8_12), (7, .int i7_7), (6, .int v_2), (0, .ref Ay), (1, .int p0), (2, .int p1), (3, .int p2)]) hx hb dX5_divide_137 hl (by decide) rfl (fun ls hl => ?_)
              obtain ⟨I139_27, μ139_27, hi, hw⟩ := hw
              suffices hLI139_27 : ∀ (N : Nat) (i11_24 : Int32) (i9_25 : Int64) (top_26 : Nat → Int64) (_ : μ139_27 i11_24 i9_25 top_26 = N) (_ : I139_27 i11_24 i9_25 top_26) (H : Heap) (locs : List Loc) (ls : Array Slot), va_P G vwCl (wX5 cI cJ Ay Bmr Bfg Bln Btp Bbl Btr Bwh mrow mrs ma mb mlo mhi man mtl mtm fig_13 len top_26 bel_5 thr trm who) H → va_D A (wX5 cI cJ Ay Bmr Bfg Bln Btp Bbl Btr Bwh mrow mrs ma mb mlo mhi man mtl mtm fig_13 len top_26 bel_5 thr trm who) → va_S A s.heap H locs → lv_has ls 17 [(11, .int i11_24), (9, .long i9_25), (8, .int i8_12), (7, .int i7_7), (6, .int v_2), (0, .ref Ay), (1, .int p0), (2, .int p1), (3, .int p2)] → W p l e rm_X5_divide s m args below meth c H locs 0 0 Z (F0 m 139 ls []) from
                hLI139_27 _ (0 : Int32) i9_23 top_14 rfl hi _ _ _ hP hD hS (lv_sub hl [0, 1, 2, 3, 4, 5, 6, 7, 8] rfl)
              clear hi hP hD hS hl
              intro N
              induction N using Nat.strongRecOn with
              | ind N ihI139_27 =>
                intro i11_24 i9_25 top_26 hNI139_27 hi H locs ls hP hD hS hl
                have hw := hw i11_24 i9_25 top_26 hi
                refine lv_iload hx hb dX5_divide_139 (lv_at hl 0 rfl) ?_
                refine lv_iload hx hb dX5_divide_141 (lv_at hl 4 rfl) ?_
                refine lv_icmp_ge (tgt := 186) hx hb dX5_divide_143 (by decide) (fun c_59 => ?_) (fun c_59 => ?_)
                · have hw := hw.1 c_59
                  refine lv_iload hx hb dX5_divide_186 (lv_at hl 4 rfl) ?_
                  refine lv_iconst (v := 1) hx hb dX5_divide_188 (by decide) ?_
                  refine lv_isub hx hb dX5_divide_189 ?_
                  refine lv_topi (fun i11_28 ei11_28 => ?_)
                  have hw := hw i11_28 ei11_28
                  refine lv_istore (lv' := [(11, .int i11_28), (9, .long i9_25), (8, .int i8_12), (7, .int i7_7), (6, .int v_2), (0, .ref Ay), (1, .int p0), (2, .int p1), (3, .int p2)]) hx hb dX5_divide_190 hl (by decide) rfl (fun ls hl => ?_)
                  obtain ⟨I192_30, μ192_30, hi, hw⟩ := hw
                  suffices hLI192_30 : ∀ (N : Nat) (i11_29 : Int32) (_ : μ192_30 i11_29 = N) (_ : I192_30 i11_29) (H : Heap) (locs : List Loc) (ls : Array Slot), va_P G vwCl (wX5 cI cJ Ay Bmr Bfg Bln Btp Bbl Btr Bwh mrow mrs ma mb mlo mhi man mtl mtm fig_13 len top_26 bel_5 thr trm who) H → va_D A (wX5 cI cJ Ay Bmr Bfg Bln Btp Bbl Btr Bwh mrow mrs ma mb mlo mhi man mtl mtm fig_13 len top_26 bel_5 thr trm who) → va_S A s.heap H locs → lv_has ls 17 [(11, .int i11_29), (8, .int i8_12), (7, .int i7_7), (6, .int v_2), (0, .ref Ay), (1, .int p0), (2, .int p1), (3, .int p2)] → W p l e rm_X5_divide s m args below meth c H locs 0 0 Z (F0 m 192 ls []) from
                    hLI192_30 _ i11_28 rfl hi _ _ _ hP hD hS (lv_sub hl [0, 2, 3, 4, 5, 6, 7, 8] rfl)
                  clear hi hP hD hS hl
                  intro N
                  induction N using Nat.strongRecOn with
                  | ind N ihI192_30 =>
                    intro i11_29 hNI192_30 hi H locs ls hP hD hS hl
                    have hw := hw i11_29 hi
                    refine lv_iload hx hb dX5_divide_192 (lv_at hl 0 rfl) ?_
                    obtain ⟨J221_31, hw, hR⟩ := hw
                    have hJ221_31 : ∀ (_ : J221_31) (H : Heap) (locs : List Loc) (ls : Array Slot), va_P G vwCl (wX5 cI cJ Ay Bmr Bfg Bln Btp Bbl Btr Bwh mrow mrs ma mb mlo mhi man mtl mtm fig_13 len top_26 bel_5 thr trm who) H → va_D A (wX5 cI cJ Ay Bmr Bfg Bln Btp Bbl Btr Bwh mrow mrs ma mb mlo mhi man mtl mtm fig_13 len top_26 bel_5 thr trm who) → va_S A s.heap H locs → lv_has ls 17 [(11, .int i11_29), (8, .int i8_12), (7, .int i7_7), (6, .int v_2), (0, .ref Ay), (1, .int p0), (2, .int p1), (3, .int p2)] → W p l e rm_X5_divide s m args below meth c H locs 0 0 Z (F0 m 221 ls []) := by
                      intro hw H locs ls hP hD hS hl
                      have hw := hR hw
                      refine lv_aload_n hx hb dX5_divide_221 rfl (lv_at hl 4 rfl) ?_
                      refine k_get hx hb hts uX5_divide_X5 hown hK hP 0 5 rfl rfl 11 (by decide) fX5_divide_30 (.ref Btp) rfl dX5_divide_222 ?_
                      refine lv_iload hx hb dX5_divide_225 (lv_at hl 0 rfl) ?_
                      obtain ⟨hin, hw⟩ := hw
                      refine k_lald hx hb hK hP 4 rfl hin dX5_divide_227 ?_
                      refine lv_aload_n hx hb dX5_divide_228 rfl (lv_at hl 4 rfl) ?_
                      refine k_get hx hb hts uX5_divide_X5 hown hK hP 0 5 rfl rfl 12 (by decide) fX5_divide_33 (.ref Bbl) rfl dX5_divide_229 ?_
                      refine lv_iload hx hb dX5_divide_232 (lv_at hl 0 rfl) ?_
                      obtain ⟨hin, hw⟩ := hw
                      refine k_lald hx hb hK hP 5 rfl hin dX5_divide_234 ?_
                      refine k_lif_lt (tgt := 331) hx hb dX5_divide_235 dX5_divide_236 (by decide) (fun c_53 => ?_) (fun c_53 => ?_)
                      · have hw := hw.1 c_53
                        obtain ⟨i8_35, ei8_35⟩ : ∃ y : Int32, y = i8_12 + (-1) := ⟨_, rfl⟩
                        have hw := hw i8_35 ei8_35
                        refine lv_iinc (v := i8_35) (lv' := [(8, .int i8_35), (11, .int i11_29), (7, .int i7_7), (6, .int v_2), (0, .ref Ay), (1, .int p0), (2, .int p1), (3, .int p2)]) hx hb dX5_divide_331 hl (k := 1) rfl (by rw [ei8_35]; rfl) (by decide) rfl (fun ls hl => ?_)
                        refine lv_goto (tgt := 105) hx hb dX5_divide_334 (by decide) ?_
                        exact ihI105_15 _ (by rw [← hNI105_15]; exact hw.2) i8_35 fig_13 top_26 rfl hw.1 _ _ _ hP hD hS (lv_sub hl [0, 2, 3, 4, 5, 6, 7] rfl)
                      · have hw := hw.2 c_53
                        refine lv_lconst (v := 0) hx hb dX5_divide_239 (by decide) ?_
                        refine lv_lstore (lv' := [(12, .long 0), (11, .int i11_29), (8, .int i8_12), (7, .int i7_7), (6, .int v_2), (0, .ref Ay), (1, .int p0), (2, .int p1), (3, .int p2)]) hx hb dX5_divide_240 hl (by decide) rfl (fun ls hl => ?_)
                        refine lv_iconst (v := 0) hx hb dX5_divide_242 (by decide) ?_
                        refine lv_istore (lv' := [(14, .int 0), (12, .long 0), (11, .int i11_29), (8, .int i8_12), (7, .int i7_7), (6, .int v_2), (0, .ref Ay), (1, .int p0), (2, .int p1), (3, .int p2)]) hx hb dX5_divide_243 hl (by decide) rfl (fun ls hl => ?_)
                        obtain ⟨I245_39, μ245_39, hi, hw⟩ := hw
                        suffices hLI245_39 : ∀ (N : Nat) (i14_36 : Int32) (i12_37 : Int64) (top_38 : Nat → Int64) (_ : μ245_39 i14_36 i12_37 top_38 = N) (_ : I245_39 i14_36 i12_37 top_38) (H : Heap) (locs : List Loc) (ls : Array Slot), va_P G vwCl (wX5 cI cJ Ay Bmr Bfg Bln Btp Bbl Btr Bwh mrow mrs ma mb mlo mhi man mtl mtm fig_13 len top_38 bel_5 thr trm who) H → va_D A (wX5 cI cJ Ay Bmr Bfg Bln Btp Bbl Btr Bwh mrow mrs ma mb mlo mhi man mtl mtm fig_13 len top_38 bel_5 thr trm who) → va_S A s.heap H locs → lv_has ls 17 [(14, .int i14_36), (12, .long i12_37), (8, .int i8_12), (7, .int i7_7), (6, .int v_2), (0, .ref Ay), (1, .int p0), (2, .int p1), (3, .int p2)] → W p l e rm_X5_divide s m args below meth c H locs 0 0 Z (F0 m 245 ls []) from
                          hLI245_39 _ (0 : Int32) (0 : Int64) top_26 rfl hi _ _ _ hP hD hS (lv_sub hl [0, 1, 3, 4, 5, 6, 7, 8, 9] rfl)
                        clear hi hP hD hS hl
                        intro N
                        induction N using Nat.strongRecOn with
                        | ind N ihI245_39 =>
                          intro i14_36 i12_37 top_38 hNI245_39 hi H locs ls hP hD hS hl
                          have hw := hw i14_36 i12_37 top_38 hi
                          refine lv_iload hx hb dX5_divide_245 (lv_at hl 0 rfl) ?_
                          refine lv_iload hx hb dX5_divide_247 (lv_at hl 4 rfl) ?_
                          refine lv_icmp_ge (tgt := 305) hx hb dX5_divide_249 (by decide) (fun c_52 => ?_) (fun c_52 => ?_)
                          · have hw := hw.1 c_52
                            refine lv_aload_n hx hb dX5_divide_305 rfl (lv_at hl 5 rfl) ?_
                            refine k_get hx hb hts uX5_divide_X5 hown hK hP 0 5 rfl rfl 9 (by decide) fX5_divide_23 (.ref Bfg) rfl dX5_divide_306 ?_
                            refine lv_sipush (v := 256) hx hb dX5_divide_309 (by decide) ?_
                            refine lv_iload_n hx hb dX5_divide_312 rfl (lv_at hl 6 rfl) ?_
                            refine lv_imul hx hb dX5_divide_313 ?_
                            refine lv_iload hx hb dX5_divide_314 (lv_at hl 2 rfl) ?_
                            refine lv_bipush (v := 31) hx hb dX5_divide_316 (by decide) ?_
                            refine lv_idiv hx hb dX5_divide_318 (by decide) ?_
                            refine lv_topi (fun v_40 ev_40 => ?_)
                            have hw := hw v_40 ev_40
                            refine lv_iadd hx hb dX5_divide_319 ?_
                            refine lv_topi (fun v_41 ev_41 => ?_)
                            have hw := hw v_41 ev_41
                            refine lv_dup2_11 hx hb dX5_divide_320 rfl rfl ?_
                            obtain ⟨hin, hw⟩ := hw
                            refine k_lald hx hb hK hP 2 rfl hin dX5_divide_321 ?_
                            refine lv_lconst (v := 1) hx hb dX5_divide_322 (by decide) ?_
                            refine lv_iload hx hb dX5_divide_323 (lv_at hl 2 rfl) ?_
                            refine lv_bipush (v := 31) hx hb dX5_divide_325 (by decide) ?_
                            refine lv_irem hx hb dX5_divide_327 (by decide) ?_
                            refine lv_topi (fun v_42 ev_42 => ?_)
                            have hw := hw v_42 ev_42
                            refine lv_lshl (v := (1 : Int64) <<< (v_42.toInt64 &&& 63)) hx hb dX5_divide_328 rfl ?_
                            refine lv_lor hx hb dX5_divide_329 ?_
                            refine lv_topl (fun v_43 ev_43 => ?_)
                            have hw := hw v_43 ev_43
                            obtain ⟨hin, hw⟩ := hw
                            refine k_last hx hb hK hP hD hS 2 rfl hin (w' := fun g => (wX5 cI cJ Ay Bmr Bfg Bln Btp Bbl Btr Bwh mrow mrs ma mb mlo mhi man mtl mtm g len top_38 bel_5 thr trm who)) (fun _ => rfl) dX5_divide_330 (fun fig_44 efig_44 H locs hP hD hS => ?_)
                            have hw := hw fig_44 efig_44
                            obtain ⟨i8_45, ei8_45⟩ : ∃ y : Int32, y = i8_12 + (-1) := ⟨_, rfl⟩
                            have hw := hw i8_45 ei8_45
                            refine lv_iinc (v := i8_45) (lv' := [(8, .int i8_45), (14, .int i14_36), (12, .long i12_37), (7, .int i7_7), (6, .int v_2), (0, .ref Ay), (1, .int p0), (2, .int p1), (3, .int p2)]) hx hb dX5_divide_331 hl (k := 2) rfl (by rw [ei8_45]; rfl) (by decide) rfl (fun ls hl => ?_)
                            refine lv_goto (tgt := 105) hx hb dX5_divide_334 (by decide) ?_
                            exact ihI105_15 _ (by rw [← hNI105_15]; exact hw.2) i8_45 fig_44 top_38 rfl hw.1 _ _ _ hP hD hS (lv_sub hl [0, 3, 4, 5, 6, 7, 8] rfl)
                          · have hw := hw.2 c_52
                            refine lv_aload_n hx hb dX5_divide_252 rfl (lv_at hl 5 rfl) ?_
                            refine k_get hx hb hts uX5_divide_X5 hown hK hP 0 5 rfl rfl 11 (by decide) fX5_divide_30 (.ref Btp) rfl dX5_divide_253 ?_
                            refine lv_iload hx hb dX5_divide_256 (lv_at hl 0 rfl) ?_
                            obtain ⟨hin, hw⟩ := hw
                            refine k_lald hx hb hK hP 4 rfl hin dX5_divide_258 ?_
                            refine lv_aload_n hx hb dX5_divide_259 rfl (lv_at hl 5 rfl) ?_
                            refine k_get hx hb hts uX5_divide_X5 hown hK hP 0 5 rfl rfl 12 (by decide) fX5_divide_33 (.ref Bbl) rfl dX5_divide_260 ?_
                            refine lv_iload hx hb dX5_divide_263 (lv_at hl 0 rfl) ?_
                            obtain ⟨hin, hw⟩ := hw
                            refine k_lald hx hb hK hP 5 rfl hin dX5_divide_265 ?_
                            refine lv_lsub hx hb dX5_divide_266 ?_
                            refine lv_topl (fun v_46 ev_46 => ?_)
                            have hw := hw v_46 ev_46
                            refine lv_lload hx hb dX5_divide_267 (lv_at hl 1 rfl) ?_
                            refine lv_lsub hx hb dX5_divide_269 ?_
                            refine lv_topl (fun i15_47 ei15_47 => ?_)
                            have hw := hw i15_47 ei15_47
                            refine lv_lstore (lv' := [(15, .long i15_47), (14, .int i14_36), (12, .long i12_37), (8, .int i8_12), (7, .int i7_7), (6, .int v_2), (0, .ref Ay), (1, .int p0), (2, .int p1), (3, .int p2)]) hx hb dX5_divide_270 hl (by decide) rfl (fun ls hl => ?_)
                            refine lv_aload_n hx hb dX5_divide_272 rfl (lv_at hl 6 rfl) ?_
                            refine k_get hx hb hts uX5_divide_X5 hown hK hP 0 5 rfl rfl 11 (by decide) fX5_divide_30 (.ref Btp) rfl dX5_divide_273 ?_
                            refine lv_iload hx hb dX5_divide_276 (lv_at hl 1 rfl) ?_
                            refine lv_lload hx hb dX5_divide_278 (lv_at hl 0 rfl) ?_
                            refine lv_ldc2 (v := 2147483647) hx hb hown (hts _ fX5_divide_49) dX5_divide_280 ?_
                            refine lv_land hx hb dX5_divide_283 ?_
                            obtain ⟨hin, hw⟩ := hw
                            refine k_last hx hb hK hP hD hS 4 rfl hin (w' := fun g => (wX5 cI cJ Ay Bmr Bfg Bln Btp Bbl Btr Bwh mrow mrs ma mb mlo mhi man mtl mtm fig_13 len g bel_5 thr trm who)) (fun _ => rfl) dX5_divide_284 (fun top_48 etop_48 H locs hP hD hS => ?_)
                            have hw := hw top_48 etop_48
                            refine lv_lload hx hb dX5_divide_285 (lv_at hl 0 rfl) ?_
                            refine lv_lconst (v := 0) hx hb dX5_divide_287 (by decide) ?_
                            refine k_lif_ge (tgt := 296) hx hb dX5_divide_288 dX5_divide_289 (by decide) (fun c_51 => ?_) (fun c_51 => ?_)
                            · have hw := hw.1 c_51
                              refine lv_lconst (v := 0) hx hb dX5_divide_296 (by decide) ?_
                              refine lv_lstore (lv' := [(12, .long 0), (15, .long i15_47), (14, .int i14_36), (8, .int i8_12), (7, .int i7_7), (6, .int v_2), (0, .ref Ay), (1, .int p0), (2, .int p1), (3, .int p2)]) hx hb dX5_divide_297 hl (by decide) rfl (fun ls hl => ?_)
                              obtain ⟨i14_49, ei14_49⟩ : ∃ y : Int32, y = i14_36 + 1 := ⟨_, rfl⟩
                              have hw := hw i14_49 ei14_49
                              refine lv_iinc (v := i14_49) (lv' := [(14, .int i14_49), (12, .long 0), (15, .long i15_47), (8, .int i8_12), (7, .int i7_7), (6, .int v_2), (0, .ref Ay), (1, .int p0), (2, .int p1), (3, .int p2)]) hx hb dX5_divide_299 hl (k := 2) rfl (by rw [ei14_49]; rfl) (by decide) rfl (fun ls hl => ?_)
                              refine lv_goto (tgt := 245) hx hb dX5_divide_302 (by decide) ?_
                              exact ihI245_39 _ (by rw [← hNI245_39]; exact hw.2) i14_49 0 top_48 rfl hw.1 _ _ _ hP hD hS (lv_sub hl [0, 1, 3, 4, 5, 6, 7, 8, 9] rfl)
                            · have hw := hw.2 c_51
                              refine lv_lconst (v := 1) hx hb dX5_divide_292 (by decide) ?_
                              refine lv_goto (tgt := 297) hx hb dX5_divide_293 (by decide) ?_
                              refine lv_lstore (lv' := [(12, .long 1), (15, .long i15_47), (14, .int i14_36), (8, .int i8_12), (7, .int i7_7), (6, .int v_2), (0, .ref Ay), (1, .int p0), (2, .int p1), (3, .int p2)]) hx hb dX5_divide_297 hl (by decide) rfl (fun ls hl => ?_)
                              obtain ⟨i14_50, ei14_50⟩ : ∃ y : Int32, y = i14_36 + 1 := ⟨_, rfl⟩
                              have hw := hw i14_50 ei14_50
                              refine lv_iinc (v := i14_50) (lv' := [(14, .int i14_50), (12, .long 1), (15, .long i15_47), (8, .int i8_12), (7, .int i7_7), (6, .int v_2), (0, .ref Ay), (1, .int p0), (2, .int p1), (3, .int p2)]) hx hb dX5_divide_299 hl (k := 2) rfl (by rw [ei14_50]; rfl) (by decide) rfl (fun ls hl => ?_)
                              refine lv_goto (tgt := 245) hx hb dX5_divide_302 (by decide) ?_
                              exact ihI245_39 _ (by rw [← hNI245_39]; exact hw.2) i14_50 1 top_48 rfl hw.1 _ _ _ hP hD hS (lv_sub hl [0, 1, 3, 4, 5, 6, 7, 8, 9] rfl)
                    clear hR
                    refine lv_if_le (tgt := 221) hx hb dX5_divide_194 (by decide) (fun c_34 => ?_) (fun c_34 => ?_)
                    · have hw := hw.1 c_34
                      exact hJ221_31  hw _ _ _ hP hD hS (lv_sub hl [0, 1, 2, 3, 4, 5, 6, 7] rfl)
                    · have hw := hw.2 c_34
                      refine lv_aload_n hx hb dX5_divide_197 rfl (lv_at hl 4 rfl) ?_
                      refine k_get hx hb hts uX5_divide_X5 hown hK hP 0 5 rfl rfl 11 (by decide) fX5_divide_30 (.ref Btp) rfl dX5_divide_198 ?_
                      refine lv_iload hx hb dX5_divide_201 (lv_at hl 0 rfl) ?_
                      obtain ⟨hin, hw⟩ := hw
                      refine k_lald hx hb hK hP 4 rfl hin dX5_divide_203 ?_
                      refine lv_aload_n hx hb dX5_divide_204 rfl (lv_at hl 4 rfl) ?_
                      refine k_get hx hb hts uX5_divide_X5 hown hK hP 0 5 rfl rfl 12 (by decide) fX5_divide_33 (.ref Bbl) rfl dX5_divide_205 ?_
                      refine lv_iload hx hb dX5_divide_208 (lv_at hl 0 rfl) ?_
                      obtain ⟨hin, hw⟩ := hw
                      refine k_lald hx hb hK hP 5 rfl hin dX5_divide_210 ?_
                      refine k_lif_ne (tgt := 221) hx hb dX5_divide_211 dX5_divide_212 (by decide) (fun c_33 => ?_) (fun c_33 => ?_)
                      · have hw := hw.1 c_33
                        exact hJ221_31  hw _ _ _ hP hD hS (lv_sub hl [0, 1, 2, 3, 4, 5, 6, 7] rfl)
                      · have hw := hw.2 c_33
                        obtain ⟨i11_32, ei11_32⟩ : ∃ y : Int32, y = i11_29 + (-1) := ⟨_, rfl⟩
                        have hw := hw i11_32 ei11_32
                        refine lv_iinc (v := i11_32) (lv' := [(11, .int i11_32), (8, .int i8_12), (7, .int i7_7), (6, .int v_2), (0, .ref Ay), (1, .int p0), (2, .int p1), (3, .int p2)]) hx hb dX5_divide_215 hl (k := 0) rfl (by rw [ei11_32]; rfl) (by decide) rfl (fun ls hl => ?_)
                        refine lv_goto (tgt := 192) hx hb dX5_divide_218 (by decide) ?_
                        exact ihI192_30 _ (by rw [← hNI192_30]; exact hw.2) i11_32 rfl hw.1 _ _ _ hP hD hS (lv_sub hl [0, 1, 2, 3, 4, 5, 6, 7] rfl)
                · have hw := hw.2 c_59
                  refine lv_aload_n hx hb dX5_divide_146 rfl (lv_at hl 5 rfl) ?_
                  refine k_get hx hb hts uX5_divide_X5 hown hK hP 0 5 rfl rfl 11 (by decide) fX5_divide_30 (.ref Btp) rfl dX5_divide_147 ?_
                  refine lv_iload hx hb dX5_divide_150 (lv_at hl 0 rfl) ?_
                  obtain ⟨hin, hw⟩ := hw
                  refine k_lald hx hb hK hP 4 rfl hin dX5_divide_152 ?_
                  refine lv_iconst (v := 1) hx hb dX5_divide_153 (by decide) ?_
                  refine lv_lshl (v := (top_26 i11_24.toNatClampNeg) <<< ((1 : Int32).toInt64 &&& 63)) hx hb dX5_divide_154 rfl ?_
                  refine lv_topl (fun v_54 ev_54 => ?_)
                  have hw := hw v_54 ev_54
                  refine lv_lload hx hb dX5_divide_155 (lv_at hl 1 rfl) ?_
                  refine lv_lor hx hb dX5_divide_157 ?_
                  refine lv_topl (fun i12_55 ei12_55 => ?_)
                  have hw := hw i12_55 ei12_55
                  refine lv_lstore (lv' := [(12, .long i12_55), (11, .int i11_24), (9, .long i9_25), (8, .int i8_12), (7, .int i7_7), (6, .int v_2), (0, .ref Ay), (1, .int p0), (2, .int p1), (3, .int p2)]) hx hb dX5_divide_158 hl (by decide) rfl (fun ls hl => ?_)
                  refine lv_aload_n hx hb dX5_divide_160 rfl (lv_at hl 6 rfl) ?_
                  refine k_get hx hb hts uX5_divide_X5 hown hK hP 0 5 rfl rfl 11 (by decide) fX5_divide_30 (.ref Btp) rfl dX5_divide_161 ?_
                  refine lv_iload hx hb dX5_divide_164 (lv_at hl 1 rfl) ?_
                  refine lv_lload hx hb dX5_divide_166 (lv_at hl 0 rfl) ?_
                  refine lv_ldc2 (v := 2147483647) hx hb hown (hts _ fX5_divide_49) dX5_divide_168 ?_
                  refine lv_land hx hb dX5_divide_171 ?_
                  obtain ⟨hin, hw⟩ := hw
                  refine k_last hx hb hK hP hD hS 4 rfl hin (w' := fun g => (wX5 cI cJ Ay Bmr Bfg Bln Btp Bbl Btr Bwh mrow mrs ma mb mlo mhi man mtl mtm fig_13 len g bel_5 thr trm who)) (fun _ => rfl) dX5_divide_172 (fun top_56 etop_56 H locs hP hD hS => ?_)
                  have hw := hw top_56 etop_56
                  refine lv_lload hx hb dX5_divide_173 (lv_at hl 0 rfl) ?_
                  refine lv_bipush (v := 31) hx hb dX5_divide_175 (by decide) ?_
                  refine lv_lshr (v := i12_55 >>> ((31 : Int32).toInt64 &&& 63)) hx hb dX5_divide_177 rfl ?_
                  refine lv_topl (fun i9_57 ei9_57 => ?_)
                  have hw := hw i9_57 ei9_57
                  refine lv_lstore (lv' := [(9, .long i9_57), (12, .long i12_55), (11, .int i11_24), (8, .int i8_12), (7, .int i7_7), (6, .int v_2), (0, .ref Ay), (1, .int p0), (2, .int p1), (3, .int p2)]) hx hb dX5_divide_178 hl (by decide) rfl (fun ls hl => ?_)
                  obtain ⟨i11_58, ei11_58⟩ : ∃ y : Int32, y = i11_24 + 1 := ⟨_, rfl⟩
                  have hw := hw i11_58 ei11_58
                  refine lv_iinc (v := i11_58) (lv' := [(11, .int i11_58), (9, .long i9_57), (12, .long i12_55), (8, .int i8_12), (7, .int i7_7), (6, .int v_2), (0, .ref Ay), (1, .int p0), (2, .int p1), (3, .int p2)]) hx hb dX5_divide_180 hl (k := 2) rfl (by rw [ei11_58]; rfl) (by decide) rfl (fun ls hl => ?_)
                  refine lv_goto (tgt := 139) hx hb dX5_divide_183 (by decide) ?_
                  exact ihI139_27 _ (by rw [← hNI139_27]; exact hw.2) i11_58 i9_57 top_56 rfl hw.1 _ _ _ hP hD hS (lv_sub hl [0, 1, 3, 4, 5, 6, 7, 8, 9] rfl)
        · have hw := hw.2 c_64
          refine lv_aload_n hx hb dX5_divide_79 rfl (lv_at hl 4 rfl) ?_
          refine k_get hx hb hts uX5_divide_X5 hown hK hP 0 5 rfl rfl 9 (by decide) fX5_divide_23 (.ref Bfg) rfl dX5_divide_80 ?_
          refine lv_sipush (v := 256) hx hb dX5_divide_83 (by decide) ?_
          refine lv_iload_n hx hb dX5_divide_86 rfl (lv_at hl 5 rfl) ?_
          refine lv_imul hx hb dX5_divide_87 ?_
          refine lv_iload hx hb dX5_divide_88 (lv_at hl 0 rfl) ?_
          refine lv_iadd hx hb dX5_divide_90 ?_
          refine lv_topi (fun v_61 ev_61 => ?_)
          have hw := hw v_61 ev_61
          refine lv_lconst (v := 0) hx hb dX5_divide_91 (by decide) ?_
          obtain ⟨hin, hw⟩ := hw
          refine k_last hx hb hK hP hD hS 2 rfl hin (w' := fun g => (wX5 cI cJ Ay Bmr Bfg Bln Btp Bbl Btr Bwh mrow mrs ma mb mlo mhi man mtl mtm g len top_4 bel_5 thr trm who)) (fun _ => rfl) dX5_divide_92 (fun fig_62 efig_62 H locs hP hD hS => ?_)
          have hw := hw fig_62 efig_62
          obtain ⟨i8_63, ei8_63⟩ : ∃ y : Int32, y = i8_8 + 1 := ⟨_, rfl⟩
          have hw := hw i8_63 ei8_63
          refine lv_iinc (v := i8_63) (lv' := [(8, .int i8_63), (7, .int i7_7), (6, .int v_2), (5, .int v_1), (0, .ref Ay), (1, .int p0), (2, .int p1), (3, .int p2)]) hx hb dX5_divide_93 hl (k := 0) rfl (by rw [ei8_63]; rfl) (by decide) rfl (fun ls hl => ?_)
          refine lv_goto (tgt := 72) hx hb dX5_divide_96 (by decide) ?_
          exact ihI72_10 _ (by rw [← hNI72_10]; exact hw.2) i8_63 fig_62 rfl hw.1 _ _ _ hP hD hS (lv_sub hl [0, 1, 2, 3, 4, 5, 6, 7] rfl)
    · have hw := hw.2 c_69
      refine lv_aload_n hx hb dX5_divide_32 rfl (lv_at hl 3 rfl) ?_
      refine k_get hx hb hts uX5_divide_X5 hown hK hP 0 5 rfl rfl 11 (by decide) fX5_divide_30 (.ref Btp) rfl dX5_divide_33 ?_
      refine lv_iload hx hb dX5_divide_36 (lv_at hl 0 rfl) ?_
      refine lv_lconst (v := 0) hx hb dX5_divide_38 (by decide) ?_
      obtain ⟨hin, hw⟩ := hw
      refine k_last hx hb hK hP hD hS 4 rfl hin (w' := fun g => (wX5 cI cJ Ay Bmr Bfg Bln Btp Bbl Btr Bwh mrow mrs ma mb mlo mhi man mtl mtm fig len g bel_5 thr trm who)) (fun _ => rfl) dX5_divide_39 (fun top_65 etop_65 H locs hP hD hS => ?_)
      have hw := hw top_65 etop_65
      refine lv_aload_n hx hb dX5_divide_40 rfl (lv_at hl 3 rfl) ?_
      refine k_get hx hb hts uX5_divide_X5 hown hK hP 0 5 rfl rfl 12 (by decide) fX5_divide_33 (.ref Bbl) rfl dX5_divide_41 ?_
      refine lv_iload hx hb dX5_divide_44 (lv_at hl 0 rfl) ?_
      refine lv_aload_n hx hb dX5_divide_46 rfl (lv_at hl 3 rfl) ?_
      refine lv_iload hx hb dX5_divide_47 (lv_at hl 7 rfl) ?_
      refine lv_iload hx hb dX5_divide_49 (lv_at hl 0 rfl) ?_
      refine k_Vl (M_X5_figureOf l G cI cJ Ay Bmr Bfg Bln Btp Bbl Btr Bwh mrow mrs ma mb mlo mhi man mtl mtm fig len top_65 bel_5 thr trm who p3 i7_3 _ hw) ⟨hx, hb, hml, hown, hts⟩ (cwV 2 hts gX5_divide_X5_figureOf rfl rfl rfl (by decide +kernel) ⟨Nat.le_of_ble_eq_true rfl, Nat.le_of_ble_eq_true rfl⟩) hK hP hD hS hA [0, 1, 2, 3, 4, 5, 6, 7] [] [0, 1, 2, 3, 4, 5, 6, 7] (wr := []) (wn := fun u : Unit => (wX5 cI cJ Ay Bmr Bfg Bln Btp Bbl Btr Bwh mrow mrs ma mb mlo mhi man mtl mtm fig len top_65 bel_5 thr trm who)) rfl rfl (by decide) (by decide) (by decide) (by decide) (fun _ => rfl) (rest := [.int i7_3, .ref Bbl]) (q0 := 0) rfl rfl rfl hl.1 rfl (Nat.le_of_ble_eq_true rfl) (Nat.zero_le _) (Nat.zero_le _) dX5_divide_51 (fun r_66 u H locs hw hP hD hS => ?_)
      obtain ⟨hin, hw⟩ := hw
      refine k_last hx hb hK hP hD hS 5 rfl hin (w' := fun g => (wX5 cI cJ Ay Bmr Bfg Bln Btp Bbl Btr Bwh mrow mrs ma mb mlo mhi man mtl mtm fig len top_65 g thr trm who)) (fun _ => rfl) dX5_divide_54 (fun bel_67 ebel_67 H locs hP hD hS => ?_)
      have hw := hw bel_67 ebel_67
      obtain ⟨i7_68, ei7_68⟩ : ∃ y : Int32, y = i7_3 + 1 := ⟨_, rfl⟩
      have hw := hw i7_68 ei7_68
      refine lv_iinc (v := i7_68) (lv' := [(7, .int i7_68), (6, .int v_2), (5, .int v_1), (0, .ref Ay), (1, .int p0), (2, .int p1), (3, .int p2), (4, .int p3)]) hx hb dX5_divide_55 hl (k := 0) rfl (by rw [ei7_68]; rfl) (by decide) rfl (fun ls hl => ?_)
      refine lv_goto (tgt := 25) hx hb dX5_divide_58 (by decide) ?_
      exact ihI25_6 _ (by rw [← hNI25_6]; exact hw.2) i7_68 top_65 bel_67 rfl hw.1 _ _ _ hP hD hS (lv_sub hl [0, 1, 2, 3, 4, 5, 6, 7] rfl)
theorem fX5_halve_27 : Cond.fieldLink RX5 27 "PrivateCountsModel" "length" "[I" ∈ wsX5_halve := by decide +kernel
theorem uX5_halve_X5 : ∀ w ∈ u_ws RX5 TX5 16, w ∈ wsX5_halve := by decide +kernel
theorem fX5_halve_23 : Cond.fieldLink RX5 23 "PrivateCountsModel" "figure" "[J" ∈ wsX5_halve := by decide +kernel
set_option maxHeartbeats 4000000 in
set_option maxRecDepth 100000 in
theorem M_X5_halve (l : Launch) (G : va_G) (cI cJ : ClassId) (Ay Bmr Bfg Bln Btp Bbl Btr Bwh : Nat) (mrow : Nat → Int32) (mrs : Int32) (ma : Int32) (mb : Int32) (mlo : Int32) (mhi : Int32) (man : Int32) (mtl : Int32) (mtm : Int32) (fig : Nat → Int64) (len : Nat → Int32) (top : Nat → Int64) (bel : Nat → Int64) (thr : Int32) (trm : Nat → Int32) (who : Nat → Int32) (p0 : Int32) (Q : (Nat → Int64) → (Nat → Int32) → Prop) (hw : w_X5_halve fig len p0 Q) : Kv l yX5_halve wsX5_halve rm_X5_halve G cI cJ [.ref Ay, .int p0] (wX5 cI cJ Ay Bmr Bfg Bln Btp Bbl Btr Bwh mrow mrs ma mb mlo mhi man mtl mtm fig len top bel thr trm who) (fun (u : (Nat → Int64) × (Nat → Int32)) => Q u.1 u.2) (fun u => (wX5 cI cJ Ay Bmr Bfg Bln Btp Bbl Btr Bwh mrow mrs ma mb mlo mhi man mtl mtm u.1 u.2 top bel thr trm who)) := by
  refine kv_intro (cc := cX5_halve) (maxL := 7) rfl rfl (by decide) rfl (Nat.le_of_ble_eq_true rfl) ?_
  intro p e s m args below meth c A Z ls hx hb hml hts hown hP hK hD hS hA hl hret
  have hl : lv_has ls 7 [(0, .ref Ay), (1, .int p0)] := hl
  unfold w_X5_halve at hw
  refine lv_lconst (v := 0) hx hb dX5_halve_0 (by decide) ?_
  refine lv_lstore_n (lv' := [(2, .long 0), (0, .ref Ay), (1, .int p0)]) hx hb dX5_halve_1 rfl hl (by decide) rfl (fun ls hl => ?_)
  refine lv_aload_n hx hb dX5_halve_2 rfl (lv_at hl 1 rfl) ?_
  refine k_get hx hb hts uX5_halve_X5 hown hK hP 0 5 rfl rfl 10 (by decide) fX5_halve_27 (.ref Bln) rfl dX5_halve_3 ?_
  refine lv_iload_n hx hb dX5_halve_6 rfl (lv_at hl 2 rfl) ?_
  obtain ⟨hin, hw⟩ := hw
  refine k_iald hx hb hK hP 3 rfl hin dX5_halve_7 ?_
  refine lv_iconst (v := 1) hx hb dX5_halve_8 (by decide) ?_
  refine lv_isub hx hb dX5_halve_9 ?_
  refine lv_topi (fun v_1 ev_1 => ?_)
  have hw := hw v_1 ev_1
  refine lv_istore (lv' := [(4, .int v_1), (2, .long 0), (0, .ref Ay), (1, .int p0)]) hx hb dX5_halve_10 hl (by decide) rfl (fun ls hl => ?_)
  obtain ⟨I12_5, μ12_5, hi, hw⟩ := hw
  suffices hLI12_5 : ∀ (N : Nat) (i4_2 : Int32) (i2_3 : Int64) (fig_4 : Nat → Int64) (_ : μ12_5 i4_2 i2_3 fig_4 = N) (_ : I12_5 i4_2 i2_3 fig_4) (H : Heap) (locs : List Loc) (ls : Array Slot), va_P G vwCl (wX5 cI cJ Ay Bmr Bfg Bln Btp Bbl Btr Bwh mrow mrs ma mb mlo mhi man mtl mtm fig_4 len top bel thr trm who) H → va_D A (wX5 cI cJ Ay Bmr Bfg Bln Btp Bbl Btr Bwh mrow mrs ma mb mlo mhi man mtl mtm fig_4 len top bel thr trm who) → va_S A s.heap H locs → lv_has ls 7 [(4, .int i4_2), (2, .long i2_3), (0, .ref Ay), (1, .int p0)] → W p l e rm_X5_halve s m args below meth c H locs 0 0 Z (F0 m 12 ls []) from
    hLI12_5 _ v_1 (0 : Int64) fig rfl hi _ _ _ hP hD hS (lv_sub hl [0, 1, 2, 3] rfl)
  clear hi hP hD hS hl
  intro N
  induction N using Nat.strongRecOn with
  | ind N ihI12_5 =>
    intro i4_2 i2_3 fig_4 hNI12_5 hi H locs ls hP hD hS hl
    have hw := hw i4_2 i2_3 fig_4 hi
    refine lv_iload hx hb dX5_halve_12 (lv_at hl 0 rfl) ?_
    refine lv_if_lt (tgt := 65) hx hb dX5_halve_14 (by decide) (fun c_14 => ?_) (fun c_14 => ?_)
    · have hw := hw.1 c_14
      refine lv_aload_n hx hb dX5_halve_65 rfl (lv_at hl 2 rfl) ?_
      refine lv_iload_n hx hb dX5_halve_66 rfl (lv_at hl 3 rfl) ?_
      refine lv_aload_n hx hb dX5_halve_67 rfl (lv_at hl 2 rfl) ?_
      refine k_get hx hb hts uX5_halve_X5 hown hK hP 0 5 rfl rfl 10 (by decide) fX5_halve_27 (.ref Bln) rfl dX5_halve_68 ?_
      refine lv_iload_n hx hb dX5_halve_71 rfl (lv_at hl 3 rfl) ?_
      obtain ⟨hin, hw⟩ := hw
      refine k_iald hx hb hK hP 3 rfl hin dX5_halve_72 ?_
      refine k_Vv (M_X5_trim l G cI cJ Ay Bmr Bfg Bln Btp Bbl Btr Bwh mrow mrs ma mb mlo mhi man mtl mtm fig_4 len top bel thr trm who p0 (len p0.toNatClampNeg) _ hw) ⟨hx, hb, hml, hown, hts⟩ (cwV 2 hts gX5_halve_X5_trim rfl rfl rfl (by decide +kernel) ⟨Nat.le_of_ble_eq_true rfl, Nat.le_of_ble_eq_true rfl⟩) hK hP hD hS hA [0, 1, 2, 3, 4, 5, 6, 7] [] [0, 1, 2, 3, 4, 5, 6, 7] (wr := []) (wn := fun u : (Nat → Int32) => (wX5 cI cJ Ay Bmr Bfg Bln Btp Bbl Btr Bwh mrow mrs ma mb mlo mhi man mtl mtm fig_4 u top bel thr trm who)) rfl rfl (by decide) (by decide) (by decide) (by decide) (fun _ => rfl) (rest := []) (q0 := 0) rfl rfl rfl hl.1 rfl (Nat.le_of_ble_eq_true rfl) (Nat.zero_le _) (Nat.zero_le _) dX5_halve_73 (fun u H locs hw hP hD hS => ?_)
      obtain ⟨len_6, rfl⟩ : ∃ z, z = u := ⟨_, rfl⟩
      have hP : va_P G vwCl (wX5 cI cJ Ay Bmr Bfg Bln Btp Bbl Btr Bwh mrow mrs ma mb mlo mhi man mtl mtm fig_4 len_6 top bel thr trm who) H := hP
      have hD : va_D A (wX5 cI cJ Ay Bmr Bfg Bln Btp Bbl Btr Bwh mrow mrs ma mb mlo mhi man mtl mtm fig_4 len_6 top bel thr trm who) := hD
      exact hret (fig_4, len_6) _ _ _ _ hw hP hD hS dX5_halve_76
    · have hw := hw.2 c_14
      refine lv_aload_n hx hb dX5_halve_17 rfl (lv_at hl 2 rfl) ?_
      refine k_get hx hb hts uX5_halve_X5 hown hK hP 0 5 rfl rfl 9 (by decide) fX5_halve_23 (.ref Bfg) rfl dX5_halve_18 ?_
      refine lv_sipush (v := 256) hx hb dX5_halve_21 (by decide) ?_
      refine lv_iload_n hx hb dX5_halve_24 rfl (lv_at hl 3 rfl) ?_
      refine lv_imul hx hb dX5_halve_25 ?_
      refine lv_iload hx hb dX5_halve_26 (lv_at hl 0 rfl) ?_
      refine lv_iadd hx hb dX5_halve_28 ?_
      refine lv_topi (fun v_7 ev_7 => ?_)
      have hw := hw v_7 ev_7
      obtain ⟨hin, hw⟩ := hw
      refine k_lald hx hb hK hP 2 rfl hin dX5_halve_29 ?_
      refine lv_topl (fun i5_8 ei5_8 => ?_)
      have hw := hw i5_8 ei5_8
      refine lv_lstore (lv' := [(5, .long i5_8), (4, .int i4_2), (2, .long i2_3), (0, .ref Ay), (1, .int p0)]) hx hb dX5_halve_30 hl (by decide) rfl (fun ls hl => ?_)
      refine lv_aload_n hx hb dX5_halve_32 rfl (lv_at hl 3 rfl) ?_
      refine k_get hx hb hts uX5_halve_X5 hown hK hP 0 5 rfl rfl 9 (by decide) fX5_halve_23 (.ref Bfg) rfl dX5_halve_33 ?_
      refine lv_sipush (v := 256) hx hb dX5_halve_36 (by decide) ?_
      refine lv_iload_n hx hb dX5_halve_39 rfl (lv_at hl 4 rfl) ?_
      refine lv_imul hx hb dX5_halve_40 ?_
      refine lv_iload hx hb dX5_halve_41 (lv_at hl 1 rfl) ?_
      refine lv_iadd hx hb dX5_halve_43 ?_
      refine lv_topi (fun v_9 ev_9 => ?_)
      have hw := hw v_9 ev_9
      refine lv_lload hx hb dX5_halve_44 (lv_at hl 0 rfl) ?_
      refine lv_iconst (v := 1) hx hb dX5_halve_46 (by decide) ?_
      refine lv_lshr (v := i5_8 >>> ((1 : Int32).toInt64 &&& 63)) hx hb dX5_halve_47 rfl ?_
      refine lv_lload_n hx hb dX5_halve_48 rfl (lv_at hl 2 rfl) ?_
      refine lv_bipush (v := 30) hx hb dX5_halve_49 (by decide) ?_
      refine lv_lshl (v := i2_3 <<< ((30 : Int32).toInt64 &&& 63)) hx hb dX5_halve_51 rfl ?_
      refine lv_lor hx hb dX5_halve_52 ?_
      refine lv_topl (fun v_10 ev_10 => ?_)
      have hw := hw v_10 ev_10
      obtain ⟨hin, hw⟩ := hw
      refine k_last hx hb hK hP hD hS 2 rfl hin (w' := fun g => (wX5 cI cJ Ay Bmr Bfg Bln Btp Bbl Btr Bwh mrow mrs ma mb mlo mhi man mtl mtm g len top bel thr trm who)) (fun _ => rfl) dX5_halve_53 (fun fig_11 efig_11 H locs hP hD hS => ?_)
      have hw := hw fig_11 efig_11
      refine lv_lload hx hb dX5_halve_54 (lv_at hl 0 rfl) ?_
      refine lv_lconst (v := 1) hx hb dX5_halve_56 (by decide) ?_
      refine lv_land hx hb dX5_halve_57 ?_
      refine lv_topl (fun i2_12 ei2_12 => ?_)
      have hw := hw i2_12 ei2_12
      refine lv_lstore_n (lv' := [(2, .long i2_12), (5, .long i5_8), (4, .int i4_2), (0, .ref Ay), (1, .int p0)]) hx hb dX5_halve_58 rfl hl (by decide) rfl (fun ls hl => ?_)
      obtain ⟨i4_13, ei4_13⟩ : ∃ y : Int32, y = i4_2 + (-1) := ⟨_, rfl⟩
      have hw := hw i4_13 ei4_13
      refine lv_iinc (v := i4_13) (lv' := [(4, .int i4_13), (2, .long i2_12), (5, .long i5_8), (0, .ref Ay), (1, .int p0)]) hx hb dX5_halve_59 hl (k := 2) rfl (by rw [ei4_13]; rfl) (by decide) rfl (fun ls hl => ?_)
      refine lv_goto (tgt := 12) hx hb dX5_halve_62 (by decide) ?_
      exact ihI12_5 _ (by rw [← hNI12_5]; exact hw.2) i4_13 i2_12 fig_11 rfl hw.1 _ _ _ hP hD hS (lv_sub hl [0, 1, 3, 4] rfl)
theorem fX5_divisor_27 : Cond.fieldLink RX5 27 "PrivateCountsModel" "length" "[I" ∈ wsX5_divisor := by decide +kernel
theorem uX5_divisor_X5 : ∀ w ∈ u_ws RX5 TX5 16, w ∈ wsX5_divisor := by decide +kernel
theorem fX5_divisor_23 : Cond.fieldLink RX5 23 "PrivateCountsModel" "figure" "[J" ∈ wsX5_divisor := by decide +kernel
theorem fX5_divisor_65 : Cond.constantLong RX5 65 (2) ∈ wsX5_divisor := by decide +kernel
set_option maxHeartbeats 4000000 in
set_option maxRecDepth 100000 in
theorem M_X5_divisor (l : Launch) (G : va_G) (cI cJ : ClassId) (Ay Bmr Bfg Bln Btp Bbl Btr Bwh : Nat) (mrow : Nat → Int32) (mrs : Int32) (ma : Int32) (mb : Int32) (mlo : Int32) (mhi : Int32) (man : Int32) (mtl : Int32) (mtm : Int32) (fig : Nat → Int64) (len : Nat → Int32) (top : Nat → Int64) (bel : Nat → Int64) (thr : Int32) (trm : Nat → Int32) (who : Nat → Int32) (p0 : Int32) (p1 : Int32) (Q : (Nat → Int64) → (Nat → Int32) → (Nat → Int64) → Prop) (hw : w_X5_divisor fig len top p0 p1 Q) : Kv l yX5_divisor wsX5_divisor rm_X5_divisor G cI cJ [.ref Ay, .int p0, .int p1] (wX5 cI cJ Ay Bmr Bfg Bln Btp Bbl Btr Bwh mrow mrs ma mb mlo mhi man mtl mtm fig len top bel thr trm who) (fun (u : (Nat → Int64) × (Nat → Int32) × (Nat → Int64)) => Q u.1 u.2.1 u.2.2) (fun u => (wX5 cI cJ Ay Bmr Bfg Bln Btp Bbl Btr Bwh mrow mrs ma mb mlo mhi man mtl mtm u.1 u.2.1 u.2.2 bel thr trm who)) := by
  refine kv_intro (cc := cX5_divisor) (maxL := 5) rfl rfl (by decide) rfl (Nat.le_of_ble_eq_true rfl) ?_
  intro p e s m args below meth c A Z ls hx hb hml hts hown hP hK hD hS hA hl hret
  have hl : lv_has ls 5 [(0, .ref Ay), (1, .int p0), (2, .int p1)] := hl
  unfold w_X5_divisor at hw
  refine lv_aload_n hx hb dX5_divisor_0 rfl (lv_at hl 0 rfl) ?_
  refine lv_bipush (v := 10) hx hb dX5_divisor_1 (by decide) ?_
  refine lv_iload_n hx hb dX5_divisor_3 rfl (lv_at hl 1 rfl) ?_
  refine k_Vv (M_X5_copy l G cI cJ Ay Bmr Bfg Bln Btp Bbl Btr Bwh mrow mrs ma mb mlo mhi man mtl mtm fig len top bel thr trm who (10 : Int32) p0 _ hw) ⟨hx, hb, hml, hown, hts⟩ (cwV 2 hts gX5_divisor_X5_copy rfl rfl rfl (by decide +kernel) ⟨Nat.le_of_ble_eq_true rfl, Nat.le_of_ble_eq_true rfl⟩) hK hP hD hS hA [0, 1, 2, 3, 4, 5, 6, 7] [] [0, 1, 2, 3, 4, 5, 6, 7] (wr := []) (wn := fun u : (Nat → Int64) × (Nat → Int32) => (wX5 cI cJ Ay Bmr Bfg Bln Btp Bbl Btr Bwh mrow mrs ma mb mlo mhi man mtl mtm u.1 u.2 top bel thr trm who)) rfl rfl (by decide) (by decide) (by decide) (by decide) (fun _ => rfl) (rest := []) (q0 := 0) rfl rfl rfl hl.1 rfl (Nat.le_of_ble_eq_true rfl) (Nat.zero_le _) (Nat.zero_le _) dX5_divisor_4 (fun u H locs hw hP hD hS => ?_)
  obtain ⟨fig_1, len_2⟩ := u
  have hP : va_P G vwCl (wX5 cI cJ Ay Bmr Bfg Bln Btp Bbl Btr Bwh mrow mrs ma mb mlo mhi man mtl mtm fig_1 len_2 top bel thr trm who) H := hP
  have hD : va_D A (wX5 cI cJ Ay Bmr Bfg Bln Btp Bbl Btr Bwh mrow mrs ma mb mlo mhi man mtl mtm fig_1 len_2 top bel thr trm who) := hD
  refine lv_aload_n hx hb dX5_divisor_7 rfl (lv_at hl 0 rfl) ?_
  refine lv_bipush (v := 11) hx hb dX5_divisor_8 (by decide) ?_
  refine lv_iload_n hx hb dX5_divisor_10 rfl (lv_at hl 2 rfl) ?_
  refine k_Vv (M_X5_copy l G cI cJ Ay Bmr Bfg Bln Btp Bbl Btr Bwh mrow mrs ma mb mlo mhi man mtl mtm fig_1 len_2 top bel thr trm who (11 : Int32) p1 _ hw) ⟨hx, hb, hml, hown, hts⟩ (cwV 2 hts gX5_divisor_X5_copy rfl rfl rfl (by decide +kernel) ⟨Nat.le_of_ble_eq_true rfl, Nat.le_of_ble_eq_true rfl⟩) hK hP hD hS hA [0, 1, 2, 3, 4, 5, 6, 7] [] [0, 1, 2, 3, 4, 5, 6, 7] (wr := []) (wn := fun u : (Nat → Int64) × (Nat → Int32) => (wX5 cI cJ Ay Bmr Bfg Bln Btp Bbl Btr Bwh mrow mrs ma mb mlo mhi man mtl mtm u.1 u.2 top bel thr trm who)) rfl rfl (by decide) (by decide) (by decide) (by decide) (fun _ => rfl) (rest := []) (q0 := 0) rfl rfl rfl hl.1 rfl (Nat.le_of_ble_eq_true rfl) (Nat.zero_le _) (Nat.zero_le _) dX5_divisor_11 (fun u H locs hw hP hD hS => ?_)
  obtain ⟨fig_3, len_4⟩ := u
  have hP : va_P G vwCl (wX5 cI cJ Ay Bmr Bfg Bln Btp Bbl Btr Bwh mrow mrs ma mb mlo mhi man mtl mtm fig_3 len_4 top bel thr trm who) H := hP
  have hD : va_D A (wX5 cI cJ Ay Bmr Bfg Bln Btp Bbl Btr Bwh mrow mrs ma mb mlo mhi man mtl mtm fig_3 len_4 top bel thr trm who) := hD
  refine lv_iconst (v := 0) hx hb dX5_divisor_14 (by decide) ?_
  refine lv_istore_n (lv' := [(3, .int 0), (0, .ref Ay), (1, .int p0), (2, .int p1)]) hx hb dX5_divisor_15 rfl hl (by decide) rfl (fun ls hl => ?_)
  refine lv_aload_n hx hb dX5_divisor_16 rfl (lv_at hl 1 rfl) ?_
  refine k_get hx hb hts uX5_divisor_X5 hown hK hP 0 5 rfl rfl 10 (by decide) fX5_divisor_27 (.ref Bln) rfl dX5_divisor_17 ?_
  refine lv_bipush (v := 10) hx hb dX5_divisor_20 (by decide) ?_
  obtain ⟨hin, hw⟩ := hw
  refine k_iald hx hb hK hP 3 rfl hin dX5_divisor_22 ?_
  refine lv_if_eq (tgt := 36) hx hb dX5_divisor_23 (by decide) (fun c_115 => ?_) (fun c_115 => ?_)
  · have hw := hw.1 c_115
    refine lv_aload_n hx hb dX5_divisor_36 rfl (lv_at hl 1 rfl) ?_
    refine lv_bipush (v := 10) hx hb dX5_divisor_37 (by decide) ?_
    refine lv_aload_n hx hb dX5_divisor_39 rfl (lv_at hl 1 rfl) ?_
    refine k_get hx hb hts uX5_divisor_X5 hown hK hP 0 5 rfl rfl 10 (by decide) fX5_divisor_27 (.ref Bln) rfl dX5_divisor_40 ?_
    refine lv_iload_n hx hb dX5_divisor_43 rfl (lv_at hl 2 rfl) ?_
    obtain ⟨hin, hw⟩ := hw
    refine k_iald hx hb hK hP 3 rfl hin dX5_divisor_44 ?_
    refine lv_if_ne (tgt := 52) hx hb dX5_divisor_45 (by decide) (fun c_9 => ?_) (fun c_9 => ?_)
    · have hw := hw.1 c_9
      refine lv_iload_n hx hb dX5_divisor_52 rfl (lv_at hl 2 rfl) ?_
      refine k_Vv (M_X5_copy l G cI cJ Ay Bmr Bfg Bln Btp Bbl Btr Bwh mrow mrs ma mb mlo mhi man mtl mtm fig_3 len_4 top bel thr trm who (10 : Int32) p0 _ hw) ⟨hx, hb, hml, hown, hts⟩ (cwV 2 hts gX5_divisor_X5_copy rfl rfl rfl (by decide +kernel) ⟨Nat.le_of_ble_eq_true rfl, Nat.le_of_ble_eq_true rfl⟩) hK hP hD hS hA [0, 1, 2, 3, 4, 5, 6, 7] [] [0, 1, 2, 3, 4, 5, 6, 7] (wr := []) (wn := fun u : (Nat → Int64) × (Nat → Int32) => (wX5 cI cJ Ay Bmr Bfg Bln Btp Bbl Btr Bwh mrow mrs ma mb mlo mhi man mtl mtm u.1 u.2 top bel thr trm who)) rfl rfl (by decide) (by decide) (by decide) (by decide) (fun _ => rfl) (rest := []) (q0 := 0) rfl rfl rfl hl.1 rfl (Nat.le_of_ble_eq_true rfl) (Nat.zero_le _) (Nat.zero_le _) dX5_divisor_53 (fun u H locs hw hP hD hS => ?_)
      obtain ⟨fig_5, len_6⟩ := u
      have hP : va_P G vwCl (wX5 cI cJ Ay Bmr Bfg Bln Btp Bbl Btr Bwh mrow mrs ma mb mlo mhi man mtl mtm fig_5 len_6 top bel thr trm who) H := hP
      have hD : va_D A (wX5 cI cJ Ay Bmr Bfg Bln Btp Bbl Btr Bwh mrow mrs ma mb mlo mhi man mtl mtm fig_5 len_6 top bel thr trm who) := hD
      exact hret (fig_5, len_6, top) _ _ _ _ hw hP hD hS dX5_divisor_56
    · have hw := hw.2 c_9
      refine lv_iload_n hx hb dX5_divisor_48 rfl (lv_at hl 3 rfl) ?_
      refine lv_goto (tgt := 53) hx hb dX5_divisor_49 (by decide) ?_
      refine k_Vv (M_X5_copy l G cI cJ Ay Bmr Bfg Bln Btp Bbl Btr Bwh mrow mrs ma mb mlo mhi man mtl mtm fig_3 len_4 top bel thr trm who (10 : Int32) p1 _ hw) ⟨hx, hb, hml, hown, hts⟩ (cwV 2 hts gX5_divisor_X5_copy rfl rfl rfl (by decide +kernel) ⟨Nat.le_of_ble_eq_true rfl, Nat.le_of_ble_eq_true rfl⟩) hK hP hD hS hA [0, 1, 2, 3, 4, 5, 6, 7] [] [0, 1, 2, 3, 4, 5, 6, 7] (wr := []) (wn := fun u : (Nat → Int64) × (Nat → Int32) => (wX5 cI cJ Ay Bmr Bfg Bln Btp Bbl Btr Bwh mrow mrs ma mb mlo mhi man mtl mtm u.1 u.2 top bel thr trm who)) rfl rfl (by decide) (by decide) (by decide) (by decide) (fun _ => rfl) (rest := []) (q0 := 0) rfl rfl rfl hl.1 rfl (Nat.le_of_ble_eq_true rfl) (Nat.zero_le _) (Nat.zero_le _) dX5_divisor_53 (fun u H locs hw hP hD hS => ?_)
      obtain ⟨fig_7, len_8⟩ := u
      have hP : va_P G vwCl (wX5 cI cJ Ay Bmr Bfg Bln Btp Bbl Btr Bwh mrow mrs ma mb mlo mhi man mtl mtm fig_7 len_8 top bel thr trm who) H := hP
      have hD : va_D A (wX5 cI cJ Ay Bmr Bfg Bln Btp Bbl Btr Bwh mrow mrs ma mb mlo mhi man mtl mtm fig_7 len_8 top bel thr trm who) := hD
      exact hret (fig_7, len_8, top) _ _ _ _ hw hP hD hS dX5_divisor_56
  · have hw := hw.2 c_115
    refine lv_aload_n hx hb dX5_divisor_26 rfl (lv_at hl 1 rfl) ?_
    refine k_get hx hb hts uX5_divisor_X5 hown hK hP 0 5 rfl rfl 10 (by decide) fX5_divisor_27 (.ref Bln) rfl dX5_divisor_27 ?_
    refine lv_bipush (v := 11) hx hb dX5_divisor_30 (by decide) ?_
    obtain ⟨hin, hw⟩ := hw
    refine k_iald hx hb hK hP 3 rfl hin dX5_divisor_32 ?_
    refine lv_if_ne (tgt := 57) hx hb dX5_divisor_33 (by decide) (fun c_114 => ?_) (fun c_114 => ?_)
    · have hw := hw.1 c_114
      obtain ⟨I57_13, μ57_13, hi, hw⟩ := hw
      suffices hLI57_13 : ∀ (N : Nat) (i3_10 : Int32) (fig_11 : Nat → Int64) (len_12 : Nat → Int32) (_ : μ57_13 i3_10 fig_11 len_12 = N) (_ : I57_13 i3_10 fig_11 len_12) (H : Heap) (locs : List Loc) (ls : Array Slot), va_P G vwCl (wX5 cI cJ Ay Bmr Bfg Bln Btp Bbl Btr Bwh mrow mrs ma mb mlo mhi man mtl mtm fig_11 len_12 top bel thr trm who) H → va_D A (wX5 cI cJ Ay Bmr Bfg Bln Btp Bbl Btr Bwh mrow mrs ma mb mlo mhi man mtl mtm fig_11 len_12 top bel thr trm who) → va_S A s.heap H locs → lv_has ls 5 [(3, .int i3_10), (0, .ref Ay)] → W p l e rm_X5_divisor s m args below meth c H locs 0 0 Z (F0 m 57 ls []) from
        hLI57_13 _ (0 : Int32) fig_3 len_4 rfl hi _ _ _ hP hD hS (lv_sub hl [0, 1] rfl)
      clear hi hP hD hS hl
      intro N
      induction N using Nat.strongRecOn with
      | ind N ihI57_13 =>
        intro i3_10 fig_11 len_12 hNI57_13 hi H locs ls hP hD hS hl
        have hw := hw i3_10 fig_11 len_12 hi
        refine lv_aload_n hx hb dX5_divisor_57 rfl (lv_at hl 1 rfl) ?_
        refine k_get hx hb hts uX5_divisor_X5 hown hK hP 0 5 rfl rfl 9 (by decide) fX5_divisor_23 (.ref Bfg) rfl dX5_divisor_58 ?_
        refine lv_sipush (v := 2560) hx hb dX5_divisor_61 (by decide) ?_
        obtain ⟨hin, hw⟩ := hw
        refine k_lald hx hb hK hP 2 rfl hin dX5_divisor_64 ?_
        refine lv_ldc2 (v := 2) hx hb hown (hts _ fX5_divisor_65) dX5_divisor_65 ?_
        refine lv_lrem hx hb dX5_divisor_68 (by decide) ?_
        refine lv_topl (fun v_14 ev_14 => ?_)
        have hw := hw v_14 ev_14
        refine lv_lconst (v := 0) hx hb dX5_divisor_69 (by decide) ?_
        refine k_lif_ne (tgt := 109) hx hb dX5_divisor_70 dX5_divisor_71 (by decide) (fun c_108 => ?_) (fun c_108 => ?_)
        · have hw := hw.1 c_108
          obtain ⟨I109_18, μ109_18, hi, hw⟩ := hw
          suffices hLI109_18 : ∀ (N : Nat) (fig_15 : Nat → Int64) (len_16 : Nat → Int32) (top_17 : Nat → Int64) (_ : μ109_18 fig_15 len_16 top_17 = N) (_ : I109_18 fig_15 len_16 top_17) (H : Heap) (locs : List Loc) (ls : Array Slot), va_P G vwCl (wX5 cI cJ Ay Bmr Bfg Bln Btp Bbl Btr Bwh mrow mrs ma mb mlo mhi man mtl mtm fig_15 len_16 top_17 bel thr trm who) H → va_D A (wX5 cI cJ Ay Bmr Bfg Bln Btp Bbl Btr Bwh mrow mrs ma mb mlo mhi man mtl mtm fig_15 len_16 top_17 bel thr trm who) → va_S A s.heap H locs → lv_has ls 5 [(3, .int i3_10), (0, .ref Ay)] → W p l e rm_X5_divisor s m args below meth c H locs 0 0 Z (F0 m 109 ls []) from
            hLI109_18 _ fig_11 len_12 top rfl hi _ _ _ hP hD hS (lv_sub hl [0, 1] rfl)
          clear hi hP hD hS hl
          intro N
          induction N using Nat.strongRecOn with
          | ind N ihI109_18 =>
            intro fig_15 len_16 top_17 hNI109_18 hi H locs ls hP hD hS hl
            have hw := hw fig_15 len_16 top_17 hi
            refine lv_aload_n hx hb dX5_divisor_109 rfl (lv_at hl 1 rfl) ?_
            refine k_get hx hb hts uX5_divisor_X5 hown hK hP 0 5 rfl rfl 10 (by decide) fX5_divisor_27 (.ref Bln) rfl dX5_divisor_110 ?_
            refine lv_bipush (v := 11) hx hb dX5_divisor_113 (by decide) ?_
            obtain ⟨hin, hw⟩ := hw
            refine k_iald hx hb hK hP 3 rfl hin dX5_divisor_115 ?_
            refine lv_if_le (tgt := 219) hx hb dX5_divisor_116 (by decide) (fun c_57 => ?_) (fun c_57 => ?_)
            · have hw := hw.1 c_57
              refine lv_iconst (v := 0) hx hb dX5_divisor_219 (by decide) ?_
              refine lv_istore (lv' := [(4, .int 0), (3, .int i3_10), (0, .ref Ay)]) hx hb dX5_divisor_220 hl (by decide) rfl (fun ls hl => ?_)
              obtain ⟨I222_23, μ222_23, hi, hw⟩ := hw
              suffices hLI222_23 : ∀ (N : Nat) (i4_19 : Int32) (fig_20 : Nat → Int64) (len_21 : Nat → Int32) (top_22 : Nat → Int64) (_ : μ222_23 i4_19 fig_20 len_21 top_22 = N) (_ : I222_23 i4_19 fig_20 len_21 top_22) (H : Heap) (locs : List Loc) (ls : Array Slot), va_P G vwCl (wX5 cI cJ Ay Bmr Bfg Bln Btp Bbl Btr Bwh mrow mrs ma mb mlo mhi man mtl mtm fig_20 len_21 top_22 bel thr trm who) H → va_D A (wX5 cI cJ Ay Bmr Bfg Bln Btp Bbl Btr Bwh mrow mrs ma mb mlo mhi man mtl mtm fig_20 len_21 top_22 bel thr trm who) → va_S A s.heap H locs → lv_has ls 5 [(4, .int i4_19), (3, .int i3_10), (0, .ref Ay)] → W p l e rm_X5_divisor s m args below meth c H locs 0 0 Z (F0 m 222 ls []) from
                hLI222_23 _ (0 : Int32) fig_15 len_16 top_17 rfl hi _ _ _ hP hD hS (lv_sub hl [0, 1, 2] rfl)
              clear hi hP hD hS hl
              intro N
              induction N using Nat.strongRecOn with
              | ind N ihI222_23 =>
                intro i4_19 fig_20 len_21 top_22 hNI222_23 hi H locs ls hP hD hS hl
                have hw := hw i4_19 fig_20 len_21 top_22 hi
                refine lv_iload hx hb dX5_divisor_222 (lv_at hl 0 rfl) ?_
                refine lv_iload_n hx hb dX5_divisor_224 rfl (lv_at hl 1 rfl) ?_
                refine lv_icmp_ge (tgt := 244) hx hb dX5_divisor_225 (by decide) (fun c_28 => ?_) (fun c_28 => ?_)
                · have hw := hw.1 c_28
                  exact hret (fig_20, len_21, top_22) _ _ _ _ hw hP hD hS dX5_divisor_244
                · have hw := hw.2 c_28
                  refine lv_aload_n hx hb dX5_divisor_228 rfl (lv_at hl 2 rfl) ?_
                  refine lv_bipush (v := 10) hx hb dX5_divisor_229 (by decide) ?_
                  refine lv_bipush (v := 10) hx hb dX5_divisor_231 (by decide) ?_
                  refine lv_bipush (v := 10) hx hb dX5_divisor_233 (by decide) ?_
                  refine k_Vv (M_X5_plus l G cI cJ Ay Bmr Bfg Bln Btp Bbl Btr Bwh mrow mrs ma mb mlo mhi man mtl mtm fig_20 len_21 top_22 bel thr trm who (10 : Int32) (10 : Int32) (10 : Int32) _ hw) ⟨hx, hb, hml, hown, hts⟩ (cwV 3 hts gX5_divisor_X5_plus rfl rfl rfl (by decide +kernel) ⟨Nat.le_of_ble_eq_true rfl, Nat.le_of_ble_eq_true rfl⟩) hK hP hD hS hA [0, 1, 2, 3, 4, 5, 6, 7] [] [0, 1, 2, 3, 4, 5, 6, 7] (wr := []) (wn := fun u : (Nat → Int64) × (Nat → Int32) × (Nat → Int64) => (wX5 cI cJ Ay Bmr Bfg Bln Btp Bbl Btr Bwh mrow mrs ma mb mlo mhi man mtl mtm u.1 u.2.1 u.2.2 bel thr trm who)) rfl rfl (by decide) (by decide) (by decide) (by decide) (fun _ => rfl) (rest := []) (q0 := 0) rfl rfl rfl hl.1 rfl (Nat.le_of_ble_eq_true rfl) (Nat.zero_le _) (Nat.zero_le _) dX5_divisor_235 (fun u H locs hw hP hD hS => ?_)
                  obtain ⟨fig_24, len_25, top_26⟩ := u
                  have hP : va_P G vwCl (wX5 cI cJ Ay Bmr Bfg Bln Btp Bbl Btr Bwh mrow mrs ma mb mlo mhi man mtl mtm fig_24 len_25 top_26 bel thr trm who) H := hP
                  have hD : va_D A (wX5 cI cJ Ay Bmr Bfg Bln Btp Bbl Btr Bwh mrow mrs ma mb mlo mhi man mtl mtm fig_24 len_25 top_26 bel thr trm who) := hD
                  obtain ⟨i4_27, ei4_27⟩ : ∃ y : Int32, y = i4_19 + 1 := ⟨_, rfl⟩
                  have hw := hw i4_27 ei4_27
                  refine lv_iinc (v := i4_27) (lv' := [(4, .int i4_27), (3, .int i3_10), (0, .ref Ay)]) hx hb dX5_divisor_238 hl (k := 0) rfl (by rw [ei4_27]; rfl) (by decide) rfl (fun ls hl => ?_)
                  refine lv_goto (tgt := 222) hx hb dX5_divisor_241 (by decide) ?_
                  exact ihI222_23 _ (by rw [← hNI222_23]; exact hw.2) i4_27 fig_24 len_25 top_26 rfl hw.1 _ _ _ hP hD hS (lv_sub hl [0, 1, 2] rfl)
            · have hw := hw.2 c_57
              obtain ⟨I119_31, μ119_31, hi, hw⟩ := hw
              suffices hLI119_31 : ∀ (N : Nat) (fig_29 : Nat → Int64) (len_30 : Nat → Int32) (_ : μ119_31 fig_29 len_30 = N) (_ : I119_31 fig_29 len_30) (H : Heap) (locs : List Loc) (ls : Array Slot), va_P G vwCl (wX5 cI cJ Ay Bmr Bfg Bln Btp Bbl Btr Bwh mrow mrs ma mb mlo mhi man mtl mtm fig_29 len_30 top_17 bel thr trm who) H → va_D A (wX5 cI cJ Ay Bmr Bfg Bln Btp Bbl Btr Bwh mrow mrs ma mb mlo mhi man mtl mtm fig_29 len_30 top_17 bel thr trm who) → va_S A s.heap H locs → lv_has ls 5 [(3, .int i3_10), (0, .ref Ay)] → W p l e rm_X5_divisor s m args below meth c H locs 0 0 Z (F0 m 119 ls []) from
                hLI119_31 _ fig_15 len_16 rfl hi _ _ _ hP hD hS (lv_sub hl [0, 1] rfl)
              clear hi hP hD hS hl
              intro N
              induction N using Nat.strongRecOn with
              | ind N ihI119_31 =>
                intro fig_29 len_30 hNI119_31 hi H locs ls hP hD hS hl
                have hw := hw fig_29 len_30 hi
                refine lv_aload_n hx hb dX5_divisor_119 rfl (lv_at hl 1 rfl) ?_
                refine k_get hx hb hts uX5_divisor_X5 hown hK hP 0 5 rfl rfl 9 (by decide) fX5_divisor_23 (.ref Bfg) rfl dX5_divisor_120 ?_
                refine lv_sipush (v := 2560) hx hb dX5_divisor_123 (by decide) ?_
                obtain ⟨hin, hw⟩ := hw
                refine k_lald hx hb hK hP 2 rfl hin dX5_divisor_126 ?_
                refine lv_ldc2 (v := 2) hx hb hown (hts _ fX5_divisor_65) dX5_divisor_127 ?_
                refine lv_lrem hx hb dX5_divisor_130 (by decide) ?_
                refine lv_topl (fun v_32 ev_32 => ?_)
                have hw := hw v_32 ev_32
                refine lv_lconst (v := 0) hx hb dX5_divisor_131 (by decide) ?_
                refine k_lif_ne (tgt := 145) hx hb dX5_divisor_132 dX5_divisor_133 (by decide) (fun c_56 => ?_) (fun c_56 => ?_)
                · have hw := hw.1 c_56
                  obtain ⟨I145_35, μ145_35, hi, hw⟩ := hw
                  suffices hLI145_35 : ∀ (N : Nat) (fig_33 : Nat → Int64) (len_34 : Nat → Int32) (_ : μ145_35 fig_33 len_34 = N) (_ : I145_35 fig_33 len_34) (H : Heap) (locs : List Loc) (ls : Array Slot), va_P G vwCl (wX5 cI cJ Ay Bmr Bfg Bln Btp Bbl Btr Bwh mrow mrs ma mb mlo mhi man mtl mtm fig_33 len_34 top_17 bel thr trm who) H → va_D A (wX5 cI cJ Ay Bmr Bfg Bln Btp Bbl Btr Bwh mrow mrs ma mb mlo mhi man mtl mtm fig_33 len_34 top_17 bel thr trm who) → va_S A s.heap H locs → lv_has ls 5 [(3, .int i3_10), (0, .ref Ay)] → W p l e rm_X5_divisor s m args below meth c H locs 0 0 Z (F0 m 145 ls []) from
                    hLI145_35 _ fig_29 len_30 rfl hi _ _ _ hP hD hS (lv_sub hl [0, 1] rfl)
                  clear hi hP hD hS hl
                  intro N
                  induction N using Nat.strongRecOn with
                  | ind N ihI145_35 =>
                    intro fig_33 len_34 hNI145_35 hi H locs ls hP hD hS hl
                    have hw := hw fig_33 len_34 hi
                    refine lv_aload_n hx hb dX5_divisor_145 rfl (lv_at hl 1 rfl) ?_
                    refine k_get hx hb hts uX5_divisor_X5 hown hK hP 0 5 rfl rfl 9 (by decide) fX5_divisor_23 (.ref Bfg) rfl dX5_divisor_146 ?_
                    refine lv_sipush (v := 2816) hx hb dX5_divisor_149 (by decide) ?_
                    obtain ⟨hin, hw⟩ := hw
                    refine k_lald hx hb hK hP 2 rfl hin dX5_divisor_152 ?_
                    refine lv_ldc2 (v := 2) hx hb hown (hts _ fX5_divisor_65) dX5_divisor_153 ?_
                    refine lv_lrem hx hb dX5_divisor_156 (by decide) ?_
                    refine lv_topl (fun v_36 ev_36 => ?_)
                    have hw := hw v_36 ev_36
                    refine lv_lconst (v := 0) hx hb dX5_divisor_157 (by decide) ?_
                    refine k_lif_ne (tgt := 171) hx hb dX5_divisor_158 dX5_divisor_159 (by decide) (fun c_53 => ?_) (fun c_53 => ?_)
                    · have hw := hw.1 c_53
                      refine lv_aload_n hx hb dX5_divisor_171 rfl (lv_at hl 1 rfl) ?_
                      refine lv_bipush (v := 10) hx hb dX5_divisor_172 (by decide) ?_
                      refine lv_bipush (v := 11) hx hb dX5_divisor_174 (by decide) ?_
                      refine k_Vi (M_X5_compare l G cI cJ Ay Bmr Bfg Bln Btp Bbl Btr Bwh mrow mrs ma mb mlo mhi man mtl mtm fig_33 len_34 top_17 bel thr trm who (10 : Int32) (11 : Int32) _ hw) ⟨hx, hb, hml, hown, hts⟩ (cwV 2 hts gX5_divisor_X5_compare rfl rfl rfl (by decide +kernel) ⟨Nat.le_of_ble_eq_true rfl, Nat.le_of_ble_eq_true rfl⟩) hK hP hD hS hA [0, 1, 2, 3, 4, 5, 6, 7] [] [0, 1, 2, 3, 4, 5, 6, 7] (wr := []) (wn := fun u : Unit => (wX5 cI cJ Ay Bmr Bfg Bln Btp Bbl Btr Bwh mrow mrs ma mb mlo mhi man mtl mtm fig_33 len_34 top_17 bel thr trm who)) rfl rfl (by decide) (by decide) (by decide) (by decide) (fun _ => rfl) (rest := []) (q0 := 0) rfl rfl rfl hl.1 rfl (Nat.le_of_ble_eq_true rfl) (Nat.zero_le _) (Nat.zero_le _) dX5_divisor_176 (fun r_37 u H locs hw hP hD hS => ?_)
                      refine lv_if_le (tgt := 206) hx hb dX5_divisor_179 (by decide) (fun c_50 => ?_) (fun c_50 => ?_)
                      · have hw := hw.1 c_50
                        refine lv_aload_n hx hb dX5_divisor_206 rfl (lv_at hl 1 rfl) ?_
                        refine lv_bipush (v := 11) hx hb dX5_divisor_207 (by decide) ?_
                        refine lv_bipush (v := 11) hx hb dX5_divisor_209 (by decide) ?_
                        refine lv_bipush (v := 10) hx hb dX5_divisor_211 (by decide) ?_
                        refine k_Vv (M_X5_minus l G cI cJ Ay Bmr Bfg Bln Btp Bbl Btr Bwh mrow mrs ma mb mlo mhi man mtl mtm fig_33 len_34 top_17 bel thr trm who (11 : Int32) (11 : Int32) (10 : Int32) _ hw) ⟨hx, hb, hml, hown, hts⟩ (cwV 3 hts gX5_divisor_X5_minus rfl rfl rfl (by decide +kernel) ⟨Nat.le_of_ble_eq_true rfl, Nat.le_of_ble_eq_true rfl⟩) hK hP hD hS hA [0, 1, 2, 3, 4, 5, 6, 7] [] [0, 1, 2, 3, 4, 5, 6, 7] (wr := []) (wn := fun u : (Nat → Int64) × (Nat → Int32) × (Nat → Int64) => (wX5 cI cJ Ay Bmr Bfg Bln Btp Bbl Btr Bwh mrow mrs ma mb mlo mhi man mtl mtm u.1 u.2.1 u.2.2 bel thr trm who)) rfl rfl (by decide) (by decide) (by decide) (by decide) (fun _ => rfl) (rest := []) (q0 := 0) rfl rfl rfl hl.1 rfl (Nat.le_of_ble_eq_true rfl) (Nat.zero_le _) (Nat.zero_le _) dX5_divisor_213 (fun u H locs hw hP hD hS => ?_)
                        obtain ⟨fig_38, len_39, top_40⟩ := u
                        have hP : va_P G vwCl (wX5 cI cJ Ay Bmr Bfg Bln Btp Bbl Btr Bwh mrow mrs ma mb mlo mhi man mtl mtm fig_38 len_39 top_40 bel thr trm who) H := hP
                        have hD : va_D A (wX5 cI cJ Ay Bmr Bfg Bln Btp Bbl Btr Bwh mrow mrs ma mb mlo mhi man mtl mtm fig_38 len_39 top_40 bel thr trm who) := hD
                        refine lv_goto (tgt := 109) hx hb dX5_divisor_216 (by decide) ?_
                        exact ihI109_18 _ (by rw [← hNI109_18]; exact hw.2) fig_38 len_39 top_40 rfl hw.1 _ _ _ hP hD hS (lv_sub hl [0, 1] rfl)
                      · have hw := hw.2 c_50
                        refine lv_aload_n hx hb dX5_divisor_182 rfl (lv_at hl 1 rfl) ?_
                        refine lv_bipush (v := 13) hx hb dX5_divisor_183 (by decide) ?_
                        refine lv_bipush (v := 10) hx hb dX5_divisor_185 (by decide) ?_
                        refine k_Vv (M_X5_copy l G cI cJ Ay Bmr Bfg Bln Btp Bbl Btr Bwh mrow mrs ma mb mlo mhi man mtl mtm fig_33 len_34 top_17 bel thr trm who (13 : Int32) (10 : Int32) _ hw) ⟨hx, hb, hml, hown, hts⟩ (cwV 2 hts gX5_divisor_X5_copy rfl rfl rfl (by decide +kernel) ⟨Nat.le_of_ble_eq_true rfl, Nat.le_of_ble_eq_true rfl⟩) hK hP hD hS hA [0, 1, 2, 3, 4, 5, 6, 7] [] [0, 1, 2, 3, 4, 5, 6, 7] (wr := []) (wn := fun u : (Nat → Int64) × (Nat → Int32) => (wX5 cI cJ Ay Bmr Bfg Bln Btp Bbl Btr Bwh mrow mrs ma mb mlo mhi man mtl mtm u.1 u.2 top_17 bel thr trm who)) rfl rfl (by decide) (by decide) (by decide) (by decide) (fun _ => rfl) (rest := []) (q0 := 0) rfl rfl rfl hl.1 rfl (Nat.le_of_ble_eq_true rfl) (Nat.zero_le _) (Nat.zero_le _) dX5_divisor_187 (fun u H locs hw hP hD hS => ?_)
                        obtain ⟨fig_41, len_42⟩ := u
                        have hP : va_P G vwCl (wX5 cI cJ Ay Bmr Bfg Bln Btp Bbl Btr Bwh mrow mrs ma mb mlo mhi man mtl mtm fig_41 len_42 top_17 bel thr trm who) H := hP
                        have hD : va_D A (wX5 cI cJ Ay Bmr Bfg Bln Btp Bbl Btr Bwh mrow mrs ma mb mlo mhi man mtl mtm fig_41 len_42 top_17 bel thr trm who) := hD
                        refine lv_aload_n hx hb dX5_divisor_190 rfl (lv_at hl 1 rfl) ?_
                        refine lv_bipush (v := 10) hx hb dX5_divisor_191 (by decide) ?_
                        refine lv_bipush (v := 11) hx hb dX5_divisor_193 (by decide) ?_
                        refine k_Vv (M_X5_copy l G cI cJ Ay Bmr Bfg Bln Btp Bbl Btr Bwh mrow mrs ma mb mlo mhi man mtl mtm fig_41 len_42 top_17 bel thr trm who (10 : Int32) (11 : Int32) _ hw) ⟨hx, hb, hml, hown, hts⟩ (cwV 2 hts gX5_divisor_X5_copy rfl rfl rfl (by decide +kernel) ⟨Nat.le_of_ble_eq_true rfl, Nat.le_of_ble_eq_true rfl⟩) hK hP hD hS hA [0, 1, 2, 3, 4, 5, 6, 7] [] [0, 1, 2, 3, 4, 5, 6, 7] (wr := []) (wn := fun u : (Nat → Int64) × (Nat → Int32) => (wX5 cI cJ Ay Bmr Bfg Bln Btp Bbl Btr Bwh mrow mrs ma mb mlo mhi man mtl mtm u.1 u.2 top_17 bel thr trm who)) rfl rfl (by decide) (by decide) (by decide) (by decide) (fun _ => rfl) (rest := []) (q0 := 0) rfl rfl rfl hl.1 rfl (Nat.le_of_ble_eq_true rfl) (Nat.zero_le _) (Nat.zero_le _) dX5_divisor_195 (fun u H locs hw hP hD hS => ?_)
                        obtain ⟨fig_43, len_44⟩ := u
                        have hP : va_P G vwCl (wX5 cI cJ Ay Bmr Bfg Bln Btp Bbl Btr Bwh mrow mrs ma mb mlo mhi man mtl mtm fig_43 len_44 top_17 bel thr trm who) H := hP
                        have hD : va_D A (wX5 cI cJ Ay Bmr Bfg Bln Btp Bbl Btr Bwh mrow mrs ma mb mlo mhi man mtl mtm fig_43 len_44 top_17 bel thr trm who) := hD
                        refine lv_aload_n hx hb dX5_divisor_198 rfl (lv_at hl 1 rfl) ?_
                        refine lv_bipush (v := 11) hx hb dX5_divisor_199 (by decide) ?_
                        refine lv_bipush (v := 13) hx hb dX5_divisor_201 (by decide) ?_
                        refine k_Vv (M_X5_copy l G cI cJ Ay Bmr Bfg Bln Btp Bbl Btr Bwh mrow mrs ma mb mlo mhi man mtl mtm fig_43 len_44 top_17 bel thr trm who (11 : Int32) (13 : Int32) _ hw) ⟨hx, hb, hml, hown, hts⟩ (cwV 2 hts gX5_divisor_X5_copy rfl rfl rfl (by decide +kernel) ⟨Nat.le_of_ble_eq_true rfl, Nat.le_of_ble_eq_true rfl⟩) hK hP hD hS hA [0, 1, 2, 3, 4, 5, 6, 7] [] [0, 1, 2, 3, 4, 5, 6, 7] (wr := []) (wn := fun u : (Nat → Int64) × (Nat → Int32) => (wX5 cI cJ Ay Bmr Bfg Bln Btp Bbl Btr Bwh mrow mrs ma mb mlo mhi man mtl mtm u.1 u.2 top_17 bel thr trm who)) rfl rfl (by decide) (by decide) (by decide) (by decide) (fun _ => rfl) (rest := []) (q0 := 0) rfl rfl rfl hl.1 rfl (Nat.le_of_ble_eq_true rfl) (Nat.zero_le _) (Nat.zero_le _) dX5_divisor_203 (fun u H locs hw hP hD hS => ?_)
                        obtain ⟨fig_45, len_46⟩ := u
                        have hP : va_P G vwCl (wX5 cI cJ Ay Bmr Bfg Bln Btp Bbl Btr Bwh mrow mrs ma mb mlo mhi man mtl mtm fig_45 len_46 top_17 bel thr trm who) H := hP
                        have hD : va_D A (wX5 cI cJ Ay Bmr Bfg Bln Btp Bbl Btr Bwh mrow mrs ma mb mlo mhi man mtl mtm fig_45 len_46 top_17 bel thr trm who) := hD
                        refine lv_aload_n hx hb dX5_divisor_206 rfl (lv_at hl 1 rfl) ?_
                        refine lv_bipush (v := 11) hx hb dX5_divisor_207 (by decide) ?_
                        refine lv_bipush (v := 11) hx hb dX5_divisor_209 (by decide) ?_
                        refine lv_bipush (v := 10) hx hb dX5_divisor_211 (by decide) ?_
                        refine k_Vv (M_X5_minus l G cI cJ Ay Bmr Bfg Bln Btp Bbl Btr Bwh mrow mrs ma mb mlo mhi man mtl mtm fig_45 len_46 top_17 bel thr trm who (11 : Int32) (11 : Int32) (10 : Int32) _ hw) ⟨hx, hb, hml, hown, hts⟩ (cwV 3 hts gX5_divisor_X5_minus rfl rfl rfl (by decide +kernel) ⟨Nat.le_of_ble_eq_true rfl, Nat.le_of_ble_eq_true rfl⟩) hK hP hD hS hA [0, 1, 2, 3, 4, 5, 6, 7] [] [0, 1, 2, 3, 4, 5, 6, 7] (wr := []) (wn := fun u : (Nat → Int64) × (Nat → Int32) × (Nat → Int64) => (wX5 cI cJ Ay Bmr Bfg Bln Btp Bbl Btr Bwh mrow mrs ma mb mlo mhi man mtl mtm u.1 u.2.1 u.2.2 bel thr trm who)) rfl rfl (by decide) (by decide) (by decide) (by decide) (fun _ => rfl) (rest := []) (q0 := 0) rfl rfl rfl hl.1 rfl (Nat.le_of_ble_eq_true rfl) (Nat.zero_le _) (Nat.zero_le _) dX5_divisor_213 (fun u H locs hw hP hD hS => ?_)
                        obtain ⟨fig_47, len_48, top_49⟩ := u
                        have hP : va_P G vwCl (wX5 cI cJ Ay Bmr Bfg Bln Btp Bbl Btr Bwh mrow mrs ma mb mlo mhi man mtl mtm fig_47 len_48 top_49 bel thr trm who) H := hP
                        have hD : va_D A (wX5 cI cJ Ay Bmr Bfg Bln Btp Bbl Btr Bwh mrow mrs ma mb mlo mhi man mtl mtm fig_47 len_48 top_49 bel thr trm who) := hD
                        refine lv_goto (tgt := 109) hx hb dX5_divisor_216 (by decide) ?_
                        exact ihI109_18 _ (by rw [← hNI109_18]; exact hw.2) fig_47 len_48 top_49 rfl hw.1 _ _ _ hP hD hS (lv_sub hl [0, 1] rfl)
                    · have hw := hw.2 c_53
                      refine lv_aload_n hx hb dX5_divisor_162 rfl (lv_at hl 1 rfl) ?_
                      refine lv_bipush (v := 11) hx hb dX5_divisor_163 (by decide) ?_
                      refine k_Vv (M_X5_halve l G cI cJ Ay Bmr Bfg Bln Btp Bbl Btr Bwh mrow mrs ma mb mlo mhi man mtl mtm fig_33 len_34 top_17 bel thr trm who (11 : Int32) _ hw) ⟨hx, hb, hml, hown, hts⟩ (cwV 1 hts gX5_divisor_X5_halve rfl rfl rfl (by decide +kernel) ⟨Nat.le_of_ble_eq_true rfl, Nat.le_of_ble_eq_true rfl⟩) hK hP hD hS hA [0, 1, 2, 3, 4, 5, 6, 7] [] [0, 1, 2, 3, 4, 5, 6, 7] (wr := []) (wn := fun u : (Nat → Int64) × (Nat → Int32) => (wX5 cI cJ Ay Bmr Bfg Bln Btp Bbl Btr Bwh mrow mrs ma mb mlo mhi man mtl mtm u.1 u.2 top_17 bel thr trm who)) rfl rfl (by decide) (by decide) (by decide) (by decide) (fun _ => rfl) (rest := []) (q0 := 0) rfl rfl rfl hl.1 rfl (Nat.le_of_ble_eq_true rfl) (Nat.zero_le _) (Nat.zero_le _) dX5_divisor_165 (fun u H locs hw hP hD hS => ?_)
                      obtain ⟨fig_51, len_52⟩ := u
                      have hP : va_P G vwCl (wX5 cI cJ Ay Bmr Bfg Bln Btp Bbl Btr Bwh mrow mrs ma mb mlo mhi man mtl mtm fig_51 len_52 top_17 bel thr trm who) H := hP
                      have hD : va_D A (wX5 cI cJ Ay Bmr Bfg Bln Btp Bbl Btr Bwh mrow mrs ma mb mlo mhi man mtl mtm fig_51 len_52 top_17 bel thr trm who) := hD
                      refine lv_goto (tgt := 145) hx hb dX5_divisor_168 (by decide) ?_
                      exact ihI145_35 _ (by rw [← hNI145_35]; exact hw.2) fig_51 len_52 rfl hw.1 _ _ _ hP hD hS (lv_sub hl [0, 1] rfl)
                · have hw := hw.2 c_56
                  refine lv_aload_n hx hb dX5_divisor_136 rfl (lv_at hl 1 rfl) ?_
                  refine lv_bipush (v := 10) hx hb dX5_divisor_137 (by decide) ?_
                  refine k_Vv (M_X5_halve l G cI cJ Ay Bmr Bfg Bln Btp Bbl Btr Bwh mrow mrs ma mb mlo mhi man mtl mtm fig_29 len_30 top_17 bel thr trm who (10 : Int32) _ hw) ⟨hx, hb, hml, hown, hts⟩ (cwV 1 hts gX5_divisor_X5_halve rfl rfl rfl (by decide +kernel) ⟨Nat.le_of_ble_eq_true rfl, Nat.le_of_ble_eq_true rfl⟩) hK hP hD hS hA [0, 1, 2, 3, 4, 5, 6, 7] [] [0, 1, 2, 3, 4, 5, 6, 7] (wr := []) (wn := fun u : (Nat → Int64) × (Nat → Int32) => (wX5 cI cJ Ay Bmr Bfg Bln Btp Bbl Btr Bwh mrow mrs ma mb mlo mhi man mtl mtm u.1 u.2 top_17 bel thr trm who)) rfl rfl (by decide) (by decide) (by decide) (by decide) (fun _ => rfl) (rest := []) (q0 := 0) rfl rfl rfl hl.1 rfl (Nat.le_of_ble_eq_true rfl) (Nat.zero_le _) (Nat.zero_le _) dX5_divisor_139 (fun u H locs hw hP hD hS => ?_)
                  obtain ⟨fig_54, len_55⟩ := u
                  have hP : va_P G vwCl (wX5 cI cJ Ay Bmr Bfg Bln Btp Bbl Btr Bwh mrow mrs ma mb mlo mhi man mtl mtm fig_54 len_55 top_17 bel thr trm who) H := hP
                  have hD : va_D A (wX5 cI cJ Ay Bmr Bfg Bln Btp Bbl Btr Bwh mrow mrs ma mb mlo mhi man mtl mtm fig_54 len_55 top_17 bel thr trm who) := hD
                  refine lv_goto (tgt := 119) hx hb dX5_divisor_142 (by decide) ?_
                  exact ihI119_31 _ (by rw [← hNI119_31]; exact hw.2) fig_54 len_55 rfl hw.1 _ _ _ hP hD hS (lv_sub hl [0, 1] rfl)
        · have hw := hw.2 c_108
          refine lv_aload_n hx hb dX5_divisor_74 rfl (lv_at hl 1 rfl) ?_
          refine k_get hx hb hts uX5_divisor_X5 hown hK hP 0 5 rfl rfl 9 (by decide) fX5_divisor_23 (.ref Bfg) rfl dX5_divisor_75 ?_
          refine lv_sipush (v := 2816) hx hb dX5_divisor_78 (by decide) ?_
          obtain ⟨hin, hw⟩ := hw
          refine k_lald hx hb hK hP 2 rfl hin dX5_divisor_81 ?_
          refine lv_ldc2 (v := 2) hx hb hown (hts _ fX5_divisor_65) dX5_divisor_82 ?_
          refine lv_lrem hx hb dX5_divisor_85 (by decide) ?_
          refine lv_topl (fun v_58 ev_58 => ?_)
          have hw := hw v_58 ev_58
          refine lv_lconst (v := 0) hx hb dX5_divisor_86 (by decide) ?_
          refine k_lif_ne (tgt := 109) hx hb dX5_divisor_87 dX5_divisor_88 (by decide) (fun c_107 => ?_) (fun c_107 => ?_)
          · have hw := hw.1 c_107
            obtain ⟨I109_62, μ109_62, hi, hw⟩ := hw
            suffices hLI109_62 : ∀ (N : Nat) (fig_59 : Nat → Int64) (len_60 : Nat → Int32) (top_61 : Nat → Int64) (_ : μ109_62 fig_59 len_60 top_61 = N) (_ : I109_62 fig_59 len_60 top_61) (H : Heap) (locs : List Loc) (ls : Array Slot), va_P G vwCl (wX5 cI cJ Ay Bmr Bfg Bln Btp Bbl Btr Bwh mrow mrs ma mb mlo mhi man mtl mtm fig_59 len_60 top_61 bel thr trm who) H → va_D A (wX5 cI cJ Ay Bmr Bfg Bln Btp Bbl Btr Bwh mrow mrs ma mb mlo mhi man mtl mtm fig_59 len_60 top_61 bel thr trm who) → va_S A s.heap H locs → lv_has ls 5 [(3, .int i3_10), (0, .ref Ay)] → W p l e rm_X5_divisor s m args below meth c H locs 0 0 Z (F0 m 109 ls []) from
              hLI109_62 _ fig_11 len_12 top rfl hi _ _ _ hP hD hS (lv_sub hl [0, 1] rfl)
            clear hi hP hD hS hl
            intro N
            induction N using Nat.strongRecOn with
            | ind N ihI109_62 =>
              intro fig_59 len_60 top_61 hNI109_62 hi H locs ls hP hD hS hl
              have hw := hw fig_59 len_60 top_61 hi
              refine lv_aload_n hx hb dX5_divisor_109 rfl (lv_at hl 1 rfl) ?_
              refine k_get hx hb hts uX5_divisor_X5 hown hK hP 0 5 rfl rfl 10 (by decide) fX5_divisor_27 (.ref Bln) rfl dX5_divisor_110 ?_
              refine lv_bipush (v := 11) hx hb dX5_divisor_113 (by decide) ?_
              obtain ⟨hin, hw⟩ := hw
              refine k_iald hx hb hK hP 3 rfl hin dX5_divisor_115 ?_
              refine lv_if_le (tgt := 219) hx hb dX5_divisor_116 (by decide) (fun c_101 => ?_) (fun c_101 => ?_)
              · have hw := hw.1 c_101
                refine lv_iconst (v := 0) hx hb dX5_divisor_219 (by decide) ?_
                refine lv_istore (lv' := [(4, .int 0), (3, .int i3_10), (0, .ref Ay)]) hx hb dX5_divisor_220 hl (by decide) rfl (fun ls hl => ?_)
                obtain ⟨I222_67, μ222_67, hi, hw⟩ := hw
                suffices hLI222_67 : ∀ (N : Nat) (i4_63 : Int32) (fig_64 : Nat → Int64) (len_65 : Nat → Int32) (top_66 : Nat → Int64) (_ : μ222_67 i4_63 fig_64 len_65 top_66 = N) (_ : I222_67 i4_63 fig_64 len_65 top_66) (H : Heap) (locs : List Loc) (ls : Array Slot), va_P G vwCl (wX5 cI cJ Ay Bmr Bfg Bln Btp Bbl Btr Bwh mrow mrs ma mb mlo mhi man mtl mtm fig_64 len_65 top_66 bel thr trm who) H → va_D A (wX5 cI cJ Ay Bmr Bfg Bln Btp Bbl Btr Bwh mrow mrs ma mb mlo mhi man mtl mtm fig_64 len_65 top_66 bel thr trm who) → va_S A s.heap H locs → lv_has ls 5 [(4, .int i4_63), (3, .int i3_10), (0, .ref Ay)] → W p l e rm_X5_divisor s m args below meth c H locs 0 0 Z (F0 m 222 ls []) from
                  hLI222_67 _ (0 : Int32) fig_59 len_60 top_61 rfl hi _ _ _ hP hD hS (lv_sub hl [0, 1, 2] rfl)
                clear hi hP hD hS hl
                intro N
                induction N using Nat.strongRecOn with
                | ind N ihI222_67 =>
                  intro i4_63 fig_64 len_65 top_66 hNI222_67 hi H locs ls hP hD hS hl
                  have hw := hw i4_63 fig_64 len_65 top_66 hi
                  refine lv_iload hx hb dX5_divisor_222 (lv_at hl 0 rfl) ?_
                  refine lv_iload_n hx hb dX5_divisor_224 rfl (lv_at hl 1 rfl) ?_
                  refine lv_icmp_ge (tgt := 244) hx hb dX5_divisor_225 (by decide) (fun c_72 => ?_) (fun c_72 => ?_)
                  · have hw := hw.1 c_72
                    exact hret (fig_64, len_65, top_66) _ _ _ _ hw hP hD hS dX5_divisor_244
                  · have hw := hw.2 c_72
                    refine lv_aload_n hx hb dX5_divisor_228 rfl (lv_at hl 2 rfl) ?_
                    refine lv_bipush (v := 10) hx hb dX5_divisor_229 (by decide) ?_
                    refine lv_bipush (v := 10) hx hb dX5_divisor_231 (by decide) ?_
                    refine lv_bipush (v := 10) hx hb dX5_divisor_233 (by decide) ?_
                    refine k_Vv (M_X5_plus l G cI cJ Ay Bmr Bfg Bln Btp Bbl Btr Bwh mrow mrs ma mb mlo mhi man mtl mtm fig_64 len_65 top_66 bel thr trm who (10 : Int32) (10 : Int32) (10 : Int32) _ hw) ⟨hx, hb, hml, hown, hts⟩ (cwV 3 hts gX5_divisor_X5_plus rfl rfl rfl (by decide +kernel) ⟨Nat.le_of_ble_eq_true rfl, Nat.le_of_ble_eq_true rfl⟩) hK hP hD hS hA [0, 1, 2, 3, 4, 5, 6, 7] [] [0, 1, 2, 3, 4, 5, 6, 7] (wr := []) (wn := fun u : (Nat → Int64) × (Nat → Int32) × (Nat → Int64) => (wX5 cI cJ Ay Bmr Bfg Bln Btp Bbl Btr Bwh mrow mrs ma mb mlo mhi man mtl mtm u.1 u.2.1 u.2.2 bel thr trm who)) rfl rfl (by decide) (by decide) (by decide) (by decide) (fun _ => rfl) (rest := []) (q0 := 0) rfl rfl rfl hl.1 rfl (Nat.le_of_ble_eq_true rfl) (Nat.zero_le _) (Nat.zero_le _) dX5_divisor_235 (fun u H locs hw hP hD hS => ?_)
                    obtain ⟨fig_68, len_69, top_70⟩ := u
                    have hP : va_P G vwCl (wX5 cI cJ Ay Bmr Bfg Bln Btp Bbl Btr Bwh mrow mrs ma mb mlo mhi man mtl mtm fig_68 len_69 top_70 bel thr trm who) H := hP
                    have hD : va_D A (wX5 cI cJ Ay Bmr Bfg Bln Btp Bbl Btr Bwh mrow mrs ma mb mlo mhi man mtl mtm fig_68 len_69 top_70 bel thr trm who) := hD
                    obtain ⟨i4_71, ei4_71⟩ : ∃ y : Int32, y = i4_63 + 1 := ⟨_, rfl⟩
                    have hw := hw i4_71 ei4_71
                    refine lv_iinc (v := i4_71) (lv' := [(4, .int i4_71), (3, .int i3_10), (0, .ref Ay)]) hx hb dX5_divisor_238 hl (k := 0) rfl (by rw [ei4_71]; rfl) (by decide) rfl (fun ls hl => ?_)
                    refine lv_goto (tgt := 222) hx hb dX5_divisor_241 (by decide) ?_
                    exact ihI222_67 _ (by rw [← hNI222_67]; exact hw.2) i4_71 fig_68 len_69 top_70 rfl hw.1 _ _ _ hP hD hS (lv_sub hl [0, 1, 2] rfl)
              · have hw := hw.2 c_101
                obtain ⟨I119_75, μ119_75, hi, hw⟩ := hw
                suffices hLI119_75 : ∀ (N : Nat) (fig_73 : Nat → Int64) (len_74 : Nat → Int32) (_ : μ119_75 fig_73 len_74 = N) (_ : I119_75 fig_73 len_74) (H : Heap) (locs : List Loc) (ls : Array Slot), va_P G vwCl (wX5 cI cJ Ay Bmr Bfg Bln Btp Bbl Btr Bwh mrow mrs ma mb mlo mhi man mtl mtm fig_73 len_74 top_61 bel thr trm who) H → va_D A (wX5 cI cJ Ay Bmr Bfg Bln Btp Bbl Btr Bwh mrow mrs ma mb mlo mhi man mtl mtm fig_73 len_74 top_61 bel thr trm who) → va_S A s.heap H locs → lv_has ls 5 [(3, .int i3_10), (0, .ref Ay)] → W p l e rm_X5_divisor s m args below meth c H locs 0 0 Z (F0 m 119 ls []) from
                  hLI119_75 _ fig_59 len_60 rfl hi _ _ _ hP hD hS (lv_sub hl [0, 1] rfl)
                clear hi hP hD hS hl
                intro N
                induction N using Nat.strongRecOn with
                | ind N ihI119_75 =>
                  intro fig_73 len_74 hNI119_75 hi H locs ls hP hD hS hl
                  have hw := hw fig_73 len_74 hi
                  refine lv_aload_n hx hb dX5_divisor_119 rfl (lv_at hl 1 rfl) ?_
                  refine k_get hx hb hts uX5_divisor_X5 hown hK hP 0 5 rfl rfl 9 (by decide) fX5_divisor_23 (.ref Bfg) rfl dX5_divisor_120 ?_
                  refine lv_sipush (v := 2560) hx hb dX5_divisor_123 (by decide) ?_
                  obtain ⟨hin, hw⟩ := hw
                  refine k_lald hx hb hK hP 2 rfl hin dX5_divisor_126 ?_
                  refine lv_ldc2 (v := 2) hx hb hown (hts _ fX5_divisor_65) dX5_divisor_127 ?_
                  refine lv_lrem hx hb dX5_divisor_130 (by decide) ?_
                  refine lv_topl (fun v_76 ev_76 => ?_)
                  have hw := hw v_76 ev_76
                  refine lv_lconst (v := 0) hx hb dX5_divisor_131 (by decide) ?_
                  refine k_lif_ne (tgt := 145) hx hb dX5_divisor_132 dX5_divisor_133 (by decide) (fun c_100 => ?_) (fun c_100 => ?_)
                  · have hw := hw.1 c_100
                    obtain ⟨I145_79, μ145_79, hi, hw⟩ := hw
                    suffices hLI145_79 : ∀ (N : Nat) (fig_77 : Nat → Int64) (len_78 : Nat → Int32) (_ : μ145_79 fig_77 len_78 = N) (_ : I145_79 fig_77 len_78) (H : Heap) (locs : List Loc) (ls : Array Slot), va_P G vwCl (wX5 cI cJ Ay Bmr Bfg Bln Btp Bbl Btr Bwh mrow mrs ma mb mlo mhi man mtl mtm fig_77 len_78 top_61 bel thr trm who) H → va_D A (wX5 cI cJ Ay Bmr Bfg Bln Btp Bbl Btr Bwh mrow mrs ma mb mlo mhi man mtl mtm fig_77 len_78 top_61 bel thr trm who) → va_S A s.heap H locs → lv_has ls 5 [(3, .int i3_10), (0, .ref Ay)] → W p l e rm_X5_divisor s m args below meth c H locs 0 0 Z (F0 m 145 ls []) from
                      hLI145_79 _ fig_73 len_74 rfl hi _ _ _ hP hD hS (lv_sub hl [0, 1] rfl)
                    clear hi hP hD hS hl
                    intro N
                    induction N using Nat.strongRecOn with
                    | ind N ihI145_79 =>
                      intro fig_77 len_78 hNI145_79 hi H locs ls hP hD hS hl
                      have hw := hw fig_77 len_78 hi
                      refine lv_aload_n hx hb dX5_divisor_145 rfl (lv_at hl 1 rfl) ?_
                      refine k_get hx hb hts uX5_divisor_X5 hown hK hP 0 5 rfl rfl 9 (by decide) fX5_divisor_23 (.ref Bfg) rfl dX5_divisor_146 ?_
                      refine lv_sipush (v := 2816) hx hb dX5_divisor_149 (by decide) ?_
                      obtain ⟨hin, hw⟩ := hw
                      refine k_lald hx hb hK hP 2 rfl hin dX5_divisor_152 ?_
                      refine lv_ldc2 (v := 2) hx hb hown (hts _ fX5_divisor_65) dX5_divisor_153 ?_
                      refine lv_lrem hx hb dX5_divisor_156 (by decide) ?_
                      refine lv_topl (fun v_80 ev_80 => ?_)
                      have hw := hw v_80 ev_80
                      refine lv_lconst (v := 0) hx hb dX5_divisor_157 (by decide) ?_
                      refine k_lif_ne (tgt := 171) hx hb dX5_divisor_158 dX5_divisor_159 (by decide) (fun c_97 => ?_) (fun c_97 => ?_)
                      · have hw := hw.1 c_97
                        refine lv_aload_n hx hb dX5_divisor_171 rfl (lv_at hl 1 rfl) ?_
                        refine lv_bipush (v := 10) hx hb dX5_divisor_172 (by decide) ?_
                        refine lv_bipush (v := 11) hx hb dX5_divisor_174 (by decide) ?_
                        refine k_Vi (M_X5_compare l G cI cJ Ay Bmr Bfg Bln Btp Bbl Btr Bwh mrow mrs ma mb mlo mhi man mtl mtm fig_77 len_78 top_61 bel thr trm who (10 : Int32) (11 : Int32) _ hw) ⟨hx, hb, hml, hown, hts⟩ (cwV 2 hts gX5_divisor_X5_compare rfl rfl rfl (by decide +kernel) ⟨Nat.le_of_ble_eq_true rfl, Nat.le_of_ble_eq_true rfl⟩) hK hP hD hS hA [0, 1, 2, 3, 4, 5, 6, 7] [] [0, 1, 2, 3, 4, 5, 6, 7] (wr := []) (wn := fun u : Unit => (wX5 cI cJ Ay Bmr Bfg Bln Btp Bbl Btr Bwh mrow mrs ma mb mlo mhi man mtl mtm fig_77 len_78 top_61 bel thr trm who)) rfl rfl (by decide) (by decide) (by decide) (by decide) (fun _ => rfl) (rest := []) (q0 := 0) rfl rfl rfl hl.1 rfl (Nat.le_of_ble_eq_true rfl) (Nat.zero_le _) (Nat.zero_le _) dX5_divisor_176 (fun r_81 u H locs hw hP hD hS => ?_)
                        refine lv_if_le (tgt := 206) hx hb dX5_divisor_179 (by decide) (fun c_94 => ?_) (fun c_94 => ?_)
                        · have hw := hw.1 c_94
                          refine lv_aload_n hx hb dX5_divisor_206 rfl (lv_at hl 1 rfl) ?_
                          refine lv_bipush (v := 11) hx hb dX5_divisor_207 (by decide) ?_
                          refine lv_bipush (v := 11) hx hb dX5_divisor_209 (by decide) ?_
                          refine lv_bipush (v := 10) hx hb dX5_divisor_211 (by decide) ?_
                          refine k_Vv (M_X5_minus l G cI cJ Ay Bmr Bfg Bln Btp Bbl Btr Bwh mrow mrs ma mb mlo mhi man mtl mtm fig_77 len_78 top_61 bel thr trm who (11 : Int32) (11 : Int32) (10 : Int32) _ hw) ⟨hx, hb, hml, hown, hts⟩ (cwV 3 hts gX5_divisor_X5_minus rfl rfl rfl (by decide +kernel) ⟨Nat.le_of_ble_eq_true rfl, Nat.le_of_ble_eq_true rfl⟩) hK hP hD hS hA [0, 1, 2, 3, 4, 5, 6, 7] [] [0, 1, 2, 3, 4, 5, 6, 7] (wr := []) (wn := fun u : (Nat → Int64) × (Nat → Int32) × (Nat → Int64) => (wX5 cI cJ Ay Bmr Bfg Bln Btp Bbl Btr Bwh mrow mrs ma mb mlo mhi man mtl mtm u.1 u.2.1 u.2.2 bel thr trm who)) rfl rfl (by decide) (by decide) (by decide) (by decide) (fun _ => rfl) (rest := []) (q0 := 0) rfl rfl rfl hl.1 rfl (Nat.le_of_ble_eq_true rfl) (Nat.zero_le _) (Nat.zero_le _) dX5_divisor_213 (fun u H locs hw hP hD hS => ?_)
                          obtain ⟨fig_82, len_83, top_84⟩ := u
                          have hP : va_P G vwCl (wX5 cI cJ Ay Bmr Bfg Bln Btp Bbl Btr Bwh mrow mrs ma mb mlo mhi man mtl mtm fig_82 len_83 top_84 bel thr trm who) H := hP
                          have hD : va_D A (wX5 cI cJ Ay Bmr Bfg Bln Btp Bbl Btr Bwh mrow mrs ma mb mlo mhi man mtl mtm fig_82 len_83 top_84 bel thr trm who) := hD
                          refine lv_goto (tgt := 109) hx hb dX5_divisor_216 (by decide) ?_
                          exact ihI109_62 _ (by rw [← hNI109_62]; exact hw.2) fig_82 len_83 top_84 rfl hw.1 _ _ _ hP hD hS (lv_sub hl [0, 1] rfl)
                        · have hw := hw.2 c_94
                          refine lv_aload_n hx hb dX5_divisor_182 rfl (lv_at hl 1 rfl) ?_
                          refine lv_bipush (v := 13) hx hb dX5_divisor_183 (by decide) ?_
                          refine lv_bipush (v := 10) hx hb dX5_divisor_185 (by decide) ?_
                          refine k_Vv (M_X5_copy l G cI cJ Ay Bmr Bfg Bln Btp Bbl Btr Bwh mrow mrs ma mb mlo mhi man mtl mtm fig_77 len_78 top_61 bel thr trm who (13 : Int32) (10 : Int32) _ hw) ⟨hx, hb, hml, hown, hts⟩ (cwV 2 hts gX5_divisor_X5_copy rfl rfl rfl (by decide +kernel) ⟨Nat.le_of_ble_eq_true rfl, Nat.le_of_ble_eq_true rfl⟩) hK hP hD hS hA [0, 1, 2, 3, 4, 5, 6, 7] [] [0, 1, 2, 3, 4, 5, 6, 7] (wr := []) (wn := fun u : (Nat → Int64) × (Nat → Int32) => (wX5 cI cJ Ay Bmr Bfg Bln Btp Bbl Btr Bwh mrow mrs ma mb mlo mhi man mtl mtm u.1 u.2 top_61 bel thr trm who)) rfl rfl (by decide) (by decide) (by decide) (by decide) (fun _ => rfl) (rest := []) (q0 := 0) rfl rfl rfl hl.1 rfl (Nat.le_of_ble_eq_true rfl) (Nat.zero_le _) (Nat.zero_le _) dX5_divisor_187 (fun u H locs hw hP hD hS => ?_)
                          obtain ⟨fig_85, len_86⟩ := u
                          have hP : va_P G vwCl (wX5 cI cJ Ay Bmr Bfg Bln Btp Bbl Btr Bwh mrow mrs ma mb mlo mhi man mtl mtm fig_85 len_86 top_61 bel thr trm who) H := hP
                          have hD : va_D A (wX5 cI cJ Ay Bmr Bfg Bln Btp Bbl Btr Bwh mrow mrs ma mb mlo mhi man mtl mtm fig_85 len_86 top_61 bel thr trm who) := hD
                          refine lv_aload_n hx hb dX5_divisor_190 rfl (lv_at hl 1 rfl) ?_
                          refine lv_bipush (v := 10) hx hb dX5_divisor_191 (by decide) ?_
                          refine lv_bipush (v := 11) hx hb dX5_divisor_193 (by decide) ?_
                          refine k_Vv (M_X5_copy l G cI cJ Ay Bmr Bfg Bln Btp Bbl Btr Bwh mrow mrs ma mb mlo mhi man mtl mtm fig_85 len_86 top_61 bel thr trm who (10 : Int32) (11 : Int32) _ hw) ⟨hx, hb, hml, hown, hts⟩ (cwV 2 hts gX5_divisor_X5_copy rfl rfl rfl (by decide +kernel) ⟨Nat.le_of_ble_eq_true rfl, Nat.le_of_ble_eq_true rfl⟩) hK hP hD hS hA [0, 1, 2, 3, 4, 5, 6, 7] [] [0, 1, 2, 3, 4, 5, 6, 7] (wr := []) (wn := fun u : (Nat → Int64) × (Nat → Int32) => (wX5 cI cJ Ay Bmr Bfg Bln Btp Bbl Btr Bwh mrow mrs ma mb mlo mhi man mtl mtm u.1 u.2 top_61 bel thr trm who)) rfl rfl (by decide) (by decide) (by decide) (by decide) (fun _ => rfl) (rest := []) (q0 := 0) rfl rfl rfl hl.1 rfl (Nat.le_of_ble_eq_true rfl) (Nat.zero_le _) (Nat.zero_le _) dX5_divisor_195 (fun u H locs hw hP hD hS => ?_)
                          obtain ⟨fig_87, len_88⟩ := u
                          have hP : va_P G vwCl (wX5 cI cJ Ay Bmr Bfg Bln Btp Bbl Btr Bwh mrow mrs ma mb mlo mhi man mtl mtm fig_87 len_88 top_61 bel thr trm who) H := hP
                          have hD : va_D A (wX5 cI cJ Ay Bmr Bfg Bln Btp Bbl Btr Bwh mrow mrs ma mb mlo mhi man mtl mtm fig_87 len_88 top_61 bel thr trm who) := hD
                          refine lv_aload_n hx hb dX5_divisor_198 rfl (lv_at hl 1 rfl) ?_
                          refine lv_bipush (v := 11) hx hb dX5_divisor_199 (by decide) ?_
                          refine lv_bipush (v := 13) hx hb dX5_divisor_201 (by decide) ?_
                          refine k_Vv (M_X5_copy l G cI cJ Ay Bmr Bfg Bln Btp Bbl Btr Bwh mrow mrs ma mb mlo mhi man mtl mtm fig_87 len_88 top_61 bel thr trm who (11 : Int32) (13 : Int32) _ hw) ⟨hx, hb, hml, hown, hts⟩ (cwV 2 hts gX5_divisor_X5_copy rfl rfl rfl (by decide +kernel) ⟨Nat.le_of_ble_eq_true rfl, Nat.le_of_ble_eq_true rfl⟩) hK hP hD hS hA [0, 1, 2, 3, 4, 5, 6, 7] [] [0, 1, 2, 3, 4, 5, 6, 7] (wr := []) (wn := fun u : (Nat → Int64) × (Nat → Int32) => (wX5 cI cJ Ay Bmr Bfg Bln Btp Bbl Btr Bwh mrow mrs ma mb mlo mhi man mtl mtm u.1 u.2 top_61 bel thr trm who)) rfl rfl (by decide) (by decide) (by decide) (by decide) (fun _ => rfl) (rest := []) (q0 := 0) rfl rfl rfl hl.1 rfl (Nat.le_of_ble_eq_true rfl) (Nat.zero_le _) (Nat.zero_le _) dX5_divisor_203 (fun u H locs hw hP hD hS => ?_)
                          obtain ⟨fig_89, len_90⟩ := u
                          have hP : va_P G vwCl (wX5 cI cJ Ay Bmr Bfg Bln Btp Bbl Btr Bwh mrow mrs ma mb mlo mhi man mtl mtm fig_89 len_90 top_61 bel thr trm who) H := hP
                          have hD : va_D A (wX5 cI cJ Ay Bmr Bfg Bln Btp Bbl Btr Bwh mrow mrs ma mb mlo mhi man mtl mtm fig_89 len_90 top_61 bel thr trm who) := hD
                          refine lv_aload_n hx hb dX5_divisor_206 rfl (lv_at hl 1 rfl) ?_
                          refine lv_bipush (v := 11) hx hb dX5_divisor_207 (by decide) ?_
                          refine lv_bipush (v := 11) hx hb dX5_divisor_209 (by decide) ?_
                          refine lv_bipush (v := 10) hx hb dX5_divisor_211 (by decide) ?_
                          refine k_Vv (M_X5_minus l G cI cJ Ay Bmr Bfg Bln Btp Bbl Btr Bwh mrow mrs ma mb mlo mhi man mtl mtm fig_89 len_90 top_61 bel thr trm who (11 : Int32) (11 : Int32) (10 : Int32) _ hw) ⟨hx, hb, hml, hown, hts⟩ (cwV 3 hts gX5_divisor_X5_minus rfl rfl rfl (by decide +kernel) ⟨Nat.le_of_ble_eq_true rfl, Nat.le_of_ble_eq_true rfl⟩) hK hP hD hS hA [0, 1, 2, 3, 4, 5, 6, 7] [] [0, 1, 2, 3, 4, 5, 6, 7] (wr := []) (wn := fun u : (Nat → Int64) × (Nat → Int32) × (Nat → Int64) => (wX5 cI cJ Ay Bmr Bfg Bln Btp Bbl Btr Bwh mrow mrs ma mb mlo mhi man mtl mtm u.1 u.2.1 u.2.2 bel thr trm who)) rfl rfl (by decide) (by decide) (by decide) (by decide) (fun _ => rfl) (rest := []) (q0 := 0) rfl rfl rfl hl.1 rfl (Nat.le_of_ble_eq_true rfl) (Nat.zero_le _) (Nat.zero_le _) dX5_divisor_213 (fun u H locs hw hP hD hS => ?_)
                          obtain ⟨fig_91, len_92, top_93⟩ := u
                          have hP : va_P G vwCl (wX5 cI cJ Ay Bmr Bfg Bln Btp Bbl Btr Bwh mrow mrs ma mb mlo mhi man mtl mtm fig_91 len_92 top_93 bel thr trm who) H := hP
                          have hD : va_D A (wX5 cI cJ Ay Bmr Bfg Bln Btp Bbl Btr Bwh mrow mrs ma mb mlo mhi man mtl mtm fig_91 len_92 top_93 bel thr trm who) := hD
                          refine lv_goto (tgt := 109) hx hb dX5_divisor_216 (by decide) ?_
                          exact ihI109_62 _ (by rw [← hNI109_62]; exact hw.2) fig_91 len_92 top_93 rfl hw.1 _ _ _ hP hD hS (lv_sub hl [0, 1] rfl)
                      · have hw := hw.2 c_97
                        refine lv_aload_n hx hb dX5_divisor_162 rfl (lv_at hl 1 rfl) ?_
                        refine lv_bipush (v := 11) hx hb dX5_divisor_163 (by decide) ?_
                        refine k_Vv (M_X5_halve l G cI cJ Ay Bmr Bfg Bln Btp Bbl Btr Bwh mrow mrs ma mb mlo mhi man mtl mtm fig_77 len_78 top_61 bel thr trm who (11 : Int32) _ hw) ⟨hx, hb, hml, hown, hts⟩ (cwV 1 hts gX5_divisor_X5_halve rfl rfl rfl (by decide +kernel) ⟨Nat.le_of_ble_eq_true rfl, Nat.le_of_ble_eq_true rfl⟩) hK hP hD hS hA [0, 1, 2, 3, 4, 5, 6, 7] [] [0, 1, 2, 3, 4, 5, 6, 7] (wr := []) (wn := fun u : (Nat → Int64) × (Nat → Int32) => (wX5 cI cJ Ay Bmr Bfg Bln Btp Bbl Btr Bwh mrow mrs ma mb mlo mhi man mtl mtm u.1 u.2 top_61 bel thr trm who)) rfl rfl (by decide) (by decide) (by decide) (by decide) (fun _ => rfl) (rest := []) (q0 := 0) rfl rfl rfl hl.1 rfl (Nat.le_of_ble_eq_true rfl) (Nat.zero_le _) (Nat.zero_le _) dX5_divisor_165 (fun u H locs hw hP hD hS => ?_)
                        obtain ⟨fig_95, len_96⟩ := u
                        have hP : va_P G vwCl (wX5 cI cJ Ay Bmr Bfg Bln Btp Bbl Btr Bwh mrow mrs ma mb mlo mhi man mtl mtm fig_95 len_96 top_61 bel thr trm who) H := hP
                        have hD : va_D A (wX5 cI cJ Ay Bmr Bfg Bln Btp Bbl Btr Bwh mrow mrs ma mb mlo mhi man mtl mtm fig_95 len_96 top_61 bel thr trm who) := hD
                        refine lv_goto (tgt := 145) hx hb dX5_divisor_168 (by decide) ?_
                        exact ihI145_79 _ (by rw [← hNI145_79]; exact hw.2) fig_95 len_96 rfl hw.1 _ _ _ hP hD hS (lv_sub hl [0, 1] rfl)
                  · have hw := hw.2 c_100
                    refine lv_aload_n hx hb dX5_divisor_136 rfl (lv_at hl 1 rfl) ?_
                    refine lv_bipush (v := 10) hx hb dX5_divisor_137 (by decide) ?_
                    refine k_Vv (M_X5_halve l G cI cJ Ay Bmr Bfg Bln Btp Bbl Btr Bwh mrow mrs ma mb mlo mhi man mtl mtm fig_73 len_74 top_61 bel thr trm who (10 : Int32) _ hw) ⟨hx, hb, hml, hown, hts⟩ (cwV 1 hts gX5_divisor_X5_halve rfl rfl rfl (by decide +kernel) ⟨Nat.le_of_ble_eq_true rfl, Nat.le_of_ble_eq_true rfl⟩) hK hP hD hS hA [0, 1, 2, 3, 4, 5, 6, 7] [] [0, 1, 2, 3, 4, 5, 6, 7] (wr := []) (wn := fun u : (Nat → Int64) × (Nat → Int32) => (wX5 cI cJ Ay Bmr Bfg Bln Btp Bbl Btr Bwh mrow mrs ma mb mlo mhi man mtl mtm u.1 u.2 top_61 bel thr trm who)) rfl rfl (by decide) (by decide) (by decide) (by decide) (fun _ => rfl) (rest := []) (q0 := 0) rfl rfl rfl hl.1 rfl (Nat.le_of_ble_eq_true rfl) (Nat.zero_le _) (Nat.zero_le _) dX5_divisor_139 (fun u H locs hw hP hD hS => ?_)
                    obtain ⟨fig_98, len_99⟩ := u
                    have hP : va_P G vwCl (wX5 cI cJ Ay Bmr Bfg Bln Btp Bbl Btr Bwh mrow mrs ma mb mlo mhi man mtl mtm fig_98 len_99 top_61 bel thr trm who) H := hP
                    have hD : va_D A (wX5 cI cJ Ay Bmr Bfg Bln Btp Bbl Btr Bwh mrow mrs ma mb mlo mhi man mtl mtm fig_98 len_99 top_61 bel thr trm who) := hD
                    refine lv_goto (tgt := 119) hx hb dX5_divisor_142 (by decide) ?_
                    exact ihI119_75 _ (by rw [← hNI119_75]; exact hw.2) fig_98 len_99 rfl hw.1 _ _ _ hP hD hS (lv_sub hl [0, 1] rfl)
          · have hw := hw.2 c_107
            refine lv_aload_n hx hb dX5_divisor_91 rfl (lv_at hl 1 rfl) ?_
            refine lv_bipush (v := 10) hx hb dX5_divisor_92 (by decide) ?_
            refine k_Vv (M_X5_halve l G cI cJ Ay Bmr Bfg Bln Btp Bbl Btr Bwh mrow mrs ma mb mlo mhi man mtl mtm fig_11 len_12 top bel thr trm who (10 : Int32) _ hw) ⟨hx, hb, hml, hown, hts⟩ (cwV 1 hts gX5_divisor_X5_halve rfl rfl rfl (by decide +kernel) ⟨Nat.le_of_ble_eq_true rfl, Nat.le_of_ble_eq_true rfl⟩) hK hP hD hS hA [0, 1, 2, 3, 4, 5, 6, 7] [] [0, 1, 2, 3, 4, 5, 6, 7] (wr := []) (wn := fun u : (Nat → Int64) × (Nat → Int32) => (wX5 cI cJ Ay Bmr Bfg Bln Btp Bbl Btr Bwh mrow mrs ma mb mlo mhi man mtl mtm u.1 u.2 top bel thr trm who)) rfl rfl (by decide) (by decide) (by decide) (by decide) (fun _ => rfl) (rest := []) (q0 := 0) rfl rfl rfl hl.1 rfl (Nat.le_of_ble_eq_true rfl) (Nat.zero_le _) (Nat.zero_le _) dX5_divisor_94 (fun u H locs hw hP hD hS => ?_)
            obtain ⟨fig_102, len_103⟩ := u
            have hP : va_P G vwCl (wX5 cI cJ Ay Bmr Bfg Bln Btp Bbl Btr Bwh mrow mrs ma mb mlo mhi man mtl mtm fig_102 len_103 top bel thr trm who) H := hP
            have hD : va_D A (wX5 cI cJ Ay Bmr Bfg Bln Btp Bbl Btr Bwh mrow mrs ma mb mlo mhi man mtl mtm fig_102 len_103 top bel thr trm who) := hD
            refine lv_aload_n hx hb dX5_divisor_97 rfl (lv_at hl 1 rfl) ?_
            refine lv_bipush (v := 11) hx hb dX5_divisor_98 (by decide) ?_
            refine k_Vv (M_X5_halve l G cI cJ Ay Bmr Bfg Bln Btp Bbl Btr Bwh mrow mrs ma mb mlo mhi man mtl mtm fig_102 len_103 top bel thr trm who (11 : Int32) _ hw) ⟨hx, hb, hml, hown, hts⟩ (cwV 1 hts gX5_divisor_X5_halve rfl rfl rfl (by decide +kernel) ⟨Nat.le_of_ble_eq_true rfl, Nat.le_of_ble_eq_true rfl⟩) hK hP hD hS hA [0, 1, 2, 3, 4, 5, 6, 7] [] [0, 1, 2, 3, 4, 5, 6, 7] (wr := []) (wn := fun u : (Nat → Int64) × (Nat → Int32) => (wX5 cI cJ Ay Bmr Bfg Bln Btp Bbl Btr Bwh mrow mrs ma mb mlo mhi man mtl mtm u.1 u.2 top bel thr trm who)) rfl rfl (by decide) (by decide) (by decide) (by decide) (fun _ => rfl) (rest := []) (q0 := 0) rfl rfl rfl hl.1 rfl (Nat.le_of_ble_eq_true rfl) (Nat.zero_le _) (Nat.zero_le _) dX5_divisor_100 (fun u H locs hw hP hD hS => ?_)
            obtain ⟨fig_104, len_105⟩ := u
            have hP : va_P G vwCl (wX5 cI cJ Ay Bmr Bfg Bln Btp Bbl Btr Bwh mrow mrs ma mb mlo mhi man mtl mtm fig_104 len_105 top bel thr trm who) H := hP
            have hD : va_D A (wX5 cI cJ Ay Bmr Bfg Bln Btp Bbl Btr Bwh mrow mrs ma mb mlo mhi man mtl mtm fig_104 len_105 top bel thr trm who) := hD
            obtain ⟨i3_106, ei3_106⟩ : ∃ y : Int32, y = i3_10 + 1 := ⟨_, rfl⟩
            have hw := hw i3_106 ei3_106
            refine lv_iinc (v := i3_106) (lv' := [(3, .int i3_106), (0, .ref Ay)]) hx hb dX5_divisor_103 hl (k := 0) rfl (by rw [ei3_106]; rfl) (by decide) rfl (fun ls hl => ?_)
            refine lv_goto (tgt := 57) hx hb dX5_divisor_106 (by decide) ?_
            exact ihI57_13 _ (by rw [← hNI57_13]; exact hw.2) i3_106 fig_104 len_105 rfl hw.1 _ _ _ hP hD hS (lv_sub hl [0, 1] rfl)
    · have hw := hw.2 c_114
      refine lv_aload_n hx hb dX5_divisor_36 rfl (lv_at hl 1 rfl) ?_
      refine lv_bipush (v := 10) hx hb dX5_divisor_37 (by decide) ?_
      refine lv_aload_n hx hb dX5_divisor_39 rfl (lv_at hl 1 rfl) ?_
      refine k_get hx hb hts uX5_divisor_X5 hown hK hP 0 5 rfl rfl 10 (by decide) fX5_divisor_27 (.ref Bln) rfl dX5_divisor_40 ?_
      refine lv_iload_n hx hb dX5_divisor_43 rfl (lv_at hl 2 rfl) ?_
      obtain ⟨hin, hw⟩ := hw
      refine k_iald hx hb hK hP 3 rfl hin dX5_divisor_44 ?_
      refine lv_if_ne (tgt := 52) hx hb dX5_divisor_45 (by decide) (fun c_113 => ?_) (fun c_113 => ?_)
      · have hw := hw.1 c_113
        refine lv_iload_n hx hb dX5_divisor_52 rfl (lv_at hl 2 rfl) ?_
        refine k_Vv (M_X5_copy l G cI cJ Ay Bmr Bfg Bln Btp Bbl Btr Bwh mrow mrs ma mb mlo mhi man mtl mtm fig_3 len_4 top bel thr trm who (10 : Int32) p0 _ hw) ⟨hx, hb, hml, hown, hts⟩ (cwV 2 hts gX5_divisor_X5_copy rfl rfl rfl (by decide +kernel) ⟨Nat.le_of_ble_eq_true rfl, Nat.le_of_ble_eq_true rfl⟩) hK hP hD hS hA [0, 1, 2, 3, 4, 5, 6, 7] [] [0, 1, 2, 3, 4, 5, 6, 7] (wr := []) (wn := fun u : (Nat → Int64) × (Nat → Int32) => (wX5 cI cJ Ay Bmr Bfg Bln Btp Bbl Btr Bwh mrow mrs ma mb mlo mhi man mtl mtm u.1 u.2 top bel thr trm who)) rfl rfl (by decide) (by decide) (by decide) (by decide) (fun _ => rfl) (rest := []) (q0 := 0) rfl rfl rfl hl.1 rfl (Nat.le_of_ble_eq_true rfl) (Nat.zero_le _) (Nat.zero_le _) dX5_divisor_53 (fun u H locs hw hP hD hS => ?_)
        obtain ⟨fig_109, len_110⟩ := u
        have hP : va_P G vwCl (wX5 cI cJ Ay Bmr Bfg Bln Btp Bbl Btr Bwh mrow mrs ma mb mlo mhi man mtl mtm fig_109 len_110 top bel thr trm who) H := hP
        have hD : va_D A (wX5 cI cJ Ay Bmr Bfg Bln Btp Bbl Btr Bwh mrow mrs ma mb mlo mhi man mtl mtm fig_109 len_110 top bel thr trm who) := hD
        exact hret (fig_109, len_110, top) _ _ _ _ hw hP hD hS dX5_divisor_56
      · have hw := hw.2 c_113
        refine lv_iload_n hx hb dX5_divisor_48 rfl (lv_at hl 3 rfl) ?_
        refine lv_goto (tgt := 53) hx hb dX5_divisor_49 (by decide) ?_
        refine k_Vv (M_X5_copy l G cI cJ Ay Bmr Bfg Bln Btp Bbl Btr Bwh mrow mrs ma mb mlo mhi man mtl mtm fig_3 len_4 top bel thr trm who (10 : Int32) p1 _ hw) ⟨hx, hb, hml, hown, hts⟩ (cwV 2 hts gX5_divisor_X5_copy rfl rfl rfl (by decide +kernel) ⟨Nat.le_of_ble_eq_true rfl, Nat.le_of_ble_eq_true rfl⟩) hK hP hD hS hA [0, 1, 2, 3, 4, 5, 6, 7] [] [0, 1, 2, 3, 4, 5, 6, 7] (wr := []) (wn := fun u : (Nat → Int64) × (Nat → Int32) => (wX5 cI cJ Ay Bmr Bfg Bln Btp Bbl Btr Bwh mrow mrs ma mb mlo mhi man mtl mtm u.1 u.2 top bel thr trm who)) rfl rfl (by decide) (by decide) (by decide) (by decide) (fun _ => rfl) (rest := []) (q0 := 0) rfl rfl rfl hl.1 rfl (Nat.le_of_ble_eq_true rfl) (Nat.zero_le _) (Nat.zero_le _) dX5_divisor_53 (fun u H locs hw hP hD hS => ?_)
        obtain ⟨fig_111, len_112⟩ := u
        have hP : va_P G vwCl (wX5 cI cJ Ay Bmr Bfg Bln Btp Bbl Btr Bwh mrow mrs ma mb mlo mhi man mtl mtm fig_111 len_112 top bel thr trm who) H := hP
        have hD : va_D A (wX5 cI cJ Ay Bmr Bfg Bln Btp Bbl Btr Bwh mrow mrs ma mb mlo mhi man mtl mtm fig_111 len_112 top bel thr trm who) := hD
        exact hret (fig_111, len_112, top) _ _ _ _ hw hP hD hS dX5_divisor_56
