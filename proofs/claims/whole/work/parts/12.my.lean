/-! The reference, calls: predicates and walks (laid by wip/whole/gen.py) -/
abbrev rm_X5_lowest : Room := { frames := 4, cells := 0, slots := 0, locals := 99 }
abbrev rm_X5_set : Room := { frames := 5, cells := 0, slots := 0, locals := 122 }
abbrev rm_X5_cross : Room := { frames := 3, cells := 0, slots := 0, locals := 76 }
abbrev rm_X5_add0 : Room := { frames := 5, cells := 0, slots := 0, locals := 122 }
abbrev rm_X5_subtract : Room := { frames := 5, cells := 0, slots := 0, locals := 122 }
abbrev rm_X5_isMore : Room := { frames := 4, cells := 0, slots := 0, locals := 98 }
abbrev rm_X5_add : Room := { frames := 0, cells := 0, slots := 0, locals := 0 }
abbrev rm_X5_remove : Room := { frames := 0, cells := 0, slots := 0, locals := 0 }
abbrev rm_X5_countRows : Room := { frames := 0, cells := 0, slots := 0, locals := 0 }
abbrev rm_X5_count : Room := { frames := 1, cells := 0, slots := 0, locals := 24 }
abbrev rm_X5_power : Room := { frames := 0, cells := 0, slots := 0, locals := 0 }
abbrev rm_X5_allOf : Room := { frames := 1, cells := 0, slots := 0, locals := 25 }
abbrev rm_X5_table : Room := { frames := 2, cells := 0, slots := 0, locals := 45 }
abbrev rm_X5_all : Room := { frames := 2, cells := 0, slots := 0, locals := 45 }
abbrev rm_X5_isOut : Room := { frames := 0, cells := 0, slots := 0, locals := 0 }
abbrev rm_X5_weightOf : Room := { frames := 2, cells := 0, slots := 0, locals := 45 }
abbrev rm_X5_weight : Room := { frames := 3, cells := 0, slots := 0, locals := 70 }
abbrev rm_X5_upTo : Room := { frames := 3, cells := 0, slots := 0, locals := 70 }
abbrev rm_X5_drawn : Room := { frames := 3, cells := 0, slots := 0, locals := 70 }
abbrev rm_X5_noCoin : Room := { frames := 2, cells := 0, slots := 0, locals := 45 }
abbrev rm_X5_draw : Room := { frames := 4, cells := 0, slots := 0, locals := 96 }
abbrev rm_X5_isNear : Room := { frames := 3, cells := 0, slots := 0, locals := 70 }
abbrev rm_X5_reaches : Room := { frames := 0, cells := 0, slots := 0, locals := 0 }
abbrev rm_X5_enough : Room := { frames := 1, cells := 0, slots := 0, locals := 27 }
abbrev rm_X5_noCost : Room := { frames := 0, cells := 0, slots := 0, locals := 0 }
abbrev rm_X5_isEnough : Room := { frames := 2, cells := 0, slots := 0, locals := 59 }
abbrev rm_X5_least : Room := { frames := 2, cells := 0, slots := 0, locals := 59 }
abbrev rm_X5_noPart : Room := { frames := 0, cells := 0, slots := 0, locals := 0 }
abbrev rm_X5_budget : Room := { frames := 6, cells := 0, slots := 0, locals := 145 }
abbrev rm_X5_raise : Room := { frames := 6, cells := 0, slots := 0, locals := 145 }
abbrev rm_X5_ask : Room := { frames := 6, cells := 0, slots := 0, locals := 145 }
abbrev rm_X5_limb : Room := { frames := 6, cells := 0, slots := 0, locals := 145 }
abbrev rm_X5_told : Room := { frames := 0, cells := 0, slots := 0, locals := 0 }
def w_X5_lowest (fig : Nat → Int64) (len : Nat → Int32) (top : Nat → Int64) (bel : Nat → Int64) (p0 : Int32) (p1 : Int32) (p2 : Int32) (Q : (Nat → Int64) → (Nat → Int32) → (Nat → Int64) → (Nat → Int64) → Prop) : Prop :=
  vp_in p1 18 ∧
  ((¬ (len p1.toNatClampNeg) = 0 →
    w_X5_divisor fig len top p1 p2 (fun (fig_1 : Nat → Int64) (len_2 : Nat → Int32) (top_3 : Nat → Int64) =>
    w_X5_copy fig_1 len_2 (16 : Int32) p1 (fun (fig_4 : Nat → Int64) (len_5 : Nat → Int32) =>
    w_X5_copy fig_4 len_5 (17 : Int32) p2 (fun (fig_6 : Nat → Int64) (len_7 : Nat → Int32) =>
    w_X5_divide fig_6 len_7 top_3 bel (12 : Int32) (13 : Int32) (16 : Int32) (10 : Int32) (fun (fig_8 : Nat → Int64) (len_9 : Nat → Int32) (top_10 : Nat → Int64) (bel_11 : Nat → Int64) =>
    w_X5_copy fig_8 len_9 (2 * p0) (12 : Int32) (fun (fig_12 : Nat → Int64) (len_13 : Nat → Int32) =>
    w_X5_divide fig_12 len_13 top_10 bel_11 (12 : Int32) (13 : Int32) (17 : Int32) (10 : Int32) (fun (fig_14 : Nat → Int64) (len_15 : Nat → Int32) (top_16 : Nat → Int64) (bel_17 : Nat → Int64) =>
    ∀ (v_18 : Int32), v_18 = (2 * p0) + 1 →
    w_X5_copy fig_14 len_15 v_18 (12 : Int32) (fun (fig_19 : Nat → Int64) (len_20 : Nat → Int32) =>
    Q fig_19 len_20 top_16 bel_17)))))))
   ) ∧ ((len p1.toNatClampNeg) = 0 →
    vp_in (2 * p0) 18 ∧
    ∀ (len_21 : Nat → Int32), len_21 = upd len (2 * p0).toNatClampNeg 0 →
    ∀ (v_22 : Int32), v_22 = (2 * p0) + 1 →
    w_X5_put fig len_21 v_22 (1 : Int64) (fun (fig_23 : Nat → Int64) (len_24 : Nat → Int32) =>
    Q fig_23 len_24 top bel)
   ))

def w_X5_set (fig : Nat → Int64) (len : Nat → Int32) (top : Nat → Int64) (bel : Nat → Int64) (p0 : Int32) (p1 : Int32) (p2 : Int32) (Q : (Nat → Int64) → (Nat → Int32) → (Nat → Int64) → (Nat → Int64) → Prop) : Prop :=
  w_X5_put fig len (14 : Int32) p1.toInt64 (fun (fig_1 : Nat → Int64) (len_2 : Nat → Int32) =>
  w_X5_put fig_1 len_2 (15 : Int32) p2.toInt64 (fun (fig_3 : Nat → Int64) (len_4 : Nat → Int32) =>
  w_X5_lowest fig_3 len_4 top bel p0 (14 : Int32) (15 : Int32) (fun (fig_5 : Nat → Int64) (len_6 : Nat → Int32) (top_7 : Nat → Int64) (bel_8 : Nat → Int64) =>
  Q fig_5 len_6 top_7 bel_8)))

def w_X5_cross (fig : Nat → Int64) (len : Nat → Int32) (top : Nat → Int64) (p0 : Int32) (p1 : Int32) (Q : (Nat → Int64) → (Nat → Int32) → (Nat → Int64) → Prop) : Prop :=
  ∀ (v_1 : Int32), v_1 = (2 * p1) + 1 →
  w_X5_times fig len top (14 : Int32) (2 * p0) v_1 (fun (fig_2 : Nat → Int64) (len_3 : Nat → Int32) (top_4 : Nat → Int64) =>
  ∀ (v_5 : Int32), v_5 = (2 * p0) + 1 →
  w_X5_times fig_2 len_3 top_4 (16 : Int32) (2 * p1) v_5 (fun (fig_6 : Nat → Int64) (len_7 : Nat → Int32) (top_8 : Nat → Int64) =>
  ∀ (v_9 : Int32), v_9 = (2 * p0) + 1 →
  ∀ (v_10 : Int32), v_10 = (2 * p1) + 1 →
  w_X5_times fig_6 len_7 top_8 (15 : Int32) v_9 v_10 (fun (fig_11 : Nat → Int64) (len_12 : Nat → Int32) (top_13 : Nat → Int64) =>
  Q fig_11 len_12 top_13)))

def w_X5_add0 (fig : Nat → Int64) (len : Nat → Int32) (top : Nat → Int64) (bel : Nat → Int64) (p0 : Int32) (p1 : Int32) (p2 : Int32) (Q : (Nat → Int64) → (Nat → Int32) → (Nat → Int64) → (Nat → Int64) → Prop) : Prop :=
  w_X5_cross fig len top p1 p2 (fun (fig_1 : Nat → Int64) (len_2 : Nat → Int32) (top_3 : Nat → Int64) =>
  w_X5_plus fig_1 len_2 top_3 (17 : Int32) (14 : Int32) (16 : Int32) (fun (fig_4 : Nat → Int64) (len_5 : Nat → Int32) (top_6 : Nat → Int64) =>
  w_X5_copy fig_4 len_5 (14 : Int32) (17 : Int32) (fun (fig_7 : Nat → Int64) (len_8 : Nat → Int32) =>
  w_X5_lowest fig_7 len_8 top_6 bel p0 (14 : Int32) (15 : Int32) (fun (fig_9 : Nat → Int64) (len_10 : Nat → Int32) (top_11 : Nat → Int64) (bel_12 : Nat → Int64) =>
  Q fig_9 len_10 top_11 bel_12))))

def w_X5_subtract (fig : Nat → Int64) (len : Nat → Int32) (top : Nat → Int64) (bel : Nat → Int64) (p0 : Int32) (p1 : Int32) (p2 : Int32) (Q : (Nat → Int64) → (Nat → Int32) → (Nat → Int64) → (Nat → Int64) → Prop) : Prop :=
  w_X5_cross fig len top p1 p2 (fun (fig_1 : Nat → Int64) (len_2 : Nat → Int32) (top_3 : Nat → Int64) =>
  w_X5_minus fig_1 len_2 top_3 (17 : Int32) (14 : Int32) (16 : Int32) (fun (fig_4 : Nat → Int64) (len_5 : Nat → Int32) (top_6 : Nat → Int64) =>
  w_X5_copy fig_4 len_5 (14 : Int32) (17 : Int32) (fun (fig_7 : Nat → Int64) (len_8 : Nat → Int32) =>
  w_X5_lowest fig_7 len_8 top_6 bel p0 (14 : Int32) (15 : Int32) (fun (fig_9 : Nat → Int64) (len_10 : Nat → Int32) (top_11 : Nat → Int64) (bel_12 : Nat → Int64) =>
  Q fig_9 len_10 top_11 bel_12))))

def w_X5_isMore (fig : Nat → Int64) (len : Nat → Int32) (top : Nat → Int64) (p0 : Int32) (p1 : Int32) (Q : Int32 → (Nat → Int64) → (Nat → Int32) → (Nat → Int64) → Prop) : Prop :=
  w_X5_cross fig len top p0 p1 (fun (fig_1 : Nat → Int64) (len_2 : Nat → Int32) (top_3 : Nat → Int64) =>
  w_X5_compare fig_1 len_2 (14 : Int32) (16 : Int32) (fun (r_4 : Int32) =>
  ((r_4 ≤ 0 →
    Q (0 : Int32) fig_1 len_2 top_3
   ) ∧ (¬ r_4 ≤ 0 →
    Q (1 : Int32) fig_1 len_2 top_3
   ))))

def w_X5_add (mrow : Nat → Int32) (mrs : Int32) (thr : Int32) (p0 : Int32) (Q : Int32 → (Nat → Int32) → Int32 → Int32 → Prop) : Prop :=
  ((¬ mrs = 60 →
    vp_in mrs 60 ∧
    ∀ (mrow_1 : Nat → Int32), mrow_1 = upd mrow mrs.toNatClampNeg p0 →
    ∀ (mrs_2 : Int32), mrs_2 = mrs + 1 →
    Q (mrs_2 - 1) mrow_1 mrs_2 0
   ) ∧ (mrs = 60 →
    Q ((-1) : Int32) mrow mrs 0
   ))

def w_X5_remove (mrow : Nat → Int32) (mrs : Int32) (thr : Int32) (p0 : Int32) (Q : Int32 → (Nat → Int32) → Int32 → Int32 → Prop) : Prop :=
  ∃ (J18_2 : Int32 → Prop), (
    ((p0 < 0 →
      J18_2 1
     ) ∧ (¬ p0 < 0 →
      ((p0 < mrs →
        J18_2 0
       ) ∧ (¬ p0 < mrs →
        J18_2 1
       ))
     ))
   ) ∧ (∀ (t_1 : Int32), J18_2 t_1 →
    ((t_1 ≤ 0 →
      vp_in p0 60 ∧
      ∀ (i2_5 : Int32), i2_5 = mrow p0.toNatClampNeg →
      ∀ (mrs_6 : Int32), mrs_6 = mrs - 1 →
      ∃ (I49_9 : Int32 → (Nat → Int32) → Prop) (μ49_9 : Int32 → (Nat → Int32) → Nat), I49_9 p0 mrow ∧ ∀ (i3_7 : Int32) (mrow_8 : Nat → Int32), I49_9 i3_7 mrow_8 →
        ((mrs_6 ≤ i3_7 →
          Q i2_5 mrow_8 mrs_6 t_1
         ) ∧ (¬ mrs_6 ≤ i3_7 →
          vp_in (i3_7 + 1) 60 ∧
          vp_in i3_7 60 ∧
          ∀ (mrow_10 : Nat → Int32), mrow_10 = upd mrow_8 i3_7.toNatClampNeg (mrow_8 (i3_7 + 1).toNatClampNeg) →
          ∀ (i3_11 : Int32), i3_11 = i3_7 + 1 →
          I49_9 i3_11 mrow_10 ∧ μ49_9 i3_11 mrow_10 < μ49_9 i3_7 mrow_8
         ))
     ) ∧ (¬ t_1 ≤ 0 →
      Q (0 : Int32) mrow mrs t_1
     ))
   )

def w_X5_countRows (mrow : Nat → Int32) (mrs : Int32) (p0 : Int32) (p1 : Int32) (Q : Int32 → Prop) : Prop :=
  ∃ (I5_3 : Int32 → Int32 → Prop) (μ5_3 : Int32 → Int32 → Nat), I5_3 (0 : Int32) (0 : Int32) ∧ ∀ (i4_1 : Int32) (i3_2 : Int32), I5_3 i4_1 i3_2 →
    ((mrs ≤ i4_1 →
      Q i3_2
     ) ∧ (¬ mrs ≤ i4_1 →
      vp_in i4_1 60 ∧
      (((mrow i4_1.toNatClampNeg) < p0 →
        ∀ (i3_4 : Int32), i3_4 = i3_2 + 0 →
        ∀ (i4_5 : Int32), i4_5 = i4_1 + 1 →
        I5_3 i4_5 i3_4 ∧ μ5_3 i4_5 i3_4 < μ5_3 i4_1 i3_2
       ) ∧ (¬ (mrow i4_1.toNatClampNeg) < p0 →
        vp_in i4_1 60 ∧
        ((p1 < (mrow i4_1.toNatClampNeg) →
          ∀ (i3_6 : Int32), i3_6 = i3_2 + 0 →
          ∀ (i4_7 : Int32), i4_7 = i4_1 + 1 →
          I5_3 i4_7 i3_6 ∧ μ5_3 i4_7 i3_6 < μ5_3 i4_1 i3_2
         ) ∧ (¬ p1 < (mrow i4_1.toNatClampNeg) →
          ∀ (i3_8 : Int32), i3_8 = i3_2 + 1 →
          ∀ (i4_9 : Int32), i4_9 = i4_1 + 1 →
          I5_3 i4_9 i3_8 ∧ μ5_3 i4_9 i3_8 < μ5_3 i4_1 i3_2
         ))
       ))
     ))

def w_X5_count (mrow : Nat → Int32) (mrs : Int32) (thr : Int32) (p0 : Int32) (p1 : Int32) (Q : Int32 → Int32 → Prop) : Prop :=
  w_X5_countRows mrow mrs p0 p1 (fun (r_1 : Int32) =>
  Q r_1 0)

def w_X5_power (p0 : Int64) (p1 : Int32) (Q : Int64 → Prop) : Prop :=
  ∃ (I5_3 : Int32 → Int64 → Prop) (μ5_3 : Int32 → Int64 → Nat), I5_3 (0 : Int32) (1 : Int64) ∧ ∀ (i5_1 : Int32) (i3_2 : Int64), I5_3 i5_1 i3_2 →
    ((p1 ≤ i5_1 →
      Q i3_2
     ) ∧ (¬ p1 ≤ i5_1 →
      ∀ (i3_4 : Int64), i3_4 = i3_2 * p0 →
      ∀ (i5_5 : Int32), i5_5 = i5_1 + 1 →
      I5_3 i5_5 i3_4 ∧ μ5_3 i5_5 i3_4 < μ5_3 i5_1 i3_2
     ))

def w_X5_allOf (ma : Int32) (mb : Int32) (mlo : Int32) (mhi : Int32) (Q : Int64 → Prop) : Prop :=
  w_X5_power mb.toInt64 (mhi - mlo) (fun (r_1 : Int64) =>
  ∀ (v_2 : Int64), v_2 = ((ma + mb).toInt64) * r_1 →
  Q v_2)

def w_X5_table (ma : Int32) (mb : Int32) (mlo : Int32) (mhi : Int32) (thr : Int32) (p0 : Int32) (p1 : Int32) (p2 : Int32) (p3 : Int32) (Q : Int64 → Int32 → Int32 → Int32 → Int32 → Int32 → Prop) : Prop :=
  ∃ (J51_2 : Int32 → Prop), (
    ((p0 < 1 →
      J51_2 0
     ) ∧ (¬ p0 < 1 →
      ((p1 ≤ p0 →
        J51_2 0
       ) ∧ (¬ p1 ≤ p0 →
        ((10 < p1 →
          J51_2 0
         ) ∧ (¬ 10 < p1 →
          ((p2 < (-1000) →
            J51_2 0
           ) ∧ (¬ p2 < (-1000) →
            ((1000 < p3 →
              J51_2 0
             ) ∧ (¬ 1000 < p3 →
              ((p3 < p2 →
                J51_2 0
               ) ∧ (¬ p3 < p2 →
                ((14 < (p3 - p2) →
                  J51_2 0
                 ) ∧ (¬ 14 < (p3 - p2) →
                  J51_2 1
                 ))
               ))
             ))
           ))
         ))
       ))
     ))
   ) ∧ (∀ (t_1 : Int32), J51_2 t_1 →
    ∃ (J64_11 : Int32 → Prop), (
      ((t_1 = 0 →
        J64_11 1
       ) ∧ (¬ t_1 = 0 →
        J64_11 0
       ))
     ) ∧ (∀ (t_10 : Int32), J64_11 t_10 →
      ((¬ t_1 = 0 →
        w_X5_allOf p0 p1 p2 p3 (fun (r_13 : Int64) =>
        Q r_13 p0 p1 p2 p3 t_10)
       ) ∧ (t_1 = 0 →
        Q (0 : Int64) ma mb mlo mhi t_10
       ))
     )
   )

def w_X5_all (ma : Int32) (mb : Int32) (mlo : Int32) (mhi : Int32) (thr : Int32) (Q : Int64 → Int32 → Prop) : Prop :=
  w_X5_allOf ma mb mlo mhi (fun (r_1 : Int64) =>
  Q r_1 0)

def w_X5_isOut (mlo : Int32) (mhi : Int32) (p0 : Int32) (Q : Int32 → Prop) : Prop :=
  ((p0 < mlo →
    Q (1 : Int32)
   ) ∧ (¬ p0 < mlo →
    ((p0 ≤ mhi →
      Q (0 : Int32)
     ) ∧ (¬ p0 ≤ mhi →
      Q (1 : Int32)
     ))
   ))

def w_X5_weightOf (ma : Int32) (mb : Int32) (mlo : Int32) (mhi : Int32) (p0 : Int32) (p1 : Int32) (Q : Int64 → Prop) : Prop :=
  w_X5_isOut mlo mhi p0 (fun (r_1 : Int32) =>
  ((¬ r_1 = 0 →
    Q (0 : Int64)
   ) ∧ (r_1 = 0 →
    w_X5_isOut mlo mhi p1 (fun (r_2 : Int32) =>
    ((r_2 = 0 →
      ((¬ mlo = mhi →
        ∀ (i3_3 : Int32), i3_3 = mhi - mlo →
        ∃ (J58_5 : Int32 → Prop), (
          ((p1 ≤ p0 →
            J58_5 (p0 - p1)
           ) ∧ (¬ p1 ≤ p0 →
            J58_5 (p1 - p0)
           ))
         ) ∧ (∀ (t_4 : Int32), J58_5 t_4 →
          ∃ (J81_8 : Int32 → Prop), (
            ((p1 = mlo →
              J81_8 1
             ) ∧ (¬ p1 = mlo →
              ((¬ p1 = mhi →
                J81_8 0
               ) ∧ (p1 = mhi →
                J81_8 1
               ))
             ))
           ) ∧ (∀ (t_7 : Int32), J81_8 t_7 →
            ((t_7 = 0 →
              w_X5_power mb.toInt64 (i3_3 - t_4) (fun (r_11 : Int64) =>
              ∀ (v_12 : Int64), v_12 = ((mb - ma).toInt64) * r_11 →
              w_X5_power ma.toInt64 t_4 (fun (r_13 : Int64) =>
              Q (v_12 * r_13)))
             ) ∧ (¬ t_7 = 0 →
              ∀ (v_14 : Int32), v_14 = (i3_3 + 1) - t_4 →
              w_X5_power mb.toInt64 v_14 (fun (r_15 : Int64) =>
              w_X5_power ma.toInt64 t_4 (fun (r_16 : Int64) =>
              Q (r_15 * r_16)))
             ))
           )
         )
       ) ∧ (mlo = mhi →
        w_X5_allOf ma mb mlo mhi (fun (r_18 : Int64) =>
        Q r_18)
       ))
     ) ∧ (¬ r_2 = 0 →
      Q (0 : Int64)
     )))
   )))

def w_X5_weight (ma : Int32) (mb : Int32) (mlo : Int32) (mhi : Int32) (thr : Int32) (p0 : Int32) (p1 : Int32) (Q : Int64 → Int32 → Prop) : Prop :=
  w_X5_weightOf ma mb mlo mhi p0 p1 (fun (r_1 : Int64) =>
  Q r_1 0)

def w_X5_upTo (ma : Int32) (mb : Int32) (mlo : Int32) (mhi : Int32) (thr : Int32) (p0 : Int32) (p1 : Int32) (Q : Int64 → Int32 → Prop) : Prop :=
  ∃ (I13_3 : Int32 → Int64 → Prop) (μ13_3 : Int32 → Int64 → Nat), I13_3 mlo (0 : Int64) ∧ ∀ (i5_1 : Int32) (i3_2 : Int64), I13_3 i5_1 i3_2 →
    ((mhi < i5_1 →
      Q i3_2 0
     ) ∧ (¬ mhi < i5_1 →
      ((p1 < i5_1 →
        Q i3_2 0
       ) ∧ (¬ p1 < i5_1 →
        w_X5_weightOf ma mb mlo mhi p0 i5_1 (fun (r_4 : Int64) =>
        ∀ (i3_5 : Int64), i3_5 = i3_2 + r_4 →
        ∀ (i5_6 : Int32), i5_6 = i5_1 + 1 →
        I13_3 i5_6 i3_5 ∧ μ13_3 i5_6 i3_5 < μ13_3 i5_1 i3_2)
       ))
     ))

def w_X5_drawn (ma : Int32) (mb : Int32) (mlo : Int32) (mhi : Int32) (p0 : Int32) (p1 : Int64) (Q : Int32 → Prop) : Prop :=
  w_X5_weightOf ma mb mlo mhi p0 mlo (fun (r_1 : Int64) =>
  ∃ (I15_4 : Int64 → Int32 → Prop) (μ15_4 : Int64 → Int32 → Nat), I15_4 r_1 mlo ∧ ∀ (i5_2 : Int64) (i4_3 : Int32), I15_4 i5_2 i4_3 →
    ((p1 < i5_2 →
      Q i4_3
     ) ∧ (¬ p1 < i5_2 →
      ∀ (i4_5 : Int32), i4_5 = i4_3 + 1 →
      w_X5_weightOf ma mb mlo mhi p0 i4_5 (fun (r_6 : Int64) =>
      ∀ (i5_7 : Int64), i5_7 = i5_2 + r_6 →
      I15_4 i5_7 i4_5 ∧ μ15_4 i5_7 i4_5 < μ15_4 i5_2 i4_3)
     )))

def w_X5_noCoin (ma : Int32) (mb : Int32) (mlo : Int32) (mhi : Int32) (p0 : Int64) (Q : Int32 → Prop) : Prop :=
  ((p0 < 0 →
    Q (1 : Int32)
   ) ∧ (¬ p0 < 0 →
    w_X5_allOf ma mb mlo mhi (fun (r_1 : Int64) =>
    ((p0 < r_1 →
      Q (0 : Int32)
     ) ∧ (¬ p0 < r_1 →
      Q (1 : Int32)
     )))
   ))

def w_X5_draw (ma : Int32) (mb : Int32) (mlo : Int32) (mhi : Int32) (thr : Int32) (p0 : Int32) (p1 : Int64) (Q : Int32 → Int32 → Prop) : Prop :=
  w_X5_isOut mlo mhi p0 (fun (r_1 : Int32) =>
  ∃ (J22_3 : Int32 → Prop), (
    ((¬ r_1 = 0 →
      J22_3 1
     ) ∧ (r_1 = 0 →
      w_X5_noCoin ma mb mlo mhi p1 (fun (r_4 : Int32) =>
      ((r_4 = 0 →
        J22_3 0
       ) ∧ (¬ r_4 = 0 →
        J22_3 1
       )))
     ))
   ) ∧ (∀ (t_2 : Int32), J22_3 t_2 →
    ((t_2 ≤ 0 →
      w_X5_drawn ma mb mlo mhi p0 p1 (fun (r_7 : Int32) =>
      Q r_7 t_2)
     ) ∧ (¬ t_2 ≤ 0 →
      Q (0 : Int32) t_2
     ))
   ))

def w_X5_isNear (ma : Int32) (mb : Int32) (mlo : Int32) (mhi : Int32) (thr : Int32) (p0 : Int32) (p1 : Int32) (Q : Int32 → Int32 → Prop) : Prop :=
  w_X5_isOut mlo mhi p0 (fun (r_1 : Int32) =>
  ∃ (J22_3 : Int32 → Prop), (
    ((¬ r_1 = 0 →
      J22_3 1
     ) ∧ (r_1 = 0 →
      w_X5_isOut mlo mhi p1 (fun (r_4 : Int32) =>
      ((r_4 = 0 →
        J22_3 0
       ) ∧ (¬ r_4 = 0 →
        J22_3 1
       )))
     ))
   ) ∧ (∀ (t_2 : Int32), J22_3 t_2 →
    ∃ (J37_8 : Int32 → Prop), (
      ((¬ t_2 = 0 →
        J37_8 0
       ) ∧ (t_2 = 0 →
        J37_8 1
       ))
     ) ∧ (∀ (t_7 : Int32), J37_8 t_7 →
      ∃ (I44_12 : Int32 → Int32 → Prop) (μ44_12 : Int32 → Int32 → Nat), I44_12 mlo t_7 ∧ ∀ (i4_10 : Int32) (i3_11 : Int32), I44_12 i4_10 i3_11 →
        ((mhi < i4_10 →
          wB i3_11 ∧ Q i3_11 t_2
         ) ∧ (¬ mhi < i4_10 →
          ((i3_11 = 0 →
            wB i3_11 ∧ Q i3_11 t_2
           ) ∧ (¬ i3_11 = 0 →
            w_X5_weightOf ma mb mlo mhi p0 i4_10 (fun (r_13 : Int64) =>
            w_X5_weightOf ma mb mlo mhi p1 i4_10 (fun (r_14 : Int64) =>
            (((r_14 * mb.toInt64) < (r_13 * ma.toInt64) →
              ∀ (i4_15 : Int32), i4_15 = i4_10 + 1 →
              I44_12 i4_15 0 ∧ μ44_12 i4_15 0 < μ44_12 i4_10 i3_11
             ) ∧ (¬ (r_14 * mb.toInt64) < (r_13 * ma.toInt64) →
              ∀ (i4_16 : Int32), i4_16 = i4_10 + 1 →
              I44_12 i4_16 1 ∧ μ44_12 i4_16 1 < μ44_12 i4_10 i3_11
             ))))
           ))
         ))
     )
   ))

def w_X5_reaches (ma : Int32) (mb : Int32) (who : Nat → Int32) (Q : Int32 → Prop) : Prop :=
  ∃ (I7_4 : Int32 → Int64 → Int64 → Prop) (μ7_4 : Int32 → Int64 → Int64 → Nat), I7_4 (0 : Int32) (0 : Int64) (0 : Int64) ∧ ∀ (i5_1 : Int32) (i3_2 : Int64) (i1_3 : Int64), I7_4 i5_1 i3_2 i1_3 →
    ((10 ≤ i5_1 →
      ((i3_2 < mb.toInt64 →
        Q (0 : Int32)
       ) ∧ (¬ i3_2 < mb.toInt64 →
        Q (1 : Int32)
       ))
     ) ∧ (¬ 10 ≤ i5_1 →
      vp_in i5_1 10 ∧
      ∀ (v_6 : Int64), v_6 = ma.toInt64 * ((who i5_1.toNatClampNeg).toInt64) →
      ∀ (i6_7 : Int64), i6_7 = v_6 + i1_3 →
      ∀ (i1_8 : Int64), i1_8 = i6_7 >>> ((16 : Int32).toInt64 &&& 63) →
      ((¬ i5_1 = 8 →
        ∀ (i5_9 : Int32), i5_9 = i5_1 + 1 →
        I7_4 i5_9 i3_2 i1_8 ∧ μ7_4 i5_9 i3_2 i1_8 < μ7_4 i5_1 i3_2 i1_3
       ) ∧ (i5_1 = 8 →
        ∀ (i3_10 : Int64), i3_10 = i6_7 &&& 65535 →
        ∀ (i5_11 : Int32), i5_11 = i5_1 + 1 →
        I7_4 i5_11 i3_10 i1_8 ∧ μ7_4 i5_11 i3_10 i1_8 < μ7_4 i5_1 i3_2 i1_3
       ))
     ))

def w_X5_enough (ma : Int32) (mb : Int32) (trm : Nat → Int32) (who : Nat → Int32) (p0 : Int32) (p1 : Int32) (Q : Int32 → (Nat → Int32) → (Nat → Int32) → Prop) : Prop :=
  ((p0 < (3 * p1) →
    ∃ (I11_4 : Int32 → (Nat → Int32) → (Nat → Int32) → Prop) (μ11_4 : Int32 → (Nat → Int32) → (Nat → Int32) → Nat), I11_4 (0 : Int32) trm who ∧ ∀ (i3_1 : Int32) (trm_2 : Nat → Int32) (who_3 : Nat → Int32), I11_4 i3_1 trm_2 who_3 →
      ((10 ≤ i3_1 →
        ∃ (I52_9 : Int32 → Int32 → (Nat → Int32) → (Nat → Int32) → Prop) (μ52_9 : Int32 → Int32 → (Nat → Int32) → (Nat → Int32) → Nat), I52_9 (1 : Int32) (1 : Int32) trm_2 who_3 ∧ ∀ (i4_5 : Int32) (i3_6 : Int32) (trm_7 : Nat → Int32) (who_8 : Nat → Int32), I52_9 i4_5 i3_6 trm_7 who_8 →
          ((i3_6 = 0 →
            w_X5_reaches ma mb who_8 (fun (r_10 : Int32) =>
            Q r_10 trm_7 who_8)
           ) ∧ (¬ i3_6 = 0 →
            ∃ (I62_14 : Int32 → Int32 → (Nat → Int32) → Prop) (μ62_14 : Int32 → Int32 → (Nat → Int32) → Nat), I62_14 (0 : Int32) (0 : Int32) who_8 ∧ ∀ (i6_11 : Int32) (i5_12 : Int32) (who_13 : Nat → Int32), I62_14 i6_11 i5_12 who_13 →
              ((10 ≤ i6_11 →
                ∃ (I120_18 : Int32 → Int64 → (Nat → Int32) → Prop) (μ120_18 : Int32 → Int64 → (Nat → Int32) → Nat), I120_18 (0 : Int32) (0 : Int64) trm_7 ∧ ∀ (i8_15 : Int32) (i6_16 : Int64) (trm_17 : Nat → Int32), I120_18 i8_15 i6_16 trm_17 →
                  ((10 ≤ i8_15 →
                    ∃ (I180_23 : Int32 → Int32 → Int64 → (Nat → Int32) → Prop) (μ180_23 : Int32 → Int32 → Int64 → (Nat → Int32) → Nat), I180_23 (9 : Int32) (0 : Int32) i6_16 trm_17 ∧ ∀ (i10_19 : Int32) (i3_20 : Int32) (i8_21 : Int64) (trm_22 : Nat → Int32), I180_23 i10_19 i3_20 i8_21 trm_22 →
                      ((i10_19 < 0 →
                        ∀ (i4_24 : Int32), i4_24 = i4_5 + 1 →
                        I52_9 i4_24 i3_20 trm_22 who_13 ∧ μ52_9 i4_24 i3_20 trm_22 who_13 < μ52_9 i4_5 i3_6 trm_7 who_8
                       ) ∧ (¬ i10_19 < 0 →
                        vp_in i10_19 10 ∧
                        ∀ (v_25 : Int64), v_25 = (i8_21 * 65536) + ((trm_22 i10_19.toNatClampNeg).toInt64) →
                        ∀ (v_26 : Int64), v_26 = p1.toInt64 * i4_5.toInt64 →
                        ¬ v_26 = 0 ∧
                        ∀ (v_27 : Int64), v_27 = v_25 / v_26 →
                        vp_in i10_19 10 ∧
                        ∀ (trm_28 : Nat → Int32), trm_28 = upd trm_22 i10_19.toNatClampNeg v_27.toInt32 →
                        ∀ (v_29 : Int64), v_29 = p1.toInt64 * i4_5.toInt64 →
                        ¬ v_29 = 0 ∧
                        ∀ (v_30 : Int64), v_30 = v_25 - v_25 / v_29 * v_29 →
                        vp_in i10_19 10 ∧
                        (((trm_28 i10_19.toNatClampNeg) = 0 →
                          ∀ (i3_31 : Int32), i3_31 = i3_20 ||| 0 →
                          ∀ (i10_32 : Int32), i10_32 = i10_19 + (-1) →
                          I180_23 i10_32 i3_31 v_30 trm_28 ∧ μ180_23 i10_32 i3_31 v_30 trm_28 < μ180_23 i10_19 i3_20 i8_21 trm_22
                         ) ∧ (¬ (trm_28 i10_19.toNatClampNeg) = 0 →
                          ∀ (i3_33 : Int32), i3_33 = i3_20 ||| 1 →
                          ∀ (i10_34 : Int32), i10_34 = i10_19 + (-1) →
                          I180_23 i10_34 i3_33 v_30 trm_28 ∧ μ180_23 i10_34 i3_33 v_30 trm_28 < μ180_23 i10_19 i3_20 i8_21 trm_22
                         ))
                       ))
                   ) ∧ (¬ 10 ≤ i8_15 →
                    vp_in i8_15 10 ∧
                    ∀ (v_37 : Int64), v_37 = ((trm_17 i8_15.toNatClampNeg).toInt64) * p0.toInt64 →
                    ∀ (i9_38 : Int64), i9_38 = v_37 + i6_16 →
                    vp_in i8_15 10 ∧
                    ∀ (trm_39 : Nat → Int32), trm_39 = upd trm_17 i8_15.toNatClampNeg ((i9_38 &&& 65535).toInt32) →
                    ∀ (i6_40 : Int64), i6_40 = i9_38 >>> ((16 : Int32).toInt64 &&& 63) →
                    ∀ (i8_41 : Int32), i8_41 = i8_15 + 1 →
                    I120_18 i8_41 i6_40 trm_39 ∧ μ120_18 i8_41 i6_40 trm_39 < μ120_18 i8_15 i6_16 trm_17
                   ))
               ) ∧ (¬ 10 ≤ i6_11 →
                vp_in i6_11 10 ∧
                vp_in i6_11 10 ∧
                ∀ (v_43 : Int32), v_43 = (who_13 i6_11.toNatClampNeg) + (trm_7 i6_11.toNatClampNeg) →
                ∀ (i7_44 : Int32), i7_44 = v_43 + i5_12 →
                vp_in i6_11 10 ∧
                ∀ (who_45 : Nat → Int32), who_45 = upd who_13 i6_11.toNatClampNeg (i7_44 &&& 65535) →
                ∀ (i5_46 : Int32), i5_46 = i7_44 >>> ((16 : Int32) &&& 31) →
                ∀ (i6_47 : Int32), i6_47 = i6_11 + 1 →
                I62_14 i6_47 i5_46 who_45 ∧ μ62_14 i6_47 i5_46 who_45 < μ62_14 i6_11 i5_12 who_13
               ))
           ))
       ) ∧ (¬ 10 ≤ i3_1 →
        ((¬ i3_1 = 8 →
          vp_in i3_1 10 ∧
          ∀ (trm_50 : Nat → Int32), trm_50 = upd trm_2 i3_1.toNatClampNeg 0 →
          vp_in i3_1 10 ∧
          ∀ (who_51 : Nat → Int32), who_51 = upd who_3 i3_1.toNatClampNeg 0 →
          ∀ (i3_52 : Int32), i3_52 = i3_1 + 1 →
          I11_4 i3_52 trm_50 who_51 ∧ μ11_4 i3_52 trm_50 who_51 < μ11_4 i3_1 trm_2 who_3
         ) ∧ (i3_1 = 8 →
          vp_in i3_1 10 ∧
          ∀ (trm_53 : Nat → Int32), trm_53 = upd trm_2 i3_1.toNatClampNeg 1 →
          vp_in i3_1 10 ∧
          ∀ (who_54 : Nat → Int32), who_54 = upd who_3 i3_1.toNatClampNeg 0 →
          ∀ (i3_55 : Int32), i3_55 = i3_1 + 1 →
          I11_4 i3_55 trm_53 who_54 ∧ μ11_4 i3_55 trm_53 who_54 < μ11_4 i3_1 trm_2 who_3
         ))
       ))
   ) ∧ (¬ p0 < (3 * p1) →
    Q (1 : Int32) trm who
   ))

def w_X5_noCost (p0 : Int32) (p1 : Int32) (Q : Int32 → Prop) : Prop :=
  ((p0 < 0 →
    Q (1 : Int32)
   ) ∧ (¬ p0 < 0 →
    ((3000 < p0 →
      Q (1 : Int32)
     ) ∧ (¬ 3000 < p0 →
      ((p1 < 1 →
        Q (1 : Int32)
       ) ∧ (¬ p1 < 1 →
        ((p1 ≤ 1000 →
          Q (0 : Int32)
         ) ∧ (¬ p1 ≤ 1000 →
          Q (1 : Int32)
         ))
       ))
     ))
   ))

def w_X5_isEnough (ma : Int32) (mb : Int32) (thr : Int32) (trm : Nat → Int32) (who : Nat → Int32) (p0 : Int32) (p1 : Int32) (Q : Int32 → Int32 → (Nat → Int32) → (Nat → Int32) → Prop) : Prop :=
  w_X5_noCost p0 p1 (fun (r_1 : Int32) =>
  ∃ (J14_3 : Int32 → Prop), (
    ((r_1 = 0 →
      J14_3 0
     ) ∧ (¬ r_1 = 0 →
      J14_3 1
     ))
   ) ∧ (∀ (t_2 : Int32), J14_3 t_2 →
    ((¬ t_2 = 0 →
      Q (0 : Int32) t_2 trm who
     ) ∧ (t_2 = 0 →
      w_X5_enough ma mb trm who p0 p1 (fun (r_5 : Int32) (trm_6 : Nat → Int32) (who_7 : Nat → Int32) =>
      ((r_5 = 0 →
        Q (0 : Int32) t_2 trm_6 who_7
       ) ∧ (¬ r_5 = 0 →
        Q (1 : Int32) t_2 trm_6 who_7
       )))
     ))
   ))

def w_X5_least (ma : Int32) (mb : Int32) (thr : Int32) (trm : Nat → Int32) (who : Nat → Int32) (p0 : Int32) (Q : Int32 → Int32 → (Nat → Int32) → (Nat → Int32) → Prop) : Prop :=
  ∃ (J18_2 : Int32 → Prop), (
    ((p0 < 1 →
      J18_2 1
     ) ∧ (¬ p0 < 1 →
      ((p0 ≤ 1000 →
        J18_2 0
       ) ∧ (¬ p0 ≤ 1000 →
        J18_2 1
       ))
     ))
   ) ∧ (∀ (t_1 : Int32), J18_2 t_1 →
    ((t_1 ≤ 0 →
      ∀ (i3_5 : Int32), i3_5 = 3 * p0 →
      ∃ (I36_10 : Int32 → Int32 → (Nat → Int32) → (Nat → Int32) → Prop) (μ36_10 : Int32 → Int32 → (Nat → Int32) → (Nat → Int32) → Nat), I36_10 i3_5 (0 : Int32) trm who ∧ ∀ (i3_6 : Int32) (i2_7 : Int32) (trm_8 : Nat → Int32) (who_9 : Nat → Int32), I36_10 i3_6 i2_7 trm_8 who_9 →
        (((i3_6 - i2_7) ≤ 1 →
          Q i3_6 t_1 trm_8 who_9
         ) ∧ (¬ (i3_6 - i2_7) ≤ 1 →
          ∀ (v_11 : Int32), v_11 = (i2_7 + i3_6) / 2 →
          w_X5_enough ma mb trm_8 who_9 v_11 p0 (fun (r_12 : Int32) (trm_13 : Nat → Int32) (who_14 : Nat → Int32) =>
          ((r_12 = 0 →
            ((r_12 = 0 →
              I36_10 i3_6 v_11 trm_13 who_14 ∧ μ36_10 i3_6 v_11 trm_13 who_14 < μ36_10 i3_6 i2_7 trm_8 who_9
             ) ∧ (¬ r_12 = 0 →
              I36_10 v_11 v_11 trm_13 who_14 ∧ μ36_10 v_11 v_11 trm_13 who_14 < μ36_10 i3_6 i2_7 trm_8 who_9
             ))
           ) ∧ (¬ r_12 = 0 →
            ((r_12 = 0 →
              I36_10 i3_6 i2_7 trm_13 who_14 ∧ μ36_10 i3_6 i2_7 trm_13 who_14 < μ36_10 i3_6 i2_7 trm_8 who_9
             ) ∧ (¬ r_12 = 0 →
              I36_10 v_11 i2_7 trm_13 who_14 ∧ μ36_10 v_11 i2_7 trm_13 who_14 < μ36_10 i3_6 i2_7 trm_8 who_9
             ))
           )))
         ))
     ) ∧ (¬ t_1 ≤ 0 →
      Q (0 : Int32) t_1 trm who
     ))
   )

def w_X5_noPart (p0 : Int32) (p1 : Int32) (Q : Int32 → Prop) : Prop :=
  ((p0 < 0 →
    Q (1 : Int32)
   ) ∧ (¬ p0 < 0 →
    ((p1 < 1 →
      Q (1 : Int32)
     ) ∧ (¬ p1 < 1 →
      ((p1 ≤ 1000 →
        Q (0 : Int32)
       ) ∧ (¬ p1 ≤ 1000 →
        Q (1 : Int32)
       ))
     ))
   ))

def w_X5_budget (man : Int32) (mtl : Int32) (mtm : Int32) (fig : Nat → Int64) (len : Nat → Int32) (top : Nat → Int64) (bel : Nat → Int64) (thr : Int32) (p0 : Int32) (p1 : Int32) (Q : Int32 → Int32 → Int32 → (Nat → Int64) → (Nat → Int32) → (Nat → Int64) → (Nat → Int64) → Int32 → Prop) : Prop :=
  w_X5_noPart p0 p1 (fun (r_1 : Int32) =>
  ∃ (J14_3 : Int32 → Prop), (
    ((r_1 = 0 →
      J14_3 0
     ) ∧ (¬ r_1 = 0 →
      J14_3 1
     ))
   ) ∧ (∀ (t_2 : Int32), J14_3 t_2 →
    ((¬ t_2 = 0 →
      Q man mtl mtm fig len top bel t_2
     ) ∧ (t_2 = 0 →
      w_X5_set fig len top bel (0 : Int32) p0 p1 (fun (fig_5 : Nat → Int64) (len_6 : Nat → Int32) (top_7 : Nat → Int64) (bel_8 : Nat → Int64) =>
      w_X5_set fig_5 len_6 top_7 bel_8 (1 : Int32) (0 : Int32) (1 : Int32) (fun (fig_9 : Nat → Int64) (len_10 : Nat → Int32) (top_11 : Nat → Int64) (bel_12 : Nat → Int64) =>
      Q 0 0 0 fig_9 len_10 top_11 bel_12 t_2))
     ))
   ))

def w_X5_raise (fig : Nat → Int64) (len : Nat → Int32) (top : Nat → Int64) (bel : Nat → Int64) (thr : Int32) (p0 : Int32) (p1 : Int32) (Q : (Nat → Int64) → (Nat → Int32) → (Nat → Int64) → (Nat → Int64) → Int32 → Prop) : Prop :=
  w_X5_noPart p0 p1 (fun (r_1 : Int32) =>
  ∃ (J14_3 : Int32 → Prop), (
    ((r_1 = 0 →
      J14_3 0
     ) ∧ (¬ r_1 = 0 →
      J14_3 1
     ))
   ) ∧ (∀ (t_2 : Int32), J14_3 t_2 →
    ((¬ t_2 = 0 →
      Q fig len top bel t_2
     ) ∧ (t_2 = 0 →
      w_X5_set fig len top bel (2 : Int32) p0 p1 (fun (fig_5 : Nat → Int64) (len_6 : Nat → Int32) (top_7 : Nat → Int64) (bel_8 : Nat → Int64) =>
      w_X5_add0 fig_5 len_6 top_7 bel_8 (3 : Int32) (0 : Int32) (2 : Int32) (fun (fig_9 : Nat → Int64) (len_10 : Nat → Int32) (top_11 : Nat → Int64) (bel_12 : Nat → Int64) =>
      w_X5_copy fig_9 len_10 (0 : Int32) (6 : Int32) (fun (fig_13 : Nat → Int64) (len_14 : Nat → Int32) =>
      w_X5_copy fig_13 len_14 (1 : Int32) (7 : Int32) (fun (fig_15 : Nat → Int64) (len_16 : Nat → Int32) =>
      Q fig_15 len_16 top_11 bel_12 t_2))))
     ))
   ))

def w_X5_ask (mrow : Nat → Int32) (mrs : Int32) (ma : Int32) (mb : Int32) (mlo : Int32) (mhi : Int32) (man : Int32) (mtl : Int32) (mtm : Int32) (fig : Nat → Int64) (len : Nat → Int32) (top : Nat → Int64) (bel : Nat → Int64) (thr : Int32) (trm : Nat → Int32) (who : Nat → Int32) (p0 : Int32) (p1 : Int32) (p2 : Int32) (p3 : Int32) (p4 : Int64) (Q : Int32 → Int32 → Int32 → Int32 → (Nat → Int64) → (Nat → Int32) → (Nat → Int64) → (Nat → Int64) → Int32 → (Nat → Int32) → (Nat → Int32) → Prop) : Prop :=
  w_X5_noCost p2 p3 (fun (r_1 : Int32) =>
  ∃ (J24_3 : Int32 → Prop), (
    ((¬ r_1 = 0 →
      J24_3 1
     ) ∧ (r_1 = 0 →
      w_X5_noCoin ma mb mlo mhi p4 (fun (r_4 : Int32) =>
      ((r_4 = 0 →
        J24_3 0
       ) ∧ (¬ r_4 = 0 →
        J24_3 1
       )))
     ))
   ) ∧ (∀ (t_2 : Int32), J24_3 t_2 →
    ((t_2 ≤ 0 →
      w_X5_enough ma mb trm who p2 p3 (fun (r_7 : Int32) (trm_8 : Nat → Int32) (who_9 : Nat → Int32) =>
      ((¬ r_7 = 0 →
        w_X5_set fig len top bel (2 : Int32) p2 p3 (fun (fig_10 : Nat → Int64) (len_11 : Nat → Int32) (top_12 : Nat → Int64) (bel_13 : Nat → Int64) =>
        w_X5_add0 fig_10 len_11 top_12 bel_13 (3 : Int32) (1 : Int32) (2 : Int32) (fun (fig_14 : Nat → Int64) (len_15 : Nat → Int32) (top_16 : Nat → Int64) (bel_17 : Nat → Int64) =>
        w_X5_isMore fig_14 len_15 top_16 (3 : Int32) (0 : Int32) (fun (r_18 : Int32) (fig_19 : Nat → Int64) (len_20 : Nat → Int32) (top_21 : Nat → Int64) =>
        ((r_18 = 0 →
          w_X5_copy fig_19 len_20 (2 : Int32) (6 : Int32) (fun (fig_22 : Nat → Int64) (len_23 : Nat → Int32) =>
          w_X5_copy fig_22 len_23 (3 : Int32) (7 : Int32) (fun (fig_24 : Nat → Int64) (len_25 : Nat → Int32) =>
          ∀ (man_26 : Int32), man_26 = man + 1 →
          w_X5_countRows mrow mrs p0 p1 (fun (r_27 : Int32) =>
          ((mlo ≤ r_27 →
            ((r_27 ≤ mhi →
              w_X5_drawn ma mb mlo mhi r_27 p4 (fun (r_28 : Int32) =>
              Q r_28 man_26 mtl mtm fig_24 len_25 top_21 bel_17 t_2 trm_8 who_9)
             ) ∧ (¬ r_27 ≤ mhi →
              w_X5_drawn ma mb mlo mhi mhi p4 (fun (r_29 : Int32) =>
              Q r_29 man_26 mtl mtm fig_24 len_25 top_21 bel_17 t_2 trm_8 who_9)
             ))
           ) ∧ (¬ mlo ≤ r_27 →
            w_X5_drawn ma mb mlo mhi mlo p4 (fun (r_31 : Int32) =>
            Q r_31 man_26 mtl mtm fig_24 len_25 top_21 bel_17 t_2 trm_8 who_9)
           )))))
         ) ∧ (¬ r_18 = 0 →
          ∀ (mtm_33 : Int32), mtm_33 = mtm + 1 →
          Q ((-2147483648) : Int32) man mtl mtm_33 fig_19 len_20 top_21 bel_17 t_2 trm_8 who_9
         )))))
       ) ∧ (r_7 = 0 →
        ∀ (mtl_35 : Int32), mtl_35 = mtl + 1 →
        Q ((-2147483648) : Int32) man mtl_35 mtm fig len top bel t_2 trm_8 who_9
       )))
     ) ∧ (¬ t_2 ≤ 0 →
      Q (0 : Int32) man mtl mtm fig len top bel t_2 trm who
     ))
   ))

def w_X5_limb (fig : Nat → Int64) (len : Nat → Int32) (top : Nat → Int64) (bel : Nat → Int64) (thr : Int32) (p0 : Int32) (p1 : Int32) (p2 : Int32) (Q : Int32 → (Nat → Int64) → (Nat → Int32) → (Nat → Int64) → (Nat → Int64) → Int32 → Prop) : Prop :=
  ∃ (J24_2 : Int32 → Prop), (
    ((p0 < 0 →
      J24_2 1
     ) ∧ (¬ p0 < 0 →
      ((2 < p0 →
        J24_2 1
       ) ∧ (¬ 2 < p0 →
        ((p1 < 0 →
          J24_2 1
         ) ∧ (¬ p1 < 0 →
          ((p1 ≤ 1 →
            J24_2 0
           ) ∧ (¬ p1 ≤ 1 →
            J24_2 1
           ))
         ))
       ))
     ))
   ) ∧ (∀ (t_1 : Int32), J24_2 t_1 →
    ((t_1 ≤ 0 →
      ∃ (J48_11 : (Nat → Int64) → (Nat → Int32) → (Nat → Int64) → (Nat → Int64) → Prop), (
        ((¬ p0 = 2 →
          J48_11 fig len top bel
         ) ∧ (p0 = 2 →
          w_X5_subtract fig len top bel (3 : Int32) (0 : Int32) (1 : Int32) (fun (fig_12 : Nat → Int64) (len_13 : Nat → Int32) (top_14 : Nat → Int64) (bel_15 : Nat → Int64) =>
          J48_11 fig_12 len_13 top_14 bel_15)
         ))
       ) ∧ (∀ (fig_7 : Nat → Int64) (len_8 : Nat → Int32) (top_9 : Nat → Int64) (bel_10 : Nat → Int64), J48_11 fig_7 len_8 top_9 bel_10 →
        ∃ (J59_18 : Int32 → Prop), (
          ((¬ p0 = 2 →
            J59_18 p0
           ) ∧ (p0 = 2 →
            J59_18 3
           ))
         ) ∧ (∀ (t_17 : Int32), J59_18 t_17 →
          ∀ (v_20 : Int32), v_20 = (2 * t_17) + p1 →
          ((¬ p2 = (-1) →
            ((p2 < 0 →
              Q ((-1) : Int32) fig_7 len_8 top_9 bel_10 t_1
             ) ∧ (¬ p2 < 0 →
              vp_in v_20 18 ∧
              ((p2 < (len_8 v_20.toNatClampNeg) →
                ∀ (v_21 : Int32), v_21 = (256 * v_20) + p2 →
                vp_in v_21 4608 ∧
                Q ((fig_7 v_21.toNatClampNeg).toInt32) fig_7 len_8 top_9 bel_10 t_1
               ) ∧ (¬ p2 < (len_8 v_20.toNatClampNeg) →
                Q ((-1) : Int32) fig_7 len_8 top_9 bel_10 t_1
               ))
             ))
           ) ∧ (p2 = (-1) →
            vp_in v_20 18 ∧
            Q (len_8 v_20.toNatClampNeg) fig_7 len_8 top_9 bel_10 t_1
           ))
         )
       )
     ) ∧ (¬ t_1 ≤ 0 →
      Q (0 : Int32) fig len top bel t_1
     ))
   )

def w_X5_told (mrs : Int32) (ma : Int32) (mb : Int32) (mlo : Int32) (mhi : Int32) (man : Int32) (mtl : Int32) (mtm : Int32) (thr : Int32) (p0 : Int32) (Q : Int32 → Int32 → Prop) : Prop :=
  ∃ (J16_2 : Int32 → Prop), (
    ((p0 < 0 →
      J16_2 1
     ) ∧ (¬ p0 < 0 →
      ((p0 ≤ 7 →
        J16_2 0
       ) ∧ (¬ p0 ≤ 7 →
        J16_2 1
       ))
     ))
   ) ∧ (∀ (t_1 : Int32), J16_2 t_1 →
    ((t_1 ≤ 0 →
      ((p0 = 0 →
        Q man t_1
       ) ∧ (¬ p0 = 0 →
      ((p0 = 1 →
        Q mtl t_1
       ) ∧ (¬ p0 = 1 →
      ((p0 = 2 →
        Q mtm t_1
       ) ∧ (¬ p0 = 2 →
      ((p0 = 3 →
        Q mrs t_1
       ) ∧ (¬ p0 = 3 →
      ((p0 = 4 →
        Q mlo t_1
       ) ∧ (¬ p0 = 4 →
      ((p0 = 5 →
        Q mhi t_1
       ) ∧ (¬ p0 = 5 →
      ((p0 = 6 →
        Q ma t_1
       ) ∧ (¬ p0 = 6 →
        Q mb t_1
       ))))))))))))))
     ) ∧ (¬ t_1 ≤ 0 →
      Q (0 : Int32) t_1
     ))
   )

theorem fX5_lowest_27 : Cond.fieldLink RX5 27 "PrivateCountsModel" "length" "[I" ∈ wsX5_lowest := by decide +kernel
theorem uX5_lowest_X5 : ∀ w ∈ u_ws RX5 TX5 16, w ∈ wsX5_lowest := by decide +kernel
set_option maxHeartbeats 4000000 in
set_option maxRecDepth 100000 in
theorem M_X5_lowest (l : Launch) (G : va_G) (cI cJ : ClassId) (Ay Bmr Bfg Bln Btp Bbl Btr Bwh : Nat) (mrow : Nat → Int32) (mrs : Int32) (ma : Int32) (mb : Int32) (mlo : Int32) (mhi : Int32) (man : Int32) (mtl : Int32) (mtm : Int32) (fig : Nat → Int64) (len : Nat → Int32) (top : Nat → Int64) (bel : Nat → Int64) (thr : Int32) (trm : Nat → Int32) (who : Nat → Int32) (p0 : Int32) (p1 : Int32) (p2 : Int32) (Q : (Nat → Int64) → (Nat → Int32) → (Nat → Int64) → (Nat → Int64) → Prop) (hw : w_X5_lowest fig len top bel p0 p1 p2 Q) : Kv l yX5_lowest wsX5_lowest rm_X5_lowest G cI cJ [.ref Ay, .int p0, .int p1, .int p2] (wX5 cI cJ Ay Bmr Bfg Bln Btp Bbl Btr Bwh mrow mrs ma mb mlo mhi man mtl mtm fig len top bel thr trm who) (fun (u : (Nat → Int64) × (Nat → Int32) × (Nat → Int64) × (Nat → Int64)) => Q u.1 u.2.1 u.2.2.1 u.2.2.2) (fun u => (wX5 cI cJ Ay Bmr Bfg Bln Btp Bbl Btr Bwh mrow mrs ma mb mlo mhi man mtl mtm u.1 u.2.1 u.2.2.1 u.2.2.2 thr trm who)) := by
  refine kv_intro (cc := cX5_lowest) (maxL := 4) rfl rfl (by decide) rfl (Nat.le_of_ble_eq_true rfl) ?_
  intro p e s m args below meth c A Z ls hx hb hml hts hown hP hK hD hS hA hl hret
  have hl : lv_has ls 4 [(0, .ref Ay), (1, .int p0), (2, .int p1), (3, .int p2)] := hl
  unfold w_X5_lowest at hw
  refine lv_aload_n hx hb dX5_lowest_0 rfl (lv_at hl 0 rfl) ?_
  refine k_get hx hb hts uX5_lowest_X5 hown hK hP 0 5 rfl rfl 10 (by decide) fX5_lowest_27 (.ref Bln) rfl dX5_lowest_1 ?_
  refine lv_iload_n hx hb dX5_lowest_4 rfl (lv_at hl 2 rfl) ?_
  obtain ⟨hin, hw⟩ := hw
  refine k_iald hx hb hK hP 3 rfl hin dX5_lowest_5 ?_
  refine lv_if_ne (tgt := 29) hx hb dX5_lowest_6 (by decide) (fun c_25 => ?_) (fun c_25 => ?_)
  · have hw := hw.1 c_25
    refine lv_aload_n hx hb dX5_lowest_29 rfl (lv_at hl 0 rfl) ?_
    refine lv_iload_n hx hb dX5_lowest_30 rfl (lv_at hl 2 rfl) ?_
    refine lv_iload_n hx hb dX5_lowest_31 rfl (lv_at hl 3 rfl) ?_
    refine k_Vv (M_X5_divisor l G cI cJ Ay Bmr Bfg Bln Btp Bbl Btr Bwh mrow mrs ma mb mlo mhi man mtl mtm fig len top bel thr trm who p1 p2 _ hw) ⟨hx, hb, hml, hown, hts⟩ (cwV 2 hts gX5_lowest_X5_divisor rfl rfl rfl (by decide +kernel) ⟨Nat.le_of_ble_eq_true rfl, Nat.le_of_ble_eq_true rfl⟩) hK hP hD hS hA [0, 1, 2, 3, 4, 5, 6, 7] [] [0, 1, 2, 3, 4, 5, 6, 7] (wr := []) (wn := fun u : (Nat → Int64) × (Nat → Int32) × (Nat → Int64) => (wX5 cI cJ Ay Bmr Bfg Bln Btp Bbl Btr Bwh mrow mrs ma mb mlo mhi man mtl mtm u.1 u.2.1 u.2.2 bel thr trm who)) rfl rfl (by decide) (by decide) (by decide) (by decide) (fun _ => rfl) (rest := []) (q0 := 0) rfl rfl rfl hl.1 rfl (Nat.le_of_ble_eq_true rfl) (Nat.zero_le _) (Nat.zero_le _) dX5_lowest_32 (fun u H locs hw hP hD hS => ?_)
    obtain ⟨fig_1, len_2, top_3⟩ := u
    have hP : va_P G vwCl (wX5 cI cJ Ay Bmr Bfg Bln Btp Bbl Btr Bwh mrow mrs ma mb mlo mhi man mtl mtm fig_1 len_2 top_3 bel thr trm who) H := hP
    have hD : va_D A (wX5 cI cJ Ay Bmr Bfg Bln Btp Bbl Btr Bwh mrow mrs ma mb mlo mhi man mtl mtm fig_1 len_2 top_3 bel thr trm who) := hD
    refine lv_aload_n hx hb dX5_lowest_35 rfl (lv_at hl 0 rfl) ?_
    refine lv_bipush (v := 16) hx hb dX5_lowest_36 (by decide) ?_
    refine lv_iload_n hx hb dX5_lowest_38 rfl (lv_at hl 2 rfl) ?_
    refine k_Vv (M_X5_copy l G cI cJ Ay Bmr Bfg Bln Btp Bbl Btr Bwh mrow mrs ma mb mlo mhi man mtl mtm fig_1 len_2 top_3 bel thr trm who (16 : Int32) p1 _ hw) ⟨hx, hb, hml, hown, hts⟩ (cwV 2 hts gX5_lowest_X5_copy rfl rfl rfl (by decide +kernel) ⟨Nat.le_of_ble_eq_true rfl, Nat.le_of_ble_eq_true rfl⟩) hK hP hD hS hA [0, 1, 2, 3, 4, 5, 6, 7] [] [0, 1, 2, 3, 4, 5, 6, 7] (wr := []) (wn := fun u : (Nat → Int64) × (Nat → Int32) => (wX5 cI cJ Ay Bmr Bfg Bln Btp Bbl Btr Bwh mrow mrs ma mb mlo mhi man mtl mtm u.1 u.2 top_3 bel thr trm who)) rfl rfl (by decide) (by decide) (by decide) (by decide) (fun _ => rfl) (rest := []) (q0 := 0) rfl rfl rfl hl.1 rfl (Nat.le_of_ble_eq_true rfl) (Nat.zero_le _) (Nat.zero_le _) dX5_lowest_39 (fun u H locs hw hP hD hS => ?_)
    obtain ⟨fig_4, len_5⟩ := u
    have hP : va_P G vwCl (wX5 cI cJ Ay Bmr Bfg Bln Btp Bbl Btr Bwh mrow mrs ma mb mlo mhi man mtl mtm fig_4 len_5 top_3 bel thr trm who) H := hP
    have hD : va_D A (wX5 cI cJ Ay Bmr Bfg Bln Btp Bbl Btr Bwh mrow mrs ma mb mlo mhi man mtl mtm fig_4 len_5 top_3 bel thr trm who) := hD
    refine lv_aload_n hx hb dX5_lowest_42 rfl (lv_at hl 0 rfl) ?_
    refine lv_bipush (v := 17) hx hb dX5_lowest_43 (by decide) ?_
    refine lv_iload_n hx hb dX5_lowest_45 rfl (lv_at hl 3 rfl) ?_
    refine k_Vv (M_X5_copy l G cI cJ Ay Bmr Bfg Bln Btp Bbl Btr Bwh mrow mrs ma mb mlo mhi man mtl mtm fig_4 len_5 top_3 bel thr trm who (17 : Int32) p2 _ hw) ⟨hx, hb, hml, hown, hts⟩ (cwV 2 hts gX5_lowest_X5_copy rfl rfl rfl (by decide +kernel) ⟨Nat.le_of_ble_eq_true rfl, Nat.le_of_ble_eq_true rfl⟩) hK hP hD hS hA [0, 1, 2, 3, 4, 5, 6, 7] [] [0, 1, 2, 3, 4, 5, 6, 7] (wr := []) (wn := fun u : (Nat → Int64) × (Nat → Int32) => (wX5 cI cJ Ay Bmr Bfg Bln Btp Bbl Btr Bwh mrow mrs ma mb mlo mhi man mtl mtm u.1 u.2 top_3 bel thr trm who)) rfl rfl (by decide) (by decide) (by decide) (by decide) (fun _ => rfl) (rest := []) (q0 := 0) rfl rfl rfl hl.1 rfl (Nat.le_of_ble_eq_true rfl) (Nat.zero_le _) (Nat.zero_le _) dX5_lowest_46 (fun u H locs hw hP hD hS => ?_)
    obtain ⟨fig_6, len_7⟩ := u
    have hP : va_P G vwCl (wX5 cI cJ Ay Bmr Bfg Bln Btp Bbl Btr Bwh mrow mrs ma mb mlo mhi man mtl mtm fig_6 len_7 top_3 bel thr trm who) H := hP
    have hD : va_D A (wX5 cI cJ Ay Bmr Bfg Bln Btp Bbl Btr Bwh mrow mrs ma mb mlo mhi man mtl mtm fig_6 len_7 top_3 bel thr trm who) := hD
    refine lv_aload_n hx hb dX5_lowest_49 rfl (lv_at hl 0 rfl) ?_
    refine lv_bipush (v := 12) hx hb dX5_lowest_50 (by decide) ?_
    refine lv_bipush (v := 13) hx hb dX5_lowest_52 (by decide) ?_
    refine lv_bipush (v := 16) hx hb dX5_lowest_54 (by decide) ?_
    refine lv_bipush (v := 10) hx hb dX5_lowest_56 (by decide) ?_
    refine k_Vv (M_X5_divide l G cI cJ Ay Bmr Bfg Bln Btp Bbl Btr Bwh mrow mrs ma mb mlo mhi man mtl mtm fig_6 len_7 top_3 bel thr trm who (12 : Int32) (13 : Int32) (16 : Int32) (10 : Int32) _ hw) ⟨hx, hb, hml, hown, hts⟩ (cwV 4 hts gX5_lowest_X5_divide rfl rfl rfl (by decide +kernel) ⟨Nat.le_of_ble_eq_true rfl, Nat.le_of_ble_eq_true rfl⟩) hK hP hD hS hA [0, 1, 2, 3, 4, 5, 6, 7] [] [0, 1, 2, 3, 4, 5, 6, 7] (wr := []) (wn := fun u : (Nat → Int64) × (Nat → Int32) × (Nat → Int64) × (Nat → Int64) => (wX5 cI cJ Ay Bmr Bfg Bln Btp Bbl Btr Bwh mrow mrs ma mb mlo mhi man mtl mtm u.1 u.2.1 u.2.2.1 u.2.2.2 thr trm who)) rfl rfl (by decide) (by decide) (by decide) (by decide) (fun _ => rfl) (rest := []) (q0 := 0) rfl rfl rfl hl.1 rfl (Nat.le_of_ble_eq_true rfl) (Nat.zero_le _) (Nat.zero_le _) dX5_lowest_58 (fun u H locs hw hP hD hS => ?_)
    obtain ⟨fig_8, len_9, top_10, bel_11⟩ := u
    have hP : va_P G vwCl (wX5 cI cJ Ay Bmr Bfg Bln Btp Bbl Btr Bwh mrow mrs ma mb mlo mhi man mtl mtm fig_8 len_9 top_10 bel_11 thr trm who) H := hP
    have hD : va_D A (wX5 cI cJ Ay Bmr Bfg Bln Btp Bbl Btr Bwh mrow mrs ma mb mlo mhi man mtl mtm fig_8 len_9 top_10 bel_11 thr trm who) := hD
    refine lv_aload_n hx hb dX5_lowest_61 rfl (lv_at hl 0 rfl) ?_
    refine lv_iconst (v := 2) hx hb dX5_lowest_62 (by decide) ?_
    refine lv_iload_n hx hb dX5_lowest_63 rfl (lv_at hl 1 rfl) ?_
    refine lv_imul hx hb dX5_lowest_64 ?_
    refine lv_bipush (v := 12) hx hb dX5_lowest_65 (by decide) ?_
    refine k_Vv (M_X5_copy l G cI cJ Ay Bmr Bfg Bln Btp Bbl Btr Bwh mrow mrs ma mb mlo mhi man mtl mtm fig_8 len_9 top_10 bel_11 thr trm who (2 * p0) (12 : Int32) _ hw) ⟨hx, hb, hml, hown, hts⟩ (cwV 2 hts gX5_lowest_X5_copy rfl rfl rfl (by decide +kernel) ⟨Nat.le_of_ble_eq_true rfl, Nat.le_of_ble_eq_true rfl⟩) hK hP hD hS hA [0, 1, 2, 3, 4, 5, 6, 7] [] [0, 1, 2, 3, 4, 5, 6, 7] (wr := []) (wn := fun u : (Nat → Int64) × (Nat → Int32) => (wX5 cI cJ Ay Bmr Bfg Bln Btp Bbl Btr Bwh mrow mrs ma mb mlo mhi man mtl mtm u.1 u.2 top_10 bel_11 thr trm who)) rfl rfl (by decide) (by decide) (by decide) (by decide) (fun _ => rfl) (rest := []) (q0 := 0) rfl rfl rfl hl.1 rfl (Nat.le_of_ble_eq_true rfl) (Nat.zero_le _) (Nat.zero_le _) dX5_lowest_67 (fun u H locs hw hP hD hS => ?_)
    obtain ⟨fig_12, len_13⟩ := u
    have hP : va_P G vwCl (wX5 cI cJ Ay Bmr Bfg Bln Btp Bbl Btr Bwh mrow mrs ma mb mlo mhi man mtl mtm fig_12 len_13 top_10 bel_11 thr trm who) H := hP
    have hD : va_D A (wX5 cI cJ Ay Bmr Bfg Bln Btp Bbl Btr Bwh mrow mrs ma mb mlo mhi man mtl mtm fig_12 len_13 top_10 bel_11 thr trm who) := hD
    refine lv_aload_n hx hb dX5_lowest_70 rfl (lv_at hl 0 rfl) ?_
    refine lv_bipush (v := 12) hx hb dX5_lowest_71 (by decide) ?_
    refine lv_bipush (v := 13) hx hb dX5_lowest_73 (by decide) ?_
    refine lv_bipush (v := 17) hx hb dX5_lowest_75 (by decide) ?_
    refine lv_bipush (v := 10) hx hb dX5_lowest_77 (by decide) ?_
    refine k_Vv (M_X5_divide l G cI cJ Ay Bmr Bfg Bln Btp Bbl Btr Bwh mrow mrs ma mb mlo mhi man mtl mtm fig_12 len_13 top_10 bel_11 thr trm who (12 : Int32) (13 : Int32) (17 : Int32) (10 : Int32) _ hw) ⟨hx, hb, hml, hown, hts⟩ (cwV 4 hts gX5_lowest_X5_divide rfl rfl rfl (by decide +kernel) ⟨Nat.le_of_ble_eq_true rfl, Nat.le_of_ble_eq_true rfl⟩) hK hP hD hS hA [0, 1, 2, 3, 4, 5, 6, 7] [] [0, 1, 2, 3, 4, 5, 6, 7] (wr := []) (wn := fun u : (Nat → Int64) × (Nat → Int32) × (Nat → Int64) × (Nat → Int64) => (wX5 cI cJ Ay Bmr Bfg Bln Btp Bbl Btr Bwh mrow mrs ma mb mlo mhi man mtl mtm u.1 u.2.1 u.2.2.1 u.2.2.2 thr trm who)) rfl rfl (by decide) (by decide) (by decide) (by decide) (fun _ => rfl) (rest := []) (q0 := 0) rfl rfl rfl hl.1 rfl (Nat.le_of_ble_eq_true rfl) (Nat.zero_le _) (Nat.zero_le _) dX5_lowest_79 (fun u H locs hw hP hD hS => ?_)
    obtain ⟨fig_14, len_15, top_16, bel_17⟩ := u
    have hP : va_P G vwCl (wX5 cI cJ Ay Bmr Bfg Bln Btp Bbl Btr Bwh mrow mrs ma mb mlo mhi man mtl mtm fig_14 len_15 top_16 bel_17 thr trm who) H := hP
    have hD : va_D A (wX5 cI cJ Ay Bmr Bfg Bln Btp Bbl Btr Bwh mrow mrs ma mb mlo mhi man mtl mtm fig_14 len_15 top_16 bel_17 thr trm who) := hD
    refine lv_aload_n hx hb dX5_lowest_82 rfl (lv_at hl 0 rfl) ?_
    refine lv_iconst (v := 2) hx hb dX5_lowest_83 (by decide) ?_
    refine lv_iload_n hx hb dX5_lowest_84 rfl (lv_at hl 1 rfl) ?_
    refine lv_imul hx hb dX5_lowest_85 ?_
    refine lv_iconst (v := 1) hx hb dX5_lowest_86 (by decide) ?_
    refine lv_iadd hx hb dX5_lowest_87 ?_
    refine lv_topi (fun v_18 ev_18 => ?_)
    have hw := hw v_18 ev_18
    refine lv_bipush (v := 12) hx hb dX5_lowest_88 (by decide) ?_
    refine k_Vv (M_X5_copy l G cI cJ Ay Bmr Bfg Bln Btp Bbl Btr Bwh mrow mrs ma mb mlo mhi man mtl mtm fig_14 len_15 top_16 bel_17 thr trm who v_18 (12 : Int32) _ hw) ⟨hx, hb, hml, hown, hts⟩ (cwV 2 hts gX5_lowest_X5_copy rfl rfl rfl (by decide +kernel) ⟨Nat.le_of_ble_eq_true rfl, Nat.le_of_ble_eq_true rfl⟩) hK hP hD hS hA [0, 1, 2, 3, 4, 5, 6, 7] [] [0, 1, 2, 3, 4, 5, 6, 7] (wr := []) (wn := fun u : (Nat → Int64) × (Nat → Int32) => (wX5 cI cJ Ay Bmr Bfg Bln Btp Bbl Btr Bwh mrow mrs ma mb mlo mhi man mtl mtm u.1 u.2 top_16 bel_17 thr trm who)) rfl rfl (by decide) (by decide) (by decide) (by decide) (fun _ => rfl) (rest := []) (q0 := 0) rfl rfl rfl hl.1 rfl (Nat.le_of_ble_eq_true rfl) (Nat.zero_le _) (Nat.zero_le _) dX5_lowest_90 (fun u H locs hw hP hD hS => ?_)
    obtain ⟨fig_19, len_20⟩ := u
    have hP : va_P G vwCl (wX5 cI cJ Ay Bmr Bfg Bln Btp Bbl Btr Bwh mrow mrs ma mb mlo mhi man mtl mtm fig_19 len_20 top_16 bel_17 thr trm who) H := hP
    have hD : va_D A (wX5 cI cJ Ay Bmr Bfg Bln Btp Bbl Btr Bwh mrow mrs ma mb mlo mhi man mtl mtm fig_19 len_20 top_16 bel_17 thr trm who) := hD
    exact hret (fig_19, len_20, top_16, bel_17) _ _ _ _ hw hP hD hS dX5_lowest_93
  · have hw := hw.2 c_25
    refine lv_aload_n hx hb dX5_lowest_9 rfl (lv_at hl 0 rfl) ?_
    refine k_get hx hb hts uX5_lowest_X5 hown hK hP 0 5 rfl rfl 10 (by decide) fX5_lowest_27 (.ref Bln) rfl dX5_lowest_10 ?_
    refine lv_iconst (v := 2) hx hb dX5_lowest_13 (by decide) ?_
    refine lv_iload_n hx hb dX5_lowest_14 rfl (lv_at hl 1 rfl) ?_
    refine lv_imul hx hb dX5_lowest_15 ?_
    refine lv_iconst (v := 0) hx hb dX5_lowest_16 (by decide) ?_
    obtain ⟨hin, hw⟩ := hw
    refine k_iast hx hb hK hP hD hS 3 rfl hin (w' := fun g => (wX5 cI cJ Ay Bmr Bfg Bln Btp Bbl Btr Bwh mrow mrs ma mb mlo mhi man mtl mtm fig g top bel thr trm who)) (fun _ => rfl) dX5_lowest_17 (fun len_21 elen_21 H locs hP hD hS => ?_)
    have hw := hw len_21 elen_21
    refine lv_aload_n hx hb dX5_lowest_18 rfl (lv_at hl 0 rfl) ?_
    refine lv_iconst (v := 2) hx hb dX5_lowest_19 (by decide) ?_
    refine lv_iload_n hx hb dX5_lowest_20 rfl (lv_at hl 1 rfl) ?_
    refine lv_imul hx hb dX5_lowest_21 ?_
    refine lv_iconst (v := 1) hx hb dX5_lowest_22 (by decide) ?_
    refine lv_iadd hx hb dX5_lowest_23 ?_
    refine lv_topi (fun v_22 ev_22 => ?_)
    have hw := hw v_22 ev_22
    refine lv_lconst (v := 1) hx hb dX5_lowest_24 (by decide) ?_
    refine k_Vv (M_X5_put l G cI cJ Ay Bmr Bfg Bln Btp Bbl Btr Bwh mrow mrs ma mb mlo mhi man mtl mtm fig len_21 top bel thr trm who v_22 (1 : Int64) _ hw) ⟨hx, hb, hml, hown, hts⟩ (cwV 2 hts gX5_lowest_X5_put rfl rfl rfl (by decide +kernel) ⟨Nat.le_of_ble_eq_true rfl, Nat.le_of_ble_eq_true rfl⟩) hK hP hD hS hA [0, 1, 2, 3, 4, 5, 6, 7] [] [0, 1, 2, 3, 4, 5, 6, 7] (wr := []) (wn := fun u : (Nat → Int64) × (Nat → Int32) => (wX5 cI cJ Ay Bmr Bfg Bln Btp Bbl Btr Bwh mrow mrs ma mb mlo mhi man mtl mtm u.1 u.2 top bel thr trm who)) rfl rfl (by decide) (by decide) (by decide) (by decide) (fun _ => rfl) (rest := []) (q0 := 0) rfl rfl rfl hl.1 rfl (Nat.le_of_ble_eq_true rfl) (Nat.zero_le _) (Nat.zero_le _) dX5_lowest_25 (fun u H locs hw hP hD hS => ?_)
    obtain ⟨fig_23, len_24⟩ := u
    have hP : va_P G vwCl (wX5 cI cJ Ay Bmr Bfg Bln Btp Bbl Btr Bwh mrow mrs ma mb mlo mhi man mtl mtm fig_23 len_24 top bel thr trm who) H := hP
    have hD : va_D A (wX5 cI cJ Ay Bmr Bfg Bln Btp Bbl Btr Bwh mrow mrs ma mb mlo mhi man mtl mtm fig_23 len_24 top bel thr trm who) := hD
    exact hret (fig_23, len_24, top, bel) _ _ _ _ hw hP hD hS dX5_lowest_28
set_option maxHeartbeats 4000000 in
set_option maxRecDepth 100000 in
theorem M_X5_set (l : Launch) (G : va_G) (cI cJ : ClassId) (Ay Bmr Bfg Bln Btp Bbl Btr Bwh : Nat) (mrow : Nat → Int32) (mrs : Int32) (ma : Int32) (mb : Int32) (mlo : Int32) (mhi : Int32) (man : Int32) (mtl : Int32) (mtm : Int32) (fig : Nat → Int64) (len : Nat → Int32) (top : Nat → Int64) (bel : Nat → Int64) (thr : Int32) (trm : Nat → Int32) (who : Nat → Int32) (p0 : Int32) (p1 : Int32) (p2 : Int32) (Q : (Nat → Int64) → (Nat → Int32) → (Nat → Int64) → (Nat → Int64) → Prop) (hw : w_X5_set fig len top bel p0 p1 p2 Q) : Kv l yX5_set wsX5_set rm_X5_set G cI cJ [.ref Ay, .int p0, .int p1, .int p2] (wX5 cI cJ Ay Bmr Bfg Bln Btp Bbl Btr Bwh mrow mrs ma mb mlo mhi man mtl mtm fig len top bel thr trm who) (fun (u : (Nat → Int64) × (Nat → Int32) × (Nat → Int64) × (Nat → Int64)) => Q u.1 u.2.1 u.2.2.1 u.2.2.2) (fun u => (wX5 cI cJ Ay Bmr Bfg Bln Btp Bbl Btr Bwh mrow mrs ma mb mlo mhi man mtl mtm u.1 u.2.1 u.2.2.1 u.2.2.2 thr trm who)) := by
  refine kv_intro (cc := cX5_set) (maxL := 4) rfl rfl (by decide) rfl (Nat.le_of_ble_eq_true rfl) ?_
  intro p e s m args below meth c A Z ls hx hb hml hts hown hP hK hD hS hA hl hret
  have hl : lv_has ls 4 [(0, .ref Ay), (1, .int p0), (2, .int p1), (3, .int p2)] := hl
  unfold w_X5_set at hw
  refine lv_aload_n hx hb dX5_set_0 rfl (lv_at hl 0 rfl) ?_
  refine lv_bipush (v := 14) hx hb dX5_set_1 (by decide) ?_
  refine lv_iload_n hx hb dX5_set_3 rfl (lv_at hl 2 rfl) ?_
  refine lv_i2l (v := p1.toInt64) hx hb dX5_set_4 rfl ?_
  refine k_Vv (M_X5_put l G cI cJ Ay Bmr Bfg Bln Btp Bbl Btr Bwh mrow mrs ma mb mlo mhi man mtl mtm fig len top bel thr trm who (14 : Int32) p1.toInt64 _ hw) ⟨hx, hb, hml, hown, hts⟩ (cwV 2 hts gX5_set_X5_put rfl rfl rfl (by decide +kernel) ⟨Nat.le_of_ble_eq_true rfl, Nat.le_of_ble_eq_true rfl⟩) hK hP hD hS hA [0, 1, 2, 3, 4, 5, 6, 7] [] [0, 1, 2, 3, 4, 5, 6, 7] (wr := []) (wn := fun u : (Nat → Int64) × (Nat → Int32) => (wX5 cI cJ Ay Bmr Bfg Bln Btp Bbl Btr Bwh mrow mrs ma mb mlo mhi man mtl mtm u.1 u.2 top bel thr trm who)) rfl rfl (by decide) (by decide) (by decide) (by decide) (fun _ => rfl) (rest := []) (q0 := 0) rfl rfl rfl hl.1 rfl (Nat.le_of_ble_eq_true rfl) (Nat.zero_le _) (Nat.zero_le _) dX5_set_5 (fun u H locs hw hP hD hS => ?_)
  obtain ⟨fig_1, len_2⟩ := u
  have hP : va_P G vwCl (wX5 cI cJ Ay Bmr Bfg Bln Btp Bbl Btr Bwh mrow mrs ma mb mlo mhi man mtl mtm fig_1 len_2 top bel thr trm who) H := hP
  have hD : va_D A (wX5 cI cJ Ay Bmr Bfg Bln Btp Bbl Btr Bwh mrow mrs ma mb mlo mhi man mtl mtm fig_1 len_2 top bel thr trm who) := hD
  refine lv_aload_n hx hb dX5_set_8 rfl (lv_at hl 0 rfl) ?_
  refine lv_bipush (v := 15) hx hb dX5_set_9 (by decide) ?_
  refine lv_iload_n hx hb dX5_set_11 rfl (lv_at hl 3 rfl) ?_
  refine lv_i2l (v := p2.toInt64) hx hb dX5_set_12 rfl ?_
  refine k_Vv (M_X5_put l G cI cJ Ay Bmr Bfg Bln Btp Bbl Btr Bwh mrow mrs ma mb mlo mhi man mtl mtm fig_1 len_2 top bel thr trm who (15 : Int32) p2.toInt64 _ hw) ⟨hx, hb, hml, hown, hts⟩ (cwV 2 hts gX5_set_X5_put rfl rfl rfl (by decide +kernel) ⟨Nat.le_of_ble_eq_true rfl, Nat.le_of_ble_eq_true rfl⟩) hK hP hD hS hA [0, 1, 2, 3, 4, 5, 6, 7] [] [0, 1, 2, 3, 4, 5, 6, 7] (wr := []) (wn := fun u : (Nat → Int64) × (Nat → Int32) => (wX5 cI cJ Ay Bmr Bfg Bln Btp Bbl Btr Bwh mrow mrs ma mb mlo mhi man mtl mtm u.1 u.2 top bel thr trm who)) rfl rfl (by decide) (by decide) (by decide) (by decide) (fun _ => rfl) (rest := []) (q0 := 0) rfl rfl rfl hl.1 rfl (Nat.le_of_ble_eq_true rfl) (Nat.zero_le _) (Nat.zero_le _) dX5_set_13 (fun u H locs hw hP hD hS => ?_)
  obtain ⟨fig_3, len_4⟩ := u
  have hP : va_P G vwCl (wX5 cI cJ Ay Bmr Bfg Bln Btp Bbl Btr Bwh mrow mrs ma mb mlo mhi man mtl mtm fig_3 len_4 top bel thr trm who) H := hP
  have hD : va_D A (wX5 cI cJ Ay Bmr Bfg Bln Btp Bbl Btr Bwh mrow mrs ma mb mlo mhi man mtl mtm fig_3 len_4 top bel thr trm who) := hD
  refine lv_aload_n hx hb dX5_set_16 rfl (lv_at hl 0 rfl) ?_
  refine lv_iload_n hx hb dX5_set_17 rfl (lv_at hl 1 rfl) ?_
  refine lv_bipush (v := 14) hx hb dX5_set_18 (by decide) ?_
  refine lv_bipush (v := 15) hx hb dX5_set_20 (by decide) ?_
  refine k_Vv (M_X5_lowest l G cI cJ Ay Bmr Bfg Bln Btp Bbl Btr Bwh mrow mrs ma mb mlo mhi man mtl mtm fig_3 len_4 top bel thr trm who p0 (14 : Int32) (15 : Int32) _ hw) ⟨hx, hb, hml, hown, hts⟩ (cwV 3 hts gX5_set_X5_lowest rfl rfl rfl (by decide +kernel) ⟨Nat.le_of_ble_eq_true rfl, Nat.le_of_ble_eq_true rfl⟩) hK hP hD hS hA [0, 1, 2, 3, 4, 5, 6, 7] [] [0, 1, 2, 3, 4, 5, 6, 7] (wr := []) (wn := fun u : (Nat → Int64) × (Nat → Int32) × (Nat → Int64) × (Nat → Int64) => (wX5 cI cJ Ay Bmr Bfg Bln Btp Bbl Btr Bwh mrow mrs ma mb mlo mhi man mtl mtm u.1 u.2.1 u.2.2.1 u.2.2.2 thr trm who)) rfl rfl (by decide) (by decide) (by decide) (by decide) (fun _ => rfl) (rest := []) (q0 := 0) rfl rfl rfl hl.1 rfl (Nat.le_of_ble_eq_true rfl) (Nat.zero_le _) (Nat.zero_le _) dX5_set_22 (fun u H locs hw hP hD hS => ?_)
  obtain ⟨fig_5, len_6, top_7, bel_8⟩ := u
  have hP : va_P G vwCl (wX5 cI cJ Ay Bmr Bfg Bln Btp Bbl Btr Bwh mrow mrs ma mb mlo mhi man mtl mtm fig_5 len_6 top_7 bel_8 thr trm who) H := hP
  have hD : va_D A (wX5 cI cJ Ay Bmr Bfg Bln Btp Bbl Btr Bwh mrow mrs ma mb mlo mhi man mtl mtm fig_5 len_6 top_7 bel_8 thr trm who) := hD
  exact hret (fig_5, len_6, top_7, bel_8) _ _ _ _ hw hP hD hS dX5_set_25
set_option maxHeartbeats 4000000 in
set_option maxRecDepth 100000 in
theorem M_X5_cross (l : Launch) (G : va_G) (cI cJ : ClassId) (Ay Bmr Bfg Bln Btp Bbl Btr Bwh : Nat) (mrow : Nat → Int32) (mrs : Int32) (ma : Int32) (mb : Int32) (mlo : Int32) (mhi : Int32) (man : Int32) (mtl : Int32) (mtm : Int32) (fig : Nat → Int64) (len : Nat → Int32) (top : Nat → Int64) (bel : Nat → Int64) (thr : Int32) (trm : Nat → Int32) (who : Nat → Int32) (p0 : Int32) (p1 : Int32) (Q : (Nat → Int64) → (Nat → Int32) → (Nat → Int64) → Prop) (hw : w_X5_cross fig len top p0 p1 Q) : Kv l yX5_cross wsX5_cross rm_X5_cross G cI cJ [.ref Ay, .int p0, .int p1] (wX5 cI cJ Ay Bmr Bfg Bln Btp Bbl Btr Bwh mrow mrs ma mb mlo mhi man mtl mtm fig len top bel thr trm who) (fun (u : (Nat → Int64) × (Nat → Int32) × (Nat → Int64)) => Q u.1 u.2.1 u.2.2) (fun u => (wX5 cI cJ Ay Bmr Bfg Bln Btp Bbl Btr Bwh mrow mrs ma mb mlo mhi man mtl mtm u.1 u.2.1 u.2.2 bel thr trm who)) := by
  refine kv_intro (cc := cX5_cross) (maxL := 3) rfl rfl (by decide) rfl (Nat.le_of_ble_eq_true rfl) ?_
  intro p e s m args below meth c A Z ls hx hb hml hts hown hP hK hD hS hA hl hret
  have hl : lv_has ls 3 [(0, .ref Ay), (1, .int p0), (2, .int p1)] := hl
  unfold w_X5_cross at hw
  refine lv_aload_n hx hb dX5_cross_0 rfl (lv_at hl 0 rfl) ?_
  refine lv_bipush (v := 14) hx hb dX5_cross_1 (by decide) ?_
  refine lv_iconst (v := 2) hx hb dX5_cross_3 (by decide) ?_
  refine lv_iload_n hx hb dX5_cross_4 rfl (lv_at hl 1 rfl) ?_
  refine lv_imul hx hb dX5_cross_5 ?_
  refine lv_iconst (v := 2) hx hb dX5_cross_6 (by decide) ?_
  refine lv_iload_n hx hb dX5_cross_7 rfl (lv_at hl 2 rfl) ?_
  refine lv_imul hx hb dX5_cross_8 ?_
  refine lv_iconst (v := 1) hx hb dX5_cross_9 (by decide) ?_
  refine lv_iadd hx hb dX5_cross_10 ?_
  refine lv_topi (fun v_1 ev_1 => ?_)
  have hw := hw v_1 ev_1
  refine k_Vv (M_X5_times l G cI cJ Ay Bmr Bfg Bln Btp Bbl Btr Bwh mrow mrs ma mb mlo mhi man mtl mtm fig len top bel thr trm who (14 : Int32) (2 * p0) v_1 _ hw) ⟨hx, hb, hml, hown, hts⟩ (cwV 3 hts gX5_cross_X5_times rfl rfl rfl (by decide +kernel) ⟨Nat.le_of_ble_eq_true rfl, Nat.le_of_ble_eq_true rfl⟩) hK hP hD hS hA [0, 1, 2, 3, 4, 5, 6, 7] [] [0, 1, 2, 3, 4, 5, 6, 7] (wr := []) (wn := fun u : (Nat → Int64) × (Nat → Int32) × (Nat → Int64) => (wX5 cI cJ Ay Bmr Bfg Bln Btp Bbl Btr Bwh mrow mrs ma mb mlo mhi man mtl mtm u.1 u.2.1 u.2.2 bel thr trm who)) rfl rfl (by decide) (by decide) (by decide) (by decide) (fun _ => rfl) (rest := []) (q0 := 0) rfl rfl rfl hl.1 rfl (Nat.le_of_ble_eq_true rfl) (Nat.zero_le _) (Nat.zero_le _) dX5_cross_11 (fun u H locs hw hP hD hS => ?_)
  obtain ⟨fig_2, len_3, top_4⟩ := u
  have hP : va_P G vwCl (wX5 cI cJ Ay Bmr Bfg Bln Btp Bbl Btr Bwh mrow mrs ma mb mlo mhi man mtl mtm fig_2 len_3 top_4 bel thr trm who) H := hP
  have hD : va_D A (wX5 cI cJ Ay Bmr Bfg Bln Btp Bbl Btr Bwh mrow mrs ma mb mlo mhi man mtl mtm fig_2 len_3 top_4 bel thr trm who) := hD
  refine lv_aload_n hx hb dX5_cross_14 rfl (lv_at hl 0 rfl) ?_
  refine lv_bipush (v := 16) hx hb dX5_cross_15 (by decide) ?_
  refine lv_iconst (v := 2) hx hb dX5_cross_17 (by decide) ?_
  refine lv_iload_n hx hb dX5_cross_18 rfl (lv_at hl 2 rfl) ?_
  refine lv_imul hx hb dX5_cross_19 ?_
  refine lv_iconst (v := 2) hx hb dX5_cross_20 (by decide) ?_
  refine lv_iload_n hx hb dX5_cross_21 rfl (lv_at hl 1 rfl) ?_
  refine lv_imul hx hb dX5_cross_22 ?_
  refine lv_iconst (v := 1) hx hb dX5_cross_23 (by decide) ?_
  refine lv_iadd hx hb dX5_cross_24 ?_
  refine lv_topi (fun v_5 ev_5 => ?_)
  have hw := hw v_5 ev_5
  refine k_Vv (M_X5_times l G cI cJ Ay Bmr Bfg Bln Btp Bbl Btr Bwh mrow mrs ma mb mlo mhi man mtl mtm fig_2 len_3 top_4 bel thr trm who (16 : Int32) (2 * p1) v_5 _ hw) ⟨hx, hb, hml, hown, hts⟩ (cwV 3 hts gX5_cross_X5_times rfl rfl rfl (by decide +kernel) ⟨Nat.le_of_ble_eq_true rfl, Nat.le_of_ble_eq_true rfl⟩) hK hP hD hS hA [0, 1, 2, 3, 4, 5, 6, 7] [] [0, 1, 2, 3, 4, 5, 6, 7] (wr := []) (wn := fun u : (Nat → Int64) × (Nat → Int32) × (Nat → Int64) => (wX5 cI cJ Ay Bmr Bfg Bln Btp Bbl Btr Bwh mrow mrs ma mb mlo mhi man mtl mtm u.1 u.2.1 u.2.2 bel thr trm who)) rfl rfl (by decide) (by decide) (by decide) (by decide) (fun _ => rfl) (rest := []) (q0 := 0) rfl rfl rfl hl.1 rfl (Nat.le_of_ble_eq_true rfl) (Nat.zero_le _) (Nat.zero_le _) dX5_cross_25 (fun u H locs hw hP hD hS => ?_)
  obtain ⟨fig_6, len_7, top_8⟩ := u
  have hP : va_P G vwCl (wX5 cI cJ Ay Bmr Bfg Bln Btp Bbl Btr Bwh mrow mrs ma mb mlo mhi man mtl mtm fig_6 len_7 top_8 bel thr trm who) H := hP
  have hD : va_D A (wX5 cI cJ Ay Bmr Bfg Bln Btp Bbl Btr Bwh mrow mrs ma mb mlo mhi man mtl mtm fig_6 len_7 top_8 bel thr trm who) := hD
  refine lv_aload_n hx hb dX5_cross_28 rfl (lv_at hl 0 rfl) ?_
  refine lv_bipush (v := 15) hx hb dX5_cross_29 (by decide) ?_
  refine lv_iconst (v := 2) hx hb dX5_cross_31 (by decide) ?_
  refine lv_iload_n hx hb dX5_cross_32 rfl (lv_at hl 1 rfl) ?_
  refine lv_imul hx hb dX5_cross_33 ?_
  refine lv_iconst (v := 1) hx hb dX5_cross_34 (by decide) ?_
  refine lv_iadd hx hb dX5_cross_35 ?_
  refine lv_topi (fun v_9 ev_9 => ?_)
  have hw := hw v_9 ev_9
  refine lv_iconst (v := 2) hx hb dX5_cross_36 (by decide) ?_
  refine lv_iload_n hx hb dX5_cross_37 rfl (lv_at hl 2 rfl) ?_
  refine lv_imul hx hb dX5_cross_38 ?_
  refine lv_iconst (v := 1) hx hb dX5_cross_39 (by decide) ?_
  refine lv_iadd hx hb dX5_cross_40 ?_
  refine lv_topi (fun v_10 ev_10 => ?_)
  have hw := hw v_10 ev_10
  refine k_Vv (M_X5_times l G cI cJ Ay Bmr Bfg Bln Btp Bbl Btr Bwh mrow mrs ma mb mlo mhi man mtl mtm fig_6 len_7 top_8 bel thr trm who (15 : Int32) v_9 v_10 _ hw) ⟨hx, hb, hml, hown, hts⟩ (cwV 3 hts gX5_cross_X5_times rfl rfl rfl (by decide +kernel) ⟨Nat.le_of_ble_eq_true rfl, Nat.le_of_ble_eq_true rfl⟩) hK hP hD hS hA [0, 1, 2, 3, 4, 5, 6, 7] [] [0, 1, 2, 3, 4, 5, 6, 7] (wr := []) (wn := fun u : (Nat → Int64) × (Nat → Int32) × (Nat → Int64) => (wX5 cI cJ Ay Bmr Bfg Bln Btp Bbl Btr Bwh mrow mrs ma mb mlo mhi man mtl mtm u.1 u.2.1 u.2.2 bel thr trm who)) rfl rfl (by decide) (by decide) (by decide) (by decide) (fun _ => rfl) (rest := []) (q0 := 0) rfl rfl rfl hl.1 rfl (Nat.le_of_ble_eq_true rfl) (Nat.zero_le _) (Nat.zero_le _) dX5_cross_41 (fun u H locs hw hP hD hS => ?_)
  obtain ⟨fig_11, len_12, top_13⟩ := u
  have hP : va_P G vwCl (wX5 cI cJ Ay Bmr Bfg Bln Btp Bbl Btr Bwh mrow mrs ma mb mlo mhi man mtl mtm fig_11 len_12 top_13 bel thr trm who) H := hP
  have hD : va_D A (wX5 cI cJ Ay Bmr Bfg Bln Btp Bbl Btr Bwh mrow mrs ma mb mlo mhi man mtl mtm fig_11 len_12 top_13 bel thr trm who) := hD
  exact hret (fig_11, len_12, top_13) _ _ _ _ hw hP hD hS dX5_cross_44
set_option maxHeartbeats 4000000 in
set_option maxRecDepth 100000 in
theorem M_X5_add0 (l : Launch) (G : va_G) (cI cJ : ClassId) (Ay Bmr Bfg Bln Btp Bbl Btr Bwh : Nat) (mrow : Nat → Int32) (mrs : Int32) (ma : Int32) (mb : Int32) (mlo : Int32) (mhi : Int32) (man : Int32) (mtl : Int32) (mtm : Int32) (fig : Nat → Int64) (len : Nat → Int32) (top : Nat → Int64) (bel : Nat → Int64) (thr : Int32) (trm : Nat → Int32) (who : Nat → Int32) (p0 : Int32) (p1 : Int32) (p2 : Int32) (Q : (Nat → Int64) → (Nat → Int32) → (Nat → Int64) → (Nat → Int64) → Prop) (hw : w_X5_add0 fig len top bel p0 p1 p2 Q) : Kv l yX5_add0 wsX5_add0 rm_X5_add0 G cI cJ [.ref Ay, .int p0, .int p1, .int p2] (wX5 cI cJ Ay Bmr Bfg Bln Btp Bbl Btr Bwh mrow mrs ma mb mlo mhi man mtl mtm fig len top bel thr trm who) (fun (u : (Nat → Int64) × (Nat → Int32) × (Nat → Int64) × (Nat → Int64)) => Q u.1 u.2.1 u.2.2.1 u.2.2.2) (fun u => (wX5 cI cJ Ay Bmr Bfg Bln Btp Bbl Btr Bwh mrow mrs ma mb mlo mhi man mtl mtm u.1 u.2.1 u.2.2.1 u.2.2.2 thr trm who)) := by
  refine kv_intro (cc := cX5_add0) (maxL := 4) rfl rfl (by decide) rfl (Nat.le_of_ble_eq_true rfl) ?_
  intro p e s m args below meth c A Z ls hx hb hml hts hown hP hK hD hS hA hl hret
  have hl : lv_has ls 4 [(0, .ref Ay), (1, .int p0), (2, .int p1), (3, .int p2)] := hl
  unfold w_X5_add0 at hw
  refine lv_aload_n hx hb dX5_add0_0 rfl (lv_at hl 0 rfl) ?_
  refine lv_iload_n hx hb dX5_add0_1 rfl (lv_at hl 2 rfl) ?_
  refine lv_iload_n hx hb dX5_add0_2 rfl (lv_at hl 3 rfl) ?_
  refine k_Vv (M_X5_cross l G cI cJ Ay Bmr Bfg Bln Btp Bbl Btr Bwh mrow mrs ma mb mlo mhi man mtl mtm fig len top bel thr trm who p1 p2 _ hw) ⟨hx, hb, hml, hown, hts⟩ (cwV 2 hts gX5_add0_X5_cross rfl rfl rfl (by decide +kernel) ⟨Nat.le_of_ble_eq_true rfl, Nat.le_of_ble_eq_true rfl⟩) hK hP hD hS hA [0, 1, 2, 3, 4, 5, 6, 7] [] [0, 1, 2, 3, 4, 5, 6, 7] (wr := []) (wn := fun u : (Nat → Int64) × (Nat → Int32) × (Nat → Int64) => (wX5 cI cJ Ay Bmr Bfg Bln Btp Bbl Btr Bwh mrow mrs ma mb mlo mhi man mtl mtm u.1 u.2.1 u.2.2 bel thr trm who)) rfl rfl (by decide) (by decide) (by decide) (by decide) (fun _ => rfl) (rest := []) (q0 := 0) rfl rfl rfl hl.1 rfl (Nat.le_of_ble_eq_true rfl) (Nat.zero_le _) (Nat.zero_le _) dX5_add0_3 (fun u H locs hw hP hD hS => ?_)
  obtain ⟨fig_1, len_2, top_3⟩ := u
  have hP : va_P G vwCl (wX5 cI cJ Ay Bmr Bfg Bln Btp Bbl Btr Bwh mrow mrs ma mb mlo mhi man mtl mtm fig_1 len_2 top_3 bel thr trm who) H := hP
  have hD : va_D A (wX5 cI cJ Ay Bmr Bfg Bln Btp Bbl Btr Bwh mrow mrs ma mb mlo mhi man mtl mtm fig_1 len_2 top_3 bel thr trm who) := hD
  refine lv_aload_n hx hb dX5_add0_6 rfl (lv_at hl 0 rfl) ?_
  refine lv_bipush (v := 17) hx hb dX5_add0_7 (by decide) ?_
  refine lv_bipush (v := 14) hx hb dX5_add0_9 (by decide) ?_
  refine lv_bipush (v := 16) hx hb dX5_add0_11 (by decide) ?_
  refine k_Vv (M_X5_plus l G cI cJ Ay Bmr Bfg Bln Btp Bbl Btr Bwh mrow mrs ma mb mlo mhi man mtl mtm fig_1 len_2 top_3 bel thr trm who (17 : Int32) (14 : Int32) (16 : Int32) _ hw) ⟨hx, hb, hml, hown, hts⟩ (cwV 3 hts gX5_add0_X5_plus rfl rfl rfl (by decide +kernel) ⟨Nat.le_of_ble_eq_true rfl, Nat.le_of_ble_eq_true rfl⟩) hK hP hD hS hA [0, 1, 2, 3, 4, 5, 6, 7] [] [0, 1, 2, 3, 4, 5, 6, 7] (wr := []) (wn := fun u : (Nat → Int64) × (Nat → Int32) × (Nat → Int64) => (wX5 cI cJ Ay Bmr Bfg Bln Btp Bbl Btr Bwh mrow mrs ma mb mlo mhi man mtl mtm u.1 u.2.1 u.2.2 bel thr trm who)) rfl rfl (by decide) (by decide) (by decide) (by decide) (fun _ => rfl) (rest := []) (q0 := 0) rfl rfl rfl hl.1 rfl (Nat.le_of_ble_eq_true rfl) (Nat.zero_le _) (Nat.zero_le _) dX5_add0_13 (fun u H locs hw hP hD hS => ?_)
  obtain ⟨fig_4, len_5, top_6⟩ := u
  have hP : va_P G vwCl (wX5 cI cJ Ay Bmr Bfg Bln Btp Bbl Btr Bwh mrow mrs ma mb mlo mhi man mtl mtm fig_4 len_5 top_6 bel thr trm who) H := hP
  have hD : va_D A (wX5 cI cJ Ay Bmr Bfg Bln Btp Bbl Btr Bwh mrow mrs ma mb mlo mhi man mtl mtm fig_4 len_5 top_6 bel thr trm who) := hD
  refine lv_aload_n hx hb dX5_add0_16 rfl (lv_at hl 0 rfl) ?_
  refine lv_bipush (v := 14) hx hb dX5_add0_17 (by decide) ?_
  refine lv_bipush (v := 17) hx hb dX5_add0_19 (by decide) ?_
  refine k_Vv (M_X5_copy l G cI cJ Ay Bmr Bfg Bln Btp Bbl Btr Bwh mrow mrs ma mb mlo mhi man mtl mtm fig_4 len_5 top_6 bel thr trm who (14 : Int32) (17 : Int32) _ hw) ⟨hx, hb, hml, hown, hts⟩ (cwV 2 hts gX5_add0_X5_copy rfl rfl rfl (by decide +kernel) ⟨Nat.le_of_ble_eq_true rfl, Nat.le_of_ble_eq_true rfl⟩) hK hP hD hS hA [0, 1, 2, 3, 4, 5, 6, 7] [] [0, 1, 2, 3, 4, 5, 6, 7] (wr := []) (wn := fun u : (Nat → Int64) × (Nat → Int32) => (wX5 cI cJ Ay Bmr Bfg Bln Btp Bbl Btr Bwh mrow mrs ma mb mlo mhi man mtl mtm u.1 u.2 top_6 bel thr trm who)) rfl rfl (by decide) (by decide) (by decide) (by decide) (fun _ => rfl) (rest := []) (q0 := 0) rfl rfl rfl hl.1 rfl (Nat.le_of_ble_eq_true rfl) (Nat.zero_le _) (Nat.zero_le _) dX5_add0_21 (fun u H locs hw hP hD hS => ?_)
  obtain ⟨fig_7, len_8⟩ := u
  have hP : va_P G vwCl (wX5 cI cJ Ay Bmr Bfg Bln Btp Bbl Btr Bwh mrow mrs ma mb mlo mhi man mtl mtm fig_7 len_8 top_6 bel thr trm who) H := hP
  have hD : va_D A (wX5 cI cJ Ay Bmr Bfg Bln Btp Bbl Btr Bwh mrow mrs ma mb mlo mhi man mtl mtm fig_7 len_8 top_6 bel thr trm who) := hD
  refine lv_aload_n hx hb dX5_add0_24 rfl (lv_at hl 0 rfl) ?_
  refine lv_iload_n hx hb dX5_add0_25 rfl (lv_at hl 1 rfl) ?_
  refine lv_bipush (v := 14) hx hb dX5_add0_26 (by decide) ?_
  refine lv_bipush (v := 15) hx hb dX5_add0_28 (by decide) ?_
  refine k_Vv (M_X5_lowest l G cI cJ Ay Bmr Bfg Bln Btp Bbl Btr Bwh mrow mrs ma mb mlo mhi man mtl mtm fig_7 len_8 top_6 bel thr trm who p0 (14 : Int32) (15 : Int32) _ hw) ⟨hx, hb, hml, hown, hts⟩ (cwV 3 hts gX5_add0_X5_lowest rfl rfl rfl (by decide +kernel) ⟨Nat.le_of_ble_eq_true rfl, Nat.le_of_ble_eq_true rfl⟩) hK hP hD hS hA [0, 1, 2, 3, 4, 5, 6, 7] [] [0, 1, 2, 3, 4, 5, 6, 7] (wr := []) (wn := fun u : (Nat → Int64) × (Nat → Int32) × (Nat → Int64) × (Nat → Int64) => (wX5 cI cJ Ay Bmr Bfg Bln Btp Bbl Btr Bwh mrow mrs ma mb mlo mhi man mtl mtm u.1 u.2.1 u.2.2.1 u.2.2.2 thr trm who)) rfl rfl (by decide) (by decide) (by decide) (by decide) (fun _ => rfl) (rest := []) (q0 := 0) rfl rfl rfl hl.1 rfl (Nat.le_of_ble_eq_true rfl) (Nat.zero_le _) (Nat.zero_le _) dX5_add0_30 (fun u H locs hw hP hD hS => ?_)
  obtain ⟨fig_9, len_10, top_11, bel_12⟩ := u
  have hP : va_P G vwCl (wX5 cI cJ Ay Bmr Bfg Bln Btp Bbl Btr Bwh mrow mrs ma mb mlo mhi man mtl mtm fig_9 len_10 top_11 bel_12 thr trm who) H := hP
  have hD : va_D A (wX5 cI cJ Ay Bmr Bfg Bln Btp Bbl Btr Bwh mrow mrs ma mb mlo mhi man mtl mtm fig_9 len_10 top_11 bel_12 thr trm who) := hD
  exact hret (fig_9, len_10, top_11, bel_12) _ _ _ _ hw hP hD hS dX5_add0_33
set_option maxHeartbeats 4000000 in
set_option maxRecDepth 100000 in
theorem M_X5_subtract (l : Launch) (G : va_G) (cI cJ : ClassId) (Ay Bmr Bfg Bln Btp Bbl Btr Bwh : Nat) (mrow : Nat → Int32) (mrs : Int32) (ma : Int32) (mb : Int32) (mlo : Int32) (mhi : Int32) (man : Int32) (mtl : Int32) (mtm : Int32) (fig : Nat → Int64) (len : Nat → Int32) (top : Nat → Int64) (bel : Nat → Int64) (thr : Int32) (trm : Nat → Int32) (who : Nat → Int32) (p0 : Int32) (p1 : Int32) (p2 : Int32) (Q : (Nat → Int64) → (Nat → Int32) → (Nat → Int64) → (Nat → Int64) → Prop) (hw : w_X5_subtract fig len top bel p0 p1 p2 Q) : Kv l yX5_subtract wsX5_subtract rm_X5_subtract G cI cJ [.ref Ay, .int p0, .int p1, .int p2] (wX5 cI cJ Ay Bmr Bfg Bln Btp Bbl Btr Bwh mrow mrs ma mb mlo mhi man mtl mtm fig len top bel thr trm who) (fun (u : (Nat → Int64) × (Nat → Int32) × (Nat → Int64) × (Nat → Int64)) => Q u.1 u.2.1 u.2.2.1 u.2.2.2) (fun u => (wX5 cI cJ Ay Bmr Bfg Bln Btp Bbl Btr Bwh mrow mrs ma mb mlo mhi man mtl mtm u.1 u.2.1 u.2.2.1 u.2.2.2 thr trm who)) := by
  refine kv_intro (cc := cX5_subtract) (maxL := 4) rfl rfl (by decide) rfl (Nat.le_of_ble_eq_true rfl) ?_
  intro p e s m args below meth c A Z ls hx hb hml hts hown hP hK hD hS hA hl hret
  have hl : lv_has ls 4 [(0, .ref Ay), (1, .int p0), (2, .int p1), (3, .int p2)] := hl
  unfold w_X5_subtract at hw
  refine lv_aload_n hx hb dX5_subtract_0 rfl (lv_at hl 0 rfl) ?_
  refine lv_iload_n hx hb dX5_subtract_1 rfl (lv_at hl 2 rfl) ?_
  refine lv_iload_n hx hb dX5_subtract_2 rfl (lv_at hl 3 rfl) ?_
  refine k_Vv (M_X5_cross l G cI cJ Ay Bmr Bfg Bln Btp Bbl Btr Bwh mrow mrs ma mb mlo mhi man mtl mtm fig len top bel thr trm who p1 p2 _ hw) ⟨hx, hb, hml, hown, hts⟩ (cwV 2 hts gX5_subtract_X5_cross rfl rfl rfl (by decide +kernel) ⟨Nat.le_of_ble_eq_true rfl, Nat.le_of_ble_eq_true rfl⟩) hK hP hD hS hA [0, 1, 2, 3, 4, 5, 6, 7] [] [0, 1, 2, 3, 4, 5, 6, 7] (wr := []) (wn := fun u : (Nat → Int64) × (Nat → Int32) × (Nat → Int64) => (wX5 cI cJ Ay Bmr Bfg Bln Btp Bbl Btr Bwh mrow mrs ma mb mlo mhi man mtl mtm u.1 u.2.1 u.2.2 bel thr trm who)) rfl rfl (by decide) (by decide) (by decide) (by decide) (fun _ => rfl) (rest := []) (q0 := 0) rfl rfl rfl hl.1 rfl (Nat.le_of_ble_eq_true rfl) (Nat.zero_le _) (Nat.zero_le _) dX5_subtract_3 (fun u H locs hw hP hD hS => ?_)
  obtain ⟨fig_1, len_2, top_3⟩ := u
  have hP : va_P G vwCl (wX5 cI cJ Ay Bmr Bfg Bln Btp Bbl Btr Bwh mrow mrs ma mb mlo mhi man mtl mtm fig_1 len_2 top_3 bel thr trm who) H := hP
  have hD : va_D A (wX5 cI cJ Ay Bmr Bfg Bln Btp Bbl Btr Bwh mrow mrs ma mb mlo mhi man mtl mtm fig_1 len_2 top_3 bel thr trm who) := hD
  refine lv_aload_n hx hb dX5_subtract_6 rfl (lv_at hl 0 rfl) ?_
  refine lv_bipush (v := 17) hx hb dX5_subtract_7 (by decide) ?_
  refine lv_bipush (v := 14) hx hb dX5_subtract_9 (by decide) ?_
  refine lv_bipush (v := 16) hx hb dX5_subtract_11 (by decide) ?_
  refine k_Vv (M_X5_minus l G cI cJ Ay Bmr Bfg Bln Btp Bbl Btr Bwh mrow mrs ma mb mlo mhi man mtl mtm fig_1 len_2 top_3 bel thr trm who (17 : Int32) (14 : Int32) (16 : Int32) _ hw) ⟨hx, hb, hml, hown, hts⟩ (cwV 3 hts gX5_subtract_X5_minus rfl rfl rfl (by decide +kernel) ⟨Nat.le_of_ble_eq_true rfl, Nat.le_of_ble_eq_true rfl⟩) hK hP hD hS hA [0, 1, 2, 3, 4, 5, 6, 7] [] [0, 1, 2, 3, 4, 5, 6, 7] (wr := []) (wn := fun u : (Nat → Int64) × (Nat → Int32) × (Nat → Int64) => (wX5 cI cJ Ay Bmr Bfg Bln Btp Bbl Btr Bwh mrow mrs ma mb mlo mhi man mtl mtm u.1 u.2.1 u.2.2 bel thr trm who)) rfl rfl (by decide) (by decide) (by decide) (by decide) (fun _ => rfl) (rest := []) (q0 := 0) rfl rfl rfl hl.1 rfl (Nat.le_of_ble_eq_true rfl) (Nat.zero_le _) (Nat.zero_le _) dX5_subtract_13 (fun u H locs hw hP hD hS => ?_)
  obtain ⟨fig_4, len_5, top_6⟩ := u
  have hP : va_P G vwCl (wX5 cI cJ Ay Bmr Bfg Bln Btp Bbl Btr Bwh mrow mrs ma mb mlo mhi man mtl mtm fig_4 len_5 top_6 bel thr trm who) H := hP
  have hD : va_D A (wX5 cI cJ Ay Bmr Bfg Bln Btp Bbl Btr Bwh mrow mrs ma mb mlo mhi man mtl mtm fig_4 len_5 top_6 bel thr trm who) := hD
  refine lv_aload_n hx hb dX5_subtract_16 rfl (lv_at hl 0 rfl) ?_
  refine lv_bipush (v := 14) hx hb dX5_subtract_17 (by decide) ?_
  refine lv_bipush (v := 17) hx hb dX5_subtract_19 (by decide) ?_
  refine k_Vv (M_X5_copy l G cI cJ Ay Bmr Bfg Bln Btp Bbl Btr Bwh mrow mrs ma mb mlo mhi man mtl mtm fig_4 len_5 top_6 bel thr trm who (14 : Int32) (17 : Int32) _ hw) ⟨hx, hb, hml, hown, hts⟩ (cwV 2 hts gX5_subtract_X5_copy rfl rfl rfl (by decide +kernel) ⟨Nat.le_of_ble_eq_true rfl, Nat.le_of_ble_eq_true rfl⟩) hK hP hD hS hA [0, 1, 2, 3, 4, 5, 6, 7] [] [0, 1, 2, 3, 4, 5, 6, 7] (wr := []) (wn := fun u : (Nat → Int64) × (Nat → Int32) => (wX5 cI cJ Ay Bmr Bfg Bln Btp Bbl Btr Bwh mrow mrs ma mb mlo mhi man mtl mtm u.1 u.2 top_6 bel thr trm who)) rfl rfl (by decide) (by decide) (by decide) (by decide) (fun _ => rfl) (rest := []) (q0 := 0) rfl rfl rfl hl.1 rfl (Nat.le_of_ble_eq_true rfl) (Nat.zero_le _) (Nat.zero_le _) dX5_subtract_21 (fun u H locs hw hP hD hS => ?_)
  obtain ⟨fig_7, len_8⟩ := u
  have hP : va_P G vwCl (wX5 cI cJ Ay Bmr Bfg Bln Btp Bbl Btr Bwh mrow mrs ma mb mlo mhi man mtl mtm fig_7 len_8 top_6 bel thr trm who) H := hP
  have hD : va_D A (wX5 cI cJ Ay Bmr Bfg Bln Btp Bbl Btr Bwh mrow mrs ma mb mlo mhi man mtl mtm fig_7 len_8 top_6 bel thr trm who) := hD
  refine lv_aload_n hx hb dX5_subtract_24 rfl (lv_at hl 0 rfl) ?_
  refine lv_iload_n hx hb dX5_subtract_25 rfl (lv_at hl 1 rfl) ?_
  refine lv_bipush (v := 14) hx hb dX5_subtract_26 (by decide) ?_
  refine lv_bipush (v := 15) hx hb dX5_subtract_28 (by decide) ?_
  refine k_Vv (M_X5_lowest l G cI cJ Ay Bmr Bfg Bln Btp Bbl Btr Bwh mrow mrs ma mb mlo mhi man mtl mtm fig_7 len_8 top_6 bel thr trm who p0 (14 : Int32) (15 : Int32) _ hw) ⟨hx, hb, hml, hown, hts⟩ (cwV 3 hts gX5_subtract_X5_lowest rfl rfl rfl (by decide +kernel) ⟨Nat.le_of_ble_eq_true rfl, Nat.le_of_ble_eq_true rfl⟩) hK hP hD hS hA [0, 1, 2, 3, 4, 5, 6, 7] [] [0, 1, 2, 3, 4, 5, 6, 7] (wr := []) (wn := fun u : (Nat → Int64) × (Nat → Int32) × (Nat → Int64) × (Nat → Int64) => (wX5 cI cJ Ay Bmr Bfg Bln Btp Bbl Btr Bwh mrow mrs ma mb mlo mhi man mtl mtm u.1 u.2.1 u.2.2.1 u.2.2.2 thr trm who)) rfl rfl (by decide) (by decide) (by decide) (by decide) (fun _ => rfl) (rest := []) (q0 := 0) rfl rfl rfl hl.1 rfl (Nat.le_of_ble_eq_true rfl) (Nat.zero_le _) (Nat.zero_le _) dX5_subtract_30 (fun u H locs hw hP hD hS => ?_)
  obtain ⟨fig_9, len_10, top_11, bel_12⟩ := u
  have hP : va_P G vwCl (wX5 cI cJ Ay Bmr Bfg Bln Btp Bbl Btr Bwh mrow mrs ma mb mlo mhi man mtl mtm fig_9 len_10 top_11 bel_12 thr trm who) H := hP
  have hD : va_D A (wX5 cI cJ Ay Bmr Bfg Bln Btp Bbl Btr Bwh mrow mrs ma mb mlo mhi man mtl mtm fig_9 len_10 top_11 bel_12 thr trm who) := hD
  exact hret (fig_9, len_10, top_11, bel_12) _ _ _ _ hw hP hD hS dX5_subtract_33
set_option maxHeartbeats 4000000 in
set_option maxRecDepth 100000 in
theorem M_X5_isMore (l : Launch) (G : va_G) (cI cJ : ClassId) (Ay Bmr Bfg Bln Btp Bbl Btr Bwh : Nat) (mrow : Nat → Int32) (mrs : Int32) (ma : Int32) (mb : Int32) (mlo : Int32) (mhi : Int32) (man : Int32) (mtl : Int32) (mtm : Int32) (fig : Nat → Int64) (len : Nat → Int32) (top : Nat → Int64) (bel : Nat → Int64) (thr : Int32) (trm : Nat → Int32) (who : Nat → Int32) (p0 : Int32) (p1 : Int32) (Q : Int32 → (Nat → Int64) → (Nat → Int32) → (Nat → Int64) → Prop) (hw : w_X5_isMore fig len top p0 p1 Q) : Ki l yX5_isMore wsX5_isMore rm_X5_isMore G cI cJ [.ref Ay, .int p0, .int p1] (wX5 cI cJ Ay Bmr Bfg Bln Btp Bbl Btr Bwh mrow mrs ma mb mlo mhi man mtl mtm fig len top bel thr trm who) (fun (r : Int32) (u : (Nat → Int64) × (Nat → Int32) × (Nat → Int64)) => wB r ∧ Q r u.1 u.2.1 u.2.2) (fun u => (wX5 cI cJ Ay Bmr Bfg Bln Btp Bbl Btr Bwh mrow mrs ma mb mlo mhi man mtl mtm u.1 u.2.1 u.2.2 bel thr trm who)) := by
  refine kz_intro (cc := cX5_isMore) (maxL := 3) rfl rfl (by decide) rfl (Nat.le_of_ble_eq_true rfl) ?_
  intro p e s m args below meth c A Z ls hx hb hml hts hown hP hK hD hS hA hl hret
  have hl : lv_has ls 3 [(0, .ref Ay), (1, .int p0), (2, .int p1)] := hl
  unfold w_X5_isMore at hw
  refine lv_aload_n hx hb dX5_isMore_0 rfl (lv_at hl 0 rfl) ?_
  refine lv_iload_n hx hb dX5_isMore_1 rfl (lv_at hl 1 rfl) ?_
  refine lv_iload_n hx hb dX5_isMore_2 rfl (lv_at hl 2 rfl) ?_
  refine k_Vv (M_X5_cross l G cI cJ Ay Bmr Bfg Bln Btp Bbl Btr Bwh mrow mrs ma mb mlo mhi man mtl mtm fig len top bel thr trm who p0 p1 _ hw) ⟨hx, hb, hml, hown, hts⟩ (cwV 2 hts gX5_isMore_X5_cross rfl rfl rfl (by decide +kernel) ⟨Nat.le_of_ble_eq_true rfl, Nat.le_of_ble_eq_true rfl⟩) hK hP hD hS hA [0, 1, 2, 3, 4, 5, 6, 7] [] [0, 1, 2, 3, 4, 5, 6, 7] (wr := []) (wn := fun u : (Nat → Int64) × (Nat → Int32) × (Nat → Int64) => (wX5 cI cJ Ay Bmr Bfg Bln Btp Bbl Btr Bwh mrow mrs ma mb mlo mhi man mtl mtm u.1 u.2.1 u.2.2 bel thr trm who)) rfl rfl (by decide) (by decide) (by decide) (by decide) (fun _ => rfl) (rest := []) (q0 := 0) rfl rfl rfl hl.1 rfl (Nat.le_of_ble_eq_true rfl) (Nat.zero_le _) (Nat.zero_le _) dX5_isMore_3 (fun u H locs hw hP hD hS => ?_)
  obtain ⟨fig_1, len_2, top_3⟩ := u
  have hP : va_P G vwCl (wX5 cI cJ Ay Bmr Bfg Bln Btp Bbl Btr Bwh mrow mrs ma mb mlo mhi man mtl mtm fig_1 len_2 top_3 bel thr trm who) H := hP
  have hD : va_D A (wX5 cI cJ Ay Bmr Bfg Bln Btp Bbl Btr Bwh mrow mrs ma mb mlo mhi man mtl mtm fig_1 len_2 top_3 bel thr trm who) := hD
  refine lv_aload_n hx hb dX5_isMore_6 rfl (lv_at hl 0 rfl) ?_
  refine lv_bipush (v := 14) hx hb dX5_isMore_7 (by decide) ?_
  refine lv_bipush (v := 16) hx hb dX5_isMore_9 (by decide) ?_
  refine k_Vi (M_X5_compare l G cI cJ Ay Bmr Bfg Bln Btp Bbl Btr Bwh mrow mrs ma mb mlo mhi man mtl mtm fig_1 len_2 top_3 bel thr trm who (14 : Int32) (16 : Int32) _ hw) ⟨hx, hb, hml, hown, hts⟩ (cwV 2 hts gX5_isMore_X5_compare rfl rfl rfl (by decide +kernel) ⟨Nat.le_of_ble_eq_true rfl, Nat.le_of_ble_eq_true rfl⟩) hK hP hD hS hA [0, 1, 2, 3, 4, 5, 6, 7] [] [0, 1, 2, 3, 4, 5, 6, 7] (wr := []) (wn := fun u : Unit => (wX5 cI cJ Ay Bmr Bfg Bln Btp Bbl Btr Bwh mrow mrs ma mb mlo mhi man mtl mtm fig_1 len_2 top_3 bel thr trm who)) rfl rfl (by decide) (by decide) (by decide) (by decide) (fun _ => rfl) (rest := []) (q0 := 0) rfl rfl rfl hl.1 rfl (Nat.le_of_ble_eq_true rfl) (Nat.zero_le _) (Nat.zero_le _) dX5_isMore_11 (fun r_4 u H locs hw hP hD hS => ?_)
  refine lv_if_le (tgt := 21) hx hb dX5_isMore_14 (by decide) (fun c_5 => ?_) (fun c_5 => ?_)
  · have hw := hw.1 c_5
    refine lv_iconst (v := 0) hx hb dX5_isMore_21 (by decide) ?_
    exact hret _ (fig_1, len_2, top_3) _ _ _ _ (Or.inl rfl) hw hP hD hS dX5_isMore_22
  · have hw := hw.2 c_5
    refine lv_iconst (v := 1) hx hb dX5_isMore_17 (by decide) ?_
    refine lv_goto (tgt := 22) hx hb dX5_isMore_18 (by decide) ?_
    exact hret _ (fig_1, len_2, top_3) _ _ _ _ (Or.inr rfl) hw hP hD hS dX5_isMore_22
theorem fX5_add_46 : Cond.fieldLink RX5 46 "PrivateCountsModel" "thrown" "I" ∈ wsX5_add := by decide +kernel
theorem uX5_add_X5 : ∀ w ∈ u_ws RX5 TX5 16, w ∈ wsX5_add := by decide +kernel
theorem fX5_add_98 : Cond.fieldLink RX5 98 "PrivateCountsModel" "rows" "I" ∈ wsX5_add := by decide +kernel
theorem fX5_add_7 : Cond.fieldLink RX5 7 "PrivateCountsModel" "row" "[I" ∈ wsX5_add := by decide +kernel
set_option maxHeartbeats 4000000 in
set_option maxRecDepth 100000 in
theorem M_X5_add (l : Launch) (G : va_G) (cI cJ : ClassId) (Ay Bmr Bfg Bln Btp Bbl Btr Bwh : Nat) (mrow : Nat → Int32) (mrs : Int32) (ma : Int32) (mb : Int32) (mlo : Int32) (mhi : Int32) (man : Int32) (mtl : Int32) (mtm : Int32) (fig : Nat → Int64) (len : Nat → Int32) (top : Nat → Int64) (bel : Nat → Int64) (thr : Int32) (trm : Nat → Int32) (who : Nat → Int32) (p0 : Int32) (Q : Int32 → (Nat → Int32) → Int32 → Int32 → Prop) (hw : w_X5_add mrow mrs thr p0 Q) : Ki l yX5_add wsX5_add rm_X5_add G cI cJ [.ref Ay, .int p0] (wX5 cI cJ Ay Bmr Bfg Bln Btp Bbl Btr Bwh mrow mrs ma mb mlo mhi man mtl mtm fig len top bel thr trm who) (fun (r : Int32) (u : (Nat → Int32) × (Int32) × (Int32)) => Q r u.1 u.2.1 u.2.2) (fun u => (wX5 cI cJ Ay Bmr Bfg Bln Btp Bbl Btr Bwh u.1 u.2.1 ma mb mlo mhi man mtl mtm fig len top bel u.2.2 trm who)) := by
  refine ki_intro (cc := cX5_add) (maxL := 2) rfl rfl (by decide) rfl (Nat.le_of_ble_eq_true rfl) ?_
  intro p e s m args below meth c A Z ls hx hb hml hts hown hP hK hD hS hA hl hret
  have hl : lv_has ls 2 [(0, .ref Ay), (1, .int p0)] := hl
  unfold w_X5_add at hw
  refine lv_aload_n hx hb dX5_add_0 rfl (lv_at hl 0 rfl) ?_
  refine lv_iconst (v := 0) hx hb dX5_add_1 (by decide) ?_
  refine k_put hx hb hts uX5_add_X5 tyX5 tyX5_ok nmX5 hown hK hP hD hS 0 5 rfl rfl 13 (by decide) fX5_add_46 rfl rfl rfl (Nat.le_of_ble_eq_true rfl) (w' := (wX5 cI cJ Ay Bmr Bfg Bln Btp Bbl Btr Bwh mrow mrs ma mb mlo mhi man mtl mtm fig len top bel 0 trm who)) rfl dX5_add_2 (fun H locs hP hD hS => ?_)
  refine lv_aload_n hx hb dX5_add_5 rfl (lv_at hl 0 rfl) ?_
  refine k_get hx hb hts uX5_add_X5 hown hK hP 0 5 rfl rfl 1 (by decide) fX5_add_98 (.int mrs) rfl dX5_add_6 ?_
  refine lv_bipush (v := 60) hx hb dX5_add_9 (by decide) ?_
  refine lv_icmp_ne (tgt := 16) hx hb dX5_add_11 (by decide) (fun c_3 => ?_) (fun c_3 => ?_)
  · have hw := hw.1 c_3
    refine lv_aload_n hx hb dX5_add_16 rfl (lv_at hl 0 rfl) ?_
    refine k_get hx hb hts uX5_add_X5 hown hK hP 0 5 rfl rfl 0 (by decide) fX5_add_7 (.ref Bmr) rfl dX5_add_17 ?_
    refine lv_aload_n hx hb dX5_add_20 rfl (lv_at hl 0 rfl) ?_
    refine k_get hx hb hts uX5_add_X5 hown hK hP 0 5 rfl rfl 1 (by decide) fX5_add_98 (.int mrs) rfl dX5_add_21 ?_
    refine lv_iload_n hx hb dX5_add_24 rfl (lv_at hl 1 rfl) ?_
    obtain ⟨hin, hw⟩ := hw
    refine k_iast hx hb hK hP hD hS 1 rfl hin (w' := fun g => (wX5 cI cJ Ay Bmr Bfg Bln Btp Bbl Btr Bwh g mrs ma mb mlo mhi man mtl mtm fig len top bel 0 trm who)) (fun _ => rfl) dX5_add_25 (fun mrow_1 emrow_1 H locs hP hD hS => ?_)
    have hw := hw mrow_1 emrow_1
    refine lv_aload_n hx hb dX5_add_26 rfl (lv_at hl 0 rfl) ?_
    refine lv_dup hx hb dX5_add_27 rfl ?_
    refine k_get hx hb hts uX5_add_X5 hown hK hP 0 5 rfl rfl 1 (by decide) fX5_add_98 (.int mrs) rfl dX5_add_28 ?_
    refine lv_iconst (v := 1) hx hb dX5_add_31 (by decide) ?_
    refine lv_iadd hx hb dX5_add_32 ?_
    refine lv_topi (fun mrs_2 emrs_2 => ?_)
    have hw := hw mrs_2 emrs_2
    refine k_put hx hb hts uX5_add_X5 tyX5 tyX5_ok nmX5 hown hK hP hD hS 0 5 rfl rfl 1 (by decide) fX5_add_98 rfl rfl rfl (Nat.le_of_ble_eq_true rfl) (w' := (wX5 cI cJ Ay Bmr Bfg Bln Btp Bbl Btr Bwh mrow_1 mrs_2 ma mb mlo mhi man mtl mtm fig len top bel 0 trm who)) rfl dX5_add_33 (fun H locs hP hD hS => ?_)
    refine lv_aload_n hx hb dX5_add_36 rfl (lv_at hl 0 rfl) ?_
    refine k_get hx hb hts uX5_add_X5 hown hK hP 0 5 rfl rfl 1 (by decide) fX5_add_98 (.int mrs_2) rfl dX5_add_37 ?_
    refine lv_iconst (v := 1) hx hb dX5_add_40 (by decide) ?_
    refine lv_isub hx hb dX5_add_41 ?_
    exact hret _ (mrow_1, mrs_2, 0) _ _ _ _ hw hP hD hS dX5_add_42
  · have hw := hw.2 c_3
    refine lv_iconst (v := (-1)) hx hb dX5_add_14 (by decide) ?_
    exact hret _ (mrow, mrs, 0) _ _ _ _ hw hP hD hS dX5_add_15
theorem fX5_remove_98 : Cond.fieldLink RX5 98 "PrivateCountsModel" "rows" "I" ∈ wsX5_remove := by decide +kernel
theorem uX5_remove_X5 : ∀ w ∈ u_ws RX5 TX5 16, w ∈ wsX5_remove := by decide +kernel
theorem fX5_remove_46 : Cond.fieldLink RX5 46 "PrivateCountsModel" "thrown" "I" ∈ wsX5_remove := by decide +kernel
theorem fX5_remove_7 : Cond.fieldLink RX5 7 "PrivateCountsModel" "row" "[I" ∈ wsX5_remove := by decide +kernel
set_option maxHeartbeats 4000000 in
set_option maxRecDepth 100000 in
theorem M_X5_remove (l : Launch) (G : va_G) (cI cJ : ClassId) (Ay Bmr Bfg Bln Btp Bbl Btr Bwh : Nat) (mrow : Nat → Int32) (mrs : Int32) (ma : Int32) (mb : Int32) (mlo : Int32) (mhi : Int32) (man : Int32) (mtl : Int32) (mtm : Int32) (fig : Nat → Int64) (len : Nat → Int32) (top : Nat → Int64) (bel : Nat → Int64) (thr : Int32) (trm : Nat → Int32) (who : Nat → Int32) (p0 : Int32) (Q : Int32 → (Nat → Int32) → Int32 → Int32 → Prop) (hw : w_X5_remove mrow mrs thr p0 Q) : Ki l yX5_remove wsX5_remove rm_X5_remove G cI cJ [.ref Ay, .int p0] (wX5 cI cJ Ay Bmr Bfg Bln Btp Bbl Btr Bwh mrow mrs ma mb mlo mhi man mtl mtm fig len top bel thr trm who) (fun (r : Int32) (u : (Nat → Int32) × (Int32) × (Int32)) => Q r u.1 u.2.1 u.2.2) (fun u => (wX5 cI cJ Ay Bmr Bfg Bln Btp Bbl Btr Bwh u.1 u.2.1 ma mb mlo mhi man mtl mtm fig len top bel u.2.2 trm who)) := by
  refine ki_intro (cc := cX5_remove) (maxL := 4) rfl rfl (by decide) rfl (Nat.le_of_ble_eq_true rfl) ?_
  intro p e s m args below meth c A Z ls hx hb hml hts hown hP hK hD hS hA hl hret
  have hl : lv_has ls 4 [(0, .ref Ay), (1, .int p0)] := hl
  unfold w_X5_remove at hw
  refine lv_aload_n hx hb dX5_remove_0 rfl (lv_at hl 0 rfl) ?_
  refine lv_iload_n hx hb dX5_remove_1 rfl (lv_at hl 1 rfl) ?_
  obtain ⟨J18_2, hw, hR⟩ := hw
  have hJ18_2 : ∀ (t_1 : Int32) (_ : J18_2 t_1) (H : Heap) (locs : List Loc) (ls : Array Slot), va_P G vwCl (wX5 cI cJ Ay Bmr Bfg Bln Btp Bbl Btr Bwh mrow mrs ma mb mlo mhi man mtl mtm fig len top bel thr trm who) H → va_D A (wX5 cI cJ Ay Bmr Bfg Bln Btp Bbl Btr Bwh mrow mrs ma mb mlo mhi man mtl mtm fig len top bel thr trm who) → va_S A s.heap H locs → lv_has ls 4 [(0, .ref Ay), (1, .int p0)] → W p l e rm_X5_remove s m args below meth c H locs 0 0 Z (F0 m 18 ls [.int t_1, .ref Ay]) := by
    intro t_1 hw H locs ls hP hD hS hl
    have hw := hR _ hw
    refine k_put hx hb hts uX5_remove_X5 tyX5 tyX5_ok nmX5 hown hK hP hD hS 0 5 rfl rfl 13 (by decide) fX5_remove_46 rfl rfl rfl (Nat.le_of_ble_eq_true rfl) (w' := (wX5 cI cJ Ay Bmr Bfg Bln Btp Bbl Btr Bwh mrow mrs ma mb mlo mhi man mtl mtm fig len top bel t_1 trm who)) rfl dX5_remove_18 (fun H locs hP hD hS => ?_)
    refine lv_aload_n hx hb dX5_remove_21 rfl (lv_at hl 0 rfl) ?_
    refine k_get hx hb hts uX5_remove_X5 hown hK hP 0 5 rfl rfl 13 (by decide) fX5_remove_46 (.int t_1) rfl dX5_remove_22 ?_
    refine lv_if_le (tgt := 30) hx hb dX5_remove_25 (by decide) (fun c_13 => ?_) (fun c_13 => ?_)
    · have hw := hw.1 c_13
      refine lv_aload_n hx hb dX5_remove_30 rfl (lv_at hl 0 rfl) ?_
      refine k_get hx hb hts uX5_remove_X5 hown hK hP 0 5 rfl rfl 0 (by decide) fX5_remove_7 (.ref Bmr) rfl dX5_remove_31 ?_
      refine lv_iload_n hx hb dX5_remove_34 rfl (lv_at hl 1 rfl) ?_
      obtain ⟨hin, hw⟩ := hw
      refine k_iald hx hb hK hP 1 rfl hin dX5_remove_35 ?_
      refine lv_topi (fun i2_5 ei2_5 => ?_)
      have hw := hw i2_5 ei2_5
      refine lv_istore_n (lv' := [(2, .int i2_5), (0, .ref Ay), (1, .int p0)]) hx hb dX5_remove_36 rfl hl (by decide) rfl (fun ls hl => ?_)
      refine lv_aload_n hx hb dX5_remove_37 rfl (lv_at hl 1 rfl) ?_
      refine lv_dup hx hb dX5_remove_38 rfl ?_
      refine k_get hx hb hts uX5_remove_X5 hown hK hP 0 5 rfl rfl 1 (by decide) fX5_remove_98 (.int mrs) rfl dX5_remove_39 ?_
      refine lv_iconst (v := 1) hx hb dX5_remove_42 (by decide) ?_
      refine lv_isub hx hb dX5_remove_43 ?_
      refine lv_topi (fun mrs_6 emrs_6 => ?_)
      have hw := hw mrs_6 emrs_6
      refine k_put hx hb hts uX5_remove_X5 tyX5 tyX5_ok nmX5 hown hK hP hD hS 0 5 rfl rfl 1 (by decide) fX5_remove_98 rfl rfl rfl (Nat.le_of_ble_eq_true rfl) (w' := (wX5 cI cJ Ay Bmr Bfg Bln Btp Bbl Btr Bwh mrow mrs_6 ma mb mlo mhi man mtl mtm fig len top bel t_1 trm who)) rfl dX5_remove_44 (fun H locs hP hD hS => ?_)
      refine lv_iload_n hx hb dX5_remove_47 rfl (lv_at hl 2 rfl) ?_
      refine lv_istore_n (lv' := [(3, .int p0), (2, .int i2_5), (0, .ref Ay), (1, .int p0)]) hx hb dX5_remove_48 rfl hl (by decide) rfl (fun ls hl => ?_)
      obtain ⟨I49_9, μ49_9, hi, hw⟩ := hw
      suffices hLI49_9 : ∀ (N : Nat) (i3_7 : Int32) (mrow_8 : Nat → Int32) (_ : μ49_9 i3_7 mrow_8 = N) (_ : I49_9 i3_7 mrow_8) (H : Heap) (locs : List Loc) (ls : Array Slot), va_P G vwCl (wX5 cI cJ Ay Bmr Bfg Bln Btp Bbl Btr Bwh mrow_8 mrs_6 ma mb mlo mhi man mtl mtm fig len top bel t_1 trm who) H → va_D A (wX5 cI cJ Ay Bmr Bfg Bln Btp Bbl Btr Bwh mrow_8 mrs_6 ma mb mlo mhi man mtl mtm fig len top bel t_1 trm who) → va_S A s.heap H locs → lv_has ls 4 [(3, .int i3_7), (2, .int i2_5), (0, .ref Ay)] → W p l e rm_X5_remove s m args below meth c H locs 0 0 Z (F0 m 49 ls []) from
        hLI49_9 _ p0 mrow rfl hi _ _ _ hP hD hS (lv_sub hl [0, 1, 2] rfl)
      clear hi hP hD hS hl
      intro N
      induction N using Nat.strongRecOn with
      | ind N ihI49_9 =>
        intro i3_7 mrow_8 hNI49_9 hi H locs ls hP hD hS hl
        have hw := hw i3_7 mrow_8 hi
        refine lv_iload_n hx hb dX5_remove_49 rfl (lv_at hl 0 rfl) ?_
        refine lv_aload_n hx hb dX5_remove_50 rfl (lv_at hl 2 rfl) ?_
        refine k_get hx hb hts uX5_remove_X5 hown hK hP 0 5 rfl rfl 1 (by decide) fX5_remove_98 (.int mrs_6) rfl dX5_remove_51 ?_
        refine lv_icmp_ge (tgt := 77) hx hb dX5_remove_54 (by decide) (fun c_12 => ?_) (fun c_12 => ?_)
        · have hw := hw.1 c_12
          refine lv_iload_n hx hb dX5_remove_77 rfl (lv_at hl 1 rfl) ?_
          exact hret _ (mrow_8, mrs_6, t_1) _ _ _ _ hw hP hD hS dX5_remove_78
        · have hw := hw.2 c_12
          refine lv_aload_n hx hb dX5_remove_57 rfl (lv_at hl 2 rfl) ?_
          refine k_get hx hb hts uX5_remove_X5 hown hK hP 0 5 rfl rfl 0 (by decide) fX5_remove_7 (.ref Bmr) rfl dX5_remove_58 ?_
          refine lv_iload_n hx hb dX5_remove_61 rfl (lv_at hl 0 rfl) ?_
          refine lv_aload_n hx hb dX5_remove_62 rfl (lv_at hl 2 rfl) ?_
          refine k_get hx hb hts uX5_remove_X5 hown hK hP 0 5 rfl rfl 0 (by decide) fX5_remove_7 (.ref Bmr) rfl dX5_remove_63 ?_
          refine lv_iload_n hx hb dX5_remove_66 rfl (lv_at hl 0 rfl) ?_
          refine lv_iconst (v := 1) hx hb dX5_remove_67 (by decide) ?_
          refine lv_iadd hx hb dX5_remove_68 ?_
          obtain ⟨hin, hw⟩ := hw
          refine k_iald hx hb hK hP 1 rfl hin dX5_remove_69 ?_
          obtain ⟨hin, hw⟩ := hw
          refine k_iast hx hb hK hP hD hS 1 rfl hin (w' := fun g => (wX5 cI cJ Ay Bmr Bfg Bln Btp Bbl Btr Bwh g mrs_6 ma mb mlo mhi man mtl mtm fig len top bel t_1 trm who)) (fun _ => rfl) dX5_remove_70 (fun mrow_10 emrow_10 H locs hP hD hS => ?_)
          have hw := hw mrow_10 emrow_10
          obtain ⟨i3_11, ei3_11⟩ : ∃ y : Int32, y = i3_7 + 1 := ⟨_, rfl⟩
          have hw := hw i3_11 ei3_11
          refine lv_iinc (v := i3_11) (lv' := [(3, .int i3_11), (2, .int i2_5), (0, .ref Ay)]) hx hb dX5_remove_71 hl (k := 0) rfl (by rw [ei3_11]; rfl) (by decide) rfl (fun ls hl => ?_)
          refine lv_goto (tgt := 49) hx hb dX5_remove_74 (by decide) ?_
          exact ihI49_9 _ (by rw [← hNI49_9]; exact hw.2) i3_11 mrow_10 rfl hw.1 _ _ _ hP hD hS (lv_sub hl [0, 1, 2] rfl)
    · have hw := hw.2 c_13
      refine lv_iconst (v := 0) hx hb dX5_remove_28 (by decide) ?_
      exact hret _ (mrow, mrs, t_1) _ _ _ _ hw hP hD hS dX5_remove_29
  clear hR
  refine lv_if_lt (tgt := 13) hx hb dX5_remove_2 (by decide) (fun c_4 => ?_) (fun c_4 => ?_)
  · have hw := hw.1 c_4
    refine lv_iconst (v := 1) hx hb dX5_remove_13 (by decide) ?_
    refine lv_goto (tgt := 18) hx hb dX5_remove_14 (by decide) ?_
    exact hJ18_2 1 hw _ _ _ hP hD hS (lv_sub hl [0, 1] rfl)
  · have hw := hw.2 c_4
    refine lv_iload_n hx hb dX5_remove_5 rfl (lv_at hl 1 rfl) ?_
    refine lv_aload_n hx hb dX5_remove_6 rfl (lv_at hl 0 rfl) ?_
    refine k_get hx hb hts uX5_remove_X5 hown hK hP 0 5 rfl rfl 1 (by decide) fX5_remove_98 (.int mrs) rfl dX5_remove_7 ?_
    refine lv_icmp_lt (tgt := 17) hx hb dX5_remove_10 (by decide) (fun c_3 => ?_) (fun c_3 => ?_)
    · have hw := hw.1 c_3
      refine lv_iconst (v := 0) hx hb dX5_remove_17 (by decide) ?_
      exact hJ18_2 0 hw _ _ _ hP hD hS (lv_sub hl [0, 1] rfl)
    · have hw := hw.2 c_3
      refine lv_iconst (v := 1) hx hb dX5_remove_13 (by decide) ?_
      refine lv_goto (tgt := 18) hx hb dX5_remove_14 (by decide) ?_
      exact hJ18_2 1 hw _ _ _ hP hD hS (lv_sub hl [0, 1] rfl)
theorem fX5_countRows_98 : Cond.fieldLink RX5 98 "PrivateCountsModel" "rows" "I" ∈ wsX5_countRows := by decide +kernel
theorem uX5_countRows_X5 : ∀ w ∈ u_ws RX5 TX5 16, w ∈ wsX5_countRows := by decide +kernel
theorem fX5_countRows_7 : Cond.fieldLink RX5 7 "PrivateCountsModel" "row" "[I" ∈ wsX5_countRows := by decide +kernel
set_option maxHeartbeats 4000000 in
set_option maxRecDepth 100000 in
theorem M_X5_countRows (l : Launch) (G : va_G) (cI cJ : ClassId) (Ay Bmr Bfg Bln Btp Bbl Btr Bwh : Nat) (mrow : Nat → Int32) (mrs : Int32) (ma : Int32) (mb : Int32) (mlo : Int32) (mhi : Int32) (man : Int32) (mtl : Int32) (mtm : Int32) (fig : Nat → Int64) (len : Nat → Int32) (top : Nat → Int64) (bel : Nat → Int64) (thr : Int32) (trm : Nat → Int32) (who : Nat → Int32) (p0 : Int32) (p1 : Int32) (Q : Int32 → Prop) (hw : w_X5_countRows mrow mrs p0 p1 Q) : Ki l yX5_countRows wsX5_countRows rm_X5_countRows G cI cJ [.ref Ay, .int p0, .int p1] (wX5 cI cJ Ay Bmr Bfg Bln Btp Bbl Btr Bwh mrow mrs ma mb mlo mhi man mtl mtm fig len top bel thr trm who) (fun (r : Int32) (u : Unit) => Q r) (fun u => (wX5 cI cJ Ay Bmr Bfg Bln Btp Bbl Btr Bwh mrow mrs ma mb mlo mhi man mtl mtm fig len top bel thr trm who)) := by
  refine ki_intro (cc := cX5_countRows) (maxL := 5) rfl rfl (by decide) rfl (Nat.le_of_ble_eq_true rfl) ?_
  intro p e s m args below meth c A Z ls hx hb hml hts hown hP hK hD hS hA hl hret
  have hl : lv_has ls 5 [(0, .ref Ay), (1, .int p0), (2, .int p1)] := hl
  unfold w_X5_countRows at hw
  refine lv_iconst (v := 0) hx hb dX5_countRows_0 (by decide) ?_
  refine lv_istore_n (lv' := [(3, .int 0), (0, .ref Ay), (1, .int p0), (2, .int p1)]) hx hb dX5_countRows_1 rfl hl (by decide) rfl (fun ls hl => ?_)
  refine lv_iconst (v := 0) hx hb dX5_countRows_2 (by decide) ?_
  refine lv_istore (lv' := [(4, .int 0), (3, .int 0), (0, .ref Ay), (1, .int p0), (2, .int p1)]) hx hb dX5_countRows_3 hl (by decide) rfl (fun ls hl => ?_)
  obtain ⟨I5_3, μ5_3, hi, hw⟩ := hw
  suffices hLI5_3 : ∀ (N : Nat) (i4_1 : Int32) (i3_2 : Int32) (_ : μ5_3 i4_1 i3_2 = N) (_ : I5_3 i4_1 i3_2) (H : Heap) (locs : List Loc) (ls : Array Slot), va_P G vwCl (wX5 cI cJ Ay Bmr Bfg Bln Btp Bbl Btr Bwh mrow mrs ma mb mlo mhi man mtl mtm fig len top bel thr trm who) H → va_D A (wX5 cI cJ Ay Bmr Bfg Bln Btp Bbl Btr Bwh mrow mrs ma mb mlo mhi man mtl mtm fig len top bel thr trm who) → va_S A s.heap H locs → lv_has ls 5 [(4, .int i4_1), (3, .int i3_2), (0, .ref Ay), (1, .int p0), (2, .int p1)] → W p l e rm_X5_countRows s m args below meth c H locs 0 0 Z (F0 m 5 ls []) from
    hLI5_3 _ (0 : Int32) (0 : Int32) rfl hi _ _ _ hP hD hS (lv_sub hl [0, 1, 2, 3, 4] rfl)
  clear hi hP hD hS hl
  intro N
  induction N using Nat.strongRecOn with
  | ind N ihI5_3 =>
    intro i4_1 i3_2 hNI5_3 hi H locs ls hP hD hS hl
    have hw := hw i4_1 i3_2 hi
    refine lv_iload hx hb dX5_countRows_5 (lv_at hl 0 rfl) ?_
    refine lv_aload_n hx hb dX5_countRows_7 rfl (lv_at hl 2 rfl) ?_
    refine k_get hx hb hts uX5_countRows_X5 hown hK hP 0 5 rfl rfl 1 (by decide) fX5_countRows_98 (.int mrs) rfl dX5_countRows_8 ?_
    refine lv_icmp_ge (tgt := 50) hx hb dX5_countRows_11 (by decide) (fun c_12 => ?_) (fun c_12 => ?_)
    · have hw := hw.1 c_12
      refine lv_iload_n hx hb dX5_countRows_50 rfl (lv_at hl 1 rfl) ?_
      exact hret _ () _ _ _ _ hw hP hD hS dX5_countRows_51
    · have hw := hw.2 c_12
      refine lv_iload_n hx hb dX5_countRows_14 rfl (lv_at hl 1 rfl) ?_
      refine lv_aload_n hx hb dX5_countRows_15 rfl (lv_at hl 2 rfl) ?_
      refine k_get hx hb hts uX5_countRows_X5 hown hK hP 0 5 rfl rfl 0 (by decide) fX5_countRows_7 (.ref Bmr) rfl dX5_countRows_16 ?_
      refine lv_iload hx hb dX5_countRows_19 (lv_at hl 0 rfl) ?_
      obtain ⟨hin, hw⟩ := hw
      refine k_iald hx hb hK hP 1 rfl hin dX5_countRows_21 ?_
      refine lv_iload_n hx hb dX5_countRows_22 rfl (lv_at hl 3 rfl) ?_
      refine lv_icmp_lt (tgt := 41) hx hb dX5_countRows_23 (by decide) (fun c_11 => ?_) (fun c_11 => ?_)
      · have hw := hw.1 c_11
        refine lv_iconst (v := 0) hx hb dX5_countRows_41 (by decide) ?_
        refine lv_iadd hx hb dX5_countRows_42 ?_
        refine lv_topi (fun i3_4 ei3_4 => ?_)
        have hw := hw i3_4 ei3_4
        refine lv_istore_n (lv' := [(3, .int i3_4), (4, .int i4_1), (0, .ref Ay), (1, .int p0), (2, .int p1)]) hx hb dX5_countRows_43 rfl hl (by decide) rfl (fun ls hl => ?_)
        obtain ⟨i4_5, ei4_5⟩ : ∃ y : Int32, y = i4_1 + 1 := ⟨_, rfl⟩
        have hw := hw i4_5 ei4_5
        refine lv_iinc (v := i4_5) (lv' := [(4, .int i4_5), (3, .int i3_4), (0, .ref Ay), (1, .int p0), (2, .int p1)]) hx hb dX5_countRows_44 hl (k := 1) rfl (by rw [ei4_5]; rfl) (by decide) rfl (fun ls hl => ?_)
        refine lv_goto (tgt := 5) hx hb dX5_countRows_47 (by decide) ?_
        exact ihI5_3 _ (by rw [← hNI5_3]; exact hw.2) i4_5 i3_4 rfl hw.1 _ _ _ hP hD hS (lv_sub hl [0, 1, 2, 3, 4] rfl)
      · have hw := hw.2 c_11
        refine lv_aload_n hx hb dX5_countRows_26 rfl (lv_at hl 2 rfl) ?_
        refine k_get hx hb hts uX5_countRows_X5 hown hK hP 0 5 rfl rfl 0 (by decide) fX5_countRows_7 (.ref Bmr) rfl dX5_countRows_27 ?_
        refine lv_iload hx hb dX5_countRows_30 (lv_at hl 0 rfl) ?_
        obtain ⟨hin, hw⟩ := hw
        refine k_iald hx hb hK hP 1 rfl hin dX5_countRows_32 ?_
        refine lv_iload_n hx hb dX5_countRows_33 rfl (lv_at hl 4 rfl) ?_
        refine lv_icmp_gt (tgt := 41) hx hb dX5_countRows_34 (by decide) (fun c_10 => ?_) (fun c_10 => ?_)
        · have hw := hw.1 c_10
          refine lv_iconst (v := 0) hx hb dX5_countRows_41 (by decide) ?_
          refine lv_iadd hx hb dX5_countRows_42 ?_
          refine lv_topi (fun i3_6 ei3_6 => ?_)
          have hw := hw i3_6 ei3_6
          refine lv_istore_n (lv' := [(3, .int i3_6), (4, .int i4_1), (0, .ref Ay), (1, .int p0), (2, .int p1)]) hx hb dX5_countRows_43 rfl hl (by decide) rfl (fun ls hl => ?_)
          obtain ⟨i4_7, ei4_7⟩ : ∃ y : Int32, y = i4_1 + 1 := ⟨_, rfl⟩
          have hw := hw i4_7 ei4_7
          refine lv_iinc (v := i4_7) (lv' := [(4, .int i4_7), (3, .int i3_6), (0, .ref Ay), (1, .int p0), (2, .int p1)]) hx hb dX5_countRows_44 hl (k := 1) rfl (by rw [ei4_7]; rfl) (by decide) rfl (fun ls hl => ?_)
          refine lv_goto (tgt := 5) hx hb dX5_countRows_47 (by decide) ?_
          exact ihI5_3 _ (by rw [← hNI5_3]; exact hw.2) i4_7 i3_6 rfl hw.1 _ _ _ hP hD hS (lv_sub hl [0, 1, 2, 3, 4] rfl)
        · have hw := hw.2 c_10
          refine lv_iconst (v := 1) hx hb dX5_countRows_37 (by decide) ?_
          refine lv_goto (tgt := 42) hx hb dX5_countRows_38 (by decide) ?_
          refine lv_iadd hx hb dX5_countRows_42 ?_
          refine lv_topi (fun i3_8 ei3_8 => ?_)
          have hw := hw i3_8 ei3_8
          refine lv_istore_n (lv' := [(3, .int i3_8), (4, .int i4_1), (0, .ref Ay), (1, .int p0), (2, .int p1)]) hx hb dX5_countRows_43 rfl hl (by decide) rfl (fun ls hl => ?_)
          obtain ⟨i4_9, ei4_9⟩ : ∃ y : Int32, y = i4_1 + 1 := ⟨_, rfl⟩
          have hw := hw i4_9 ei4_9
          refine lv_iinc (v := i4_9) (lv' := [(4, .int i4_9), (3, .int i3_8), (0, .ref Ay), (1, .int p0), (2, .int p1)]) hx hb dX5_countRows_44 hl (k := 1) rfl (by rw [ei4_9]; rfl) (by decide) rfl (fun ls hl => ?_)
          refine lv_goto (tgt := 5) hx hb dX5_countRows_47 (by decide) ?_
          exact ihI5_3 _ (by rw [← hNI5_3]; exact hw.2) i4_9 i3_8 rfl hw.1 _ _ _ hP hD hS (lv_sub hl [0, 1, 2, 3, 4] rfl)
theorem fX5_count_46 : Cond.fieldLink RX5 46 "PrivateCountsModel" "thrown" "I" ∈ wsX5_count := by decide +kernel
theorem uX5_count_X5 : ∀ w ∈ u_ws RX5 TX5 16, w ∈ wsX5_count := by decide +kernel
set_option maxHeartbeats 4000000 in
set_option maxRecDepth 100000 in
theorem M_X5_count (l : Launch) (G : va_G) (cI cJ : ClassId) (Ay Bmr Bfg Bln Btp Bbl Btr Bwh : Nat) (mrow : Nat → Int32) (mrs : Int32) (ma : Int32) (mb : Int32) (mlo : Int32) (mhi : Int32) (man : Int32) (mtl : Int32) (mtm : Int32) (fig : Nat → Int64) (len : Nat → Int32) (top : Nat → Int64) (bel : Nat → Int64) (thr : Int32) (trm : Nat → Int32) (who : Nat → Int32) (p0 : Int32) (p1 : Int32) (Q : Int32 → Int32 → Prop) (hw : w_X5_count mrow mrs thr p0 p1 Q) : Ki l yX5_count wsX5_count rm_X5_count G cI cJ [.ref Ay, .int p0, .int p1] (wX5 cI cJ Ay Bmr Bfg Bln Btp Bbl Btr Bwh mrow mrs ma mb mlo mhi man mtl mtm fig len top bel thr trm who) (fun (r : Int32) (u : (Int32)) => Q r u) (fun u => (wX5 cI cJ Ay Bmr Bfg Bln Btp Bbl Btr Bwh mrow mrs ma mb mlo mhi man mtl mtm fig len top bel u trm who)) := by
  refine ki_intro (cc := cX5_count) (maxL := 3) rfl rfl (by decide) rfl (Nat.le_of_ble_eq_true rfl) ?_
  intro p e s m args below meth c A Z ls hx hb hml hts hown hP hK hD hS hA hl hret
  have hl : lv_has ls 3 [(0, .ref Ay), (1, .int p0), (2, .int p1)] := hl
  unfold w_X5_count at hw
  refine lv_aload_n hx hb dX5_count_0 rfl (lv_at hl 0 rfl) ?_
  refine lv_iconst (v := 0) hx hb dX5_count_1 (by decide) ?_
  refine k_put hx hb hts uX5_count_X5 tyX5 tyX5_ok nmX5 hown hK hP hD hS 0 5 rfl rfl 13 (by decide) fX5_count_46 rfl rfl rfl (Nat.le_of_ble_eq_true rfl) (w' := (wX5 cI cJ Ay Bmr Bfg Bln Btp Bbl Btr Bwh mrow mrs ma mb mlo mhi man mtl mtm fig len top bel 0 trm who)) rfl dX5_count_2 (fun H locs hP hD hS => ?_)
  refine lv_aload_n hx hb dX5_count_5 rfl (lv_at hl 0 rfl) ?_
  refine lv_iload_n hx hb dX5_count_6 rfl (lv_at hl 1 rfl) ?_
  refine lv_iload_n hx hb dX5_count_7 rfl (lv_at hl 2 rfl) ?_
  refine k_Vi (M_X5_countRows l G cI cJ Ay Bmr Bfg Bln Btp Bbl Btr Bwh mrow mrs ma mb mlo mhi man mtl mtm fig len top bel 0 trm who p0 p1 _ hw) ⟨hx, hb, hml, hown, hts⟩ (cwV 2 hts gX5_count_X5_countRows rfl rfl rfl (by decide +kernel) ⟨Nat.le_of_ble_eq_true rfl, Nat.le_of_ble_eq_true rfl⟩) hK hP hD hS hA [0, 1, 2, 3, 4, 5, 6, 7] [] [0, 1, 2, 3, 4, 5, 6, 7] (wr := []) (wn := fun u : Unit => (wX5 cI cJ Ay Bmr Bfg Bln Btp Bbl Btr Bwh mrow mrs ma mb mlo mhi man mtl mtm fig len top bel 0 trm who)) rfl rfl (by decide) (by decide) (by decide) (by decide) (fun _ => rfl) (rest := []) (q0 := 0) rfl rfl rfl hl.1 rfl (Nat.le_of_ble_eq_true rfl) (Nat.zero_le _) (Nat.zero_le _) dX5_count_8 (fun r_1 u H locs hw hP hD hS => ?_)
  exact hret _ 0 _ _ _ _ hw hP hD hS dX5_count_11
set_option maxHeartbeats 4000000 in
set_option maxRecDepth 100000 in
theorem M_X5_power (l : Launch) (G : va_G) (cI cJ : ClassId) (p0 : Int64) (p1 : Int32) (Q : Int64 → Prop) (hw : w_X5_power p0 p1 Q) : Kl l yX5_power wsX5_power rm_X5_power G cI cJ [.long p0, .int p1] (w0 cI cJ) (fun (r : Int64) (u : Unit) => Q r) (fun u => (w0 cI cJ)) := by
  refine kl_intro (cc := cX5_power) (maxL := 6) rfl rfl (by decide) rfl (Nat.le_of_ble_eq_true rfl) ?_
  intro p e s m args below meth c A Z ls hx hb hml hts hown hP hK hD hS hA hl hret
  have hl : lv_has ls 6 [(0, .long p0), (2, .int p1)] := hl
  unfold w_X5_power at hw
  refine lv_lconst (v := 1) hx hb dX5_power_0 (by decide) ?_
  refine lv_lstore_n (lv' := [(3, .long 1), (0, .long p0), (2, .int p1)]) hx hb dX5_power_1 rfl hl (by decide) rfl (fun ls hl => ?_)
  refine lv_iconst (v := 0) hx hb dX5_power_2 (by decide) ?_
  refine lv_istore (lv' := [(5, .int 0), (3, .long 1), (0, .long p0), (2, .int p1)]) hx hb dX5_power_3 hl (by decide) rfl (fun ls hl => ?_)
  obtain ⟨I5_3, μ5_3, hi, hw⟩ := hw
  suffices hLI5_3 : ∀ (N : Nat) (i5_1 : Int32) (i3_2 : Int64) (_ : μ5_3 i5_1 i3_2 = N) (_ : I5_3 i5_1 i3_2) (H : Heap) (locs : List Loc) (ls : Array Slot), va_P G vwCl (w0 cI cJ) H → va_D A (w0 cI cJ) → va_S A s.heap H locs → lv_has ls 6 [(5, .int i5_1), (3, .long i3_2), (0, .long p0), (2, .int p1)] → W p l e rm_X5_power s m args below meth c H locs 0 0 Z (F0 m 5 ls []) from
    hLI5_3 _ (0 : Int32) (1 : Int64) rfl hi _ _ _ hP hD hS (lv_sub hl [0, 1, 2, 3] rfl)
  clear hi hP hD hS hl
  intro N
  induction N using Nat.strongRecOn with
  | ind N ihI5_3 =>
    intro i5_1 i3_2 hNI5_3 hi H locs ls hP hD hS hl
    have hw := hw i5_1 i3_2 hi
    refine lv_iload hx hb dX5_power_5 (lv_at hl 0 rfl) ?_
    refine lv_iload_n hx hb dX5_power_7 rfl (lv_at hl 3 rfl) ?_
    refine lv_icmp_ge (tgt := 21) hx hb dX5_power_8 (by decide) (fun c_6 => ?_) (fun c_6 => ?_)
    · have hw := hw.1 c_6
      refine lv_lload_n hx hb dX5_power_21 rfl (lv_at hl 1 rfl) ?_
      exact hret _ () _ _ _ _ hw hP hD hS dX5_power_22
    · have hw := hw.2 c_6
      refine lv_lload_n hx hb dX5_power_11 rfl (lv_at hl 1 rfl) ?_
      refine lv_lload_n hx hb dX5_power_12 rfl (lv_at hl 2 rfl) ?_
      refine lv_lmul hx hb dX5_power_13 ?_
      refine lv_topl (fun i3_4 ei3_4 => ?_)
      have hw := hw i3_4 ei3_4
      refine lv_lstore_n (lv' := [(3, .long i3_4), (5, .int i5_1), (0, .long p0), (2, .int p1)]) hx hb dX5_power_14 rfl hl (by decide) rfl (fun ls hl => ?_)
      obtain ⟨i5_5, ei5_5⟩ : ∃ y : Int32, y = i5_1 + 1 := ⟨_, rfl⟩
      have hw := hw i5_5 ei5_5
      refine lv_iinc (v := i5_5) (lv' := [(5, .int i5_5), (3, .long i3_4), (0, .long p0), (2, .int p1)]) hx hb dX5_power_15 hl (k := 1) rfl (by rw [ei5_5]; rfl) (by decide) rfl (fun ls hl => ?_)
      refine lv_goto (tgt := 5) hx hb dX5_power_18 (by decide) ?_
      exact ihI5_3 _ (by rw [← hNI5_3]; exact hw.2) i5_5 i3_4 rfl hw.1 _ _ _ hP hD hS (lv_sub hl [0, 1, 2, 3] rfl)
theorem fX5_allOf_13 : Cond.fieldLink RX5 13 "PrivateCountsModel" "a" "I" ∈ wsX5_allOf := by decide +kernel
theorem uX5_allOf_X5 : ∀ w ∈ u_ws RX5 TX5 16, w ∈ wsX5_allOf := by decide +kernel
theorem fX5_allOf_17 : Cond.fieldLink RX5 17 "PrivateCountsModel" "b" "I" ∈ wsX5_allOf := by decide +kernel
theorem fX5_allOf_20 : Cond.fieldLink RX5 20 "PrivateCountsModel" "high" "I" ∈ wsX5_allOf := by decide +kernel
theorem fX5_allOf_104 : Cond.fieldLink RX5 104 "PrivateCountsModel" "low" "I" ∈ wsX5_allOf := by decide +kernel
set_option maxHeartbeats 4000000 in
set_option maxRecDepth 100000 in
theorem M_X5_allOf (l : Launch) (G : va_G) (cI cJ : ClassId) (Ay Bmr Bfg Bln Btp Bbl Btr Bwh : Nat) (mrow : Nat → Int32) (mrs : Int32) (ma : Int32) (mb : Int32) (mlo : Int32) (mhi : Int32) (man : Int32) (mtl : Int32) (mtm : Int32) (fig : Nat → Int64) (len : Nat → Int32) (top : Nat → Int64) (bel : Nat → Int64) (thr : Int32) (trm : Nat → Int32) (who : Nat → Int32) (Q : Int64 → Prop) (hw : w_X5_allOf ma mb mlo mhi Q) : Kl l yX5_allOf wsX5_allOf rm_X5_allOf G cI cJ [.ref Ay] (wX5 cI cJ Ay Bmr Bfg Bln Btp Bbl Btr Bwh mrow mrs ma mb mlo mhi man mtl mtm fig len top bel thr trm who) (fun (r : Int64) (u : Unit) => Q r) (fun u => (wX5 cI cJ Ay Bmr Bfg Bln Btp Bbl Btr Bwh mrow mrs ma mb mlo mhi man mtl mtm fig len top bel thr trm who)) := by
  refine kl_intro (cc := cX5_allOf) (maxL := 1) rfl rfl (by decide) rfl (Nat.le_of_ble_eq_true rfl) ?_
  intro p e s m args below meth c A Z ls hx hb hml hts hown hP hK hD hS hA hl hret
  have hl : lv_has ls 1 [(0, .ref Ay)] := hl
  unfold w_X5_allOf at hw
  refine lv_aload_n hx hb dX5_allOf_0 rfl (lv_at hl 0 rfl) ?_
  refine k_get hx hb hts uX5_allOf_X5 hown hK hP 0 5 rfl rfl 2 (by decide) fX5_allOf_13 (.int ma) rfl dX5_allOf_1 ?_
  refine lv_aload_n hx hb dX5_allOf_4 rfl (lv_at hl 0 rfl) ?_
  refine k_get hx hb hts uX5_allOf_X5 hown hK hP 0 5 rfl rfl 3 (by decide) fX5_allOf_17 (.int mb) rfl dX5_allOf_5 ?_
  refine lv_iadd hx hb dX5_allOf_8 ?_
  refine lv_i2l (v := (ma + mb).toInt64) hx hb dX5_allOf_9 rfl ?_
  refine lv_aload_n hx hb dX5_allOf_10 rfl (lv_at hl 0 rfl) ?_
  refine k_get hx hb hts uX5_allOf_X5 hown hK hP 0 5 rfl rfl 3 (by decide) fX5_allOf_17 (.int mb) rfl dX5_allOf_11 ?_
  refine lv_i2l (v := mb.toInt64) hx hb dX5_allOf_14 rfl ?_
  refine lv_aload_n hx hb dX5_allOf_15 rfl (lv_at hl 0 rfl) ?_
  refine k_get hx hb hts uX5_allOf_X5 hown hK hP 0 5 rfl rfl 5 (by decide) fX5_allOf_20 (.int mhi) rfl dX5_allOf_16 ?_
  refine lv_aload_n hx hb dX5_allOf_19 rfl (lv_at hl 0 rfl) ?_
  refine k_get hx hb hts uX5_allOf_X5 hown hK hP 0 5 rfl rfl 4 (by decide) fX5_allOf_104 (.int mlo) rfl dX5_allOf_20 ?_
  refine lv_isub hx hb dX5_allOf_23 ?_
  refine k_Sl (M_X5_power l G cI cJ mb.toInt64 (mhi - mlo) _ hw) ⟨hx, hb, hml, hown, hts⟩ (va_cwS 2 hts gX5_allOf_X5_power rfl rfl rfl (by decide +kernel) ⟨Nat.le_of_ble_eq_true rfl, Nat.le_of_ble_eq_true rfl⟩) hK hP hD hS hA [] [0, 1, 2, 3, 4, 5, 6, 7] [0, 1, 2, 3, 4, 5, 6, 7] (wr := [(Ay, .inr (5, [.ref Bmr, .int mrs, .int ma, .int mb, .int mlo, .int mhi, .int man, .int mtl, .int mtm, .ref Bfg, .ref Bln, .ref Btp, .ref Bbl, .int thr, .ref Btr, .ref Bwh])), (Bmr, .inl (cI, 60, .inl mrow)), (Bfg, .inl (cJ, 4608, .inr (.inl fig))), (Bln, .inl (cI, 18, .inl len)), (Btp, .inl (cJ, 520, .inr (.inl top))), (Bbl, .inl (cJ, 520, .inr (.inl bel))), (Btr, .inl (cI, 10, .inl trm)), (Bwh, .inl (cI, 10, .inl who))]) (wn := fun u : Unit => (wX5 cI cJ Ay Bmr Bfg Bln Btp Bbl Btr Bwh mrow mrs ma mb mlo mhi man mtl mtm fig len top bel thr trm who)) rfl rfl (by decide) (by decide) (by decide) (by decide) (fun _ => rfl) (rest := [.long ((ma + mb).toInt64)]) rfl hl.1 rfl (Nat.le_of_ble_eq_true rfl) (Nat.zero_le _) (Nat.zero_le _) dX5_allOf_24 (fun r_1 u H locs hw hP hD hS => ?_)
  refine lv_lmul hx hb dX5_allOf_27 ?_
  refine lv_topl (fun v_2 ev_2 => ?_)
  have hw := hw v_2 ev_2
  exact hret _ () _ _ _ _ hw hP hD hS dX5_allOf_28
theorem fX5_table_46 : Cond.fieldLink RX5 46 "PrivateCountsModel" "thrown" "I" ∈ wsX5_table := by decide +kernel
theorem uX5_table_X5 : ∀ w ∈ u_ws RX5 TX5 16, w ∈ wsX5_table := by decide +kernel
theorem fX5_table_13 : Cond.fieldLink RX5 13 "PrivateCountsModel" "a" "I" ∈ wsX5_table := by decide +kernel
theorem fX5_table_17 : Cond.fieldLink RX5 17 "PrivateCountsModel" "b" "I" ∈ wsX5_table := by decide +kernel
theorem fX5_table_104 : Cond.fieldLink RX5 104 "PrivateCountsModel" "low" "I" ∈ wsX5_table := by decide +kernel
theorem fX5_table_20 : Cond.fieldLink RX5 20 "PrivateCountsModel" "high" "I" ∈ wsX5_table := by decide +kernel
set_option maxHeartbeats 4000000 in
set_option maxRecDepth 100000 in
theorem M_X5_table (l : Launch) (G : va_G) (cI cJ : ClassId) (Ay Bmr Bfg Bln Btp Bbl Btr Bwh : Nat) (mrow : Nat → Int32) (mrs : Int32) (ma : Int32) (mb : Int32) (mlo : Int32) (mhi : Int32) (man : Int32) (mtl : Int32) (mtm : Int32) (fig : Nat → Int64) (len : Nat → Int32) (top : Nat → Int64) (bel : Nat → Int64) (thr : Int32) (trm : Nat → Int32) (who : Nat → Int32) (p0 : Int32) (p1 : Int32) (p2 : Int32) (p3 : Int32) (Q : Int64 → Int32 → Int32 → Int32 → Int32 → Int32 → Prop) (hw : w_X5_table ma mb mlo mhi thr p0 p1 p2 p3 Q) : Kl l yX5_table wsX5_table rm_X5_table G cI cJ [.ref Ay, .int p0, .int p1, .int p2, .int p3] (wX5 cI cJ Ay Bmr Bfg Bln Btp Bbl Btr Bwh mrow mrs ma mb mlo mhi man mtl mtm fig len top bel thr trm who) (fun (r : Int64) (u : (Int32) × (Int32) × (Int32) × (Int32) × (Int32)) => Q r u.1 u.2.1 u.2.2.1 u.2.2.2.1 u.2.2.2.2) (fun u => (wX5 cI cJ Ay Bmr Bfg Bln Btp Bbl Btr Bwh mrow mrs u.1 u.2.1 u.2.2.1 u.2.2.2.1 man mtl mtm fig len top bel u.2.2.2.2 trm who)) := by
  refine kl_intro (cc := cX5_table) (maxL := 6) rfl rfl (by decide) rfl (Nat.le_of_ble_eq_true rfl) ?_
  intro p e s m args below meth c A Z ls hx hb hml hts hown hP hK hD hS hA hl hret
  have hl : lv_has ls 6 [(0, .ref Ay), (1, .int p0), (2, .int p1), (3, .int p2), (4, .int p3)] := hl
  unfold w_X5_table at hw
  refine lv_iload_n hx hb dX5_table_0 rfl (lv_at hl 1 rfl) ?_
  refine lv_iconst (v := 1) hx hb dX5_table_1 (by decide) ?_
  obtain ⟨J51_2, hw, hR⟩ := hw
  have hJ51_2 : ∀ (t_1 : Int32) (_ : J51_2 t_1) (H : Heap) (locs : List Loc) (ls : Array Slot), va_P G vwCl (wX5 cI cJ Ay Bmr Bfg Bln Btp Bbl Btr Bwh mrow mrs ma mb mlo mhi man mtl mtm fig len top bel thr trm who) H → va_D A (wX5 cI cJ Ay Bmr Bfg Bln Btp Bbl Btr Bwh mrow mrs ma mb mlo mhi man mtl mtm fig len top bel thr trm who) → va_S A s.heap H locs → lv_has ls 6 [(0, .ref Ay), (1, .int p0), (2, .int p1), (3, .int p2), (4, .int p3)] → W p l e rm_X5_table s m args below meth c H locs 0 0 Z (F0 m 51 ls [.int t_1]) := by
    intro t_1 hw H locs ls hP hD hS hl
    have hw := hR _ hw
    refine lv_istore (lv' := [(5, .int t_1), (0, .ref Ay), (1, .int p0), (2, .int p1), (3, .int p2), (4, .int p3)]) hx hb dX5_table_51 hl (by decide) rfl (fun ls hl => ?_)
    refine lv_aload_n hx hb dX5_table_53 rfl (lv_at hl 1 rfl) ?_
    refine lv_iload hx hb dX5_table_54 (lv_at hl 0 rfl) ?_
    obtain ⟨J64_11, hw, hR⟩ := hw
    have hJ64_11 : ∀ (t_10 : Int32) (_ : J64_11 t_10) (H : Heap) (locs : List Loc) (ls : Array Slot), va_P G vwCl (wX5 cI cJ Ay Bmr Bfg Bln Btp Bbl Btr Bwh mrow mrs ma mb mlo mhi man mtl mtm fig len top bel thr trm who) H → va_D A (wX5 cI cJ Ay Bmr Bfg Bln Btp Bbl Btr Bwh mrow mrs ma mb mlo mhi man mtl mtm fig len top bel thr trm who) → va_S A s.heap H locs → lv_has ls 6 [(5, .int t_1), (0, .ref Ay), (1, .int p0), (2, .int p1), (3, .int p2), (4, .int p3)] → W p l e rm_X5_table s m args below meth c H locs 0 0 Z (F0 m 64 ls [.int t_10, .ref Ay]) := by
      intro t_10 hw H locs ls hP hD hS hl
      have hw := hR _ hw
      refine k_put hx hb hts uX5_table_X5 tyX5 tyX5_ok nmX5 hown hK hP hD hS 0 5 rfl rfl 13 (by decide) fX5_table_46 rfl rfl rfl (Nat.le_of_ble_eq_true rfl) (w' := (wX5 cI cJ Ay Bmr Bfg Bln Btp Bbl Btr Bwh mrow mrs ma mb mlo mhi man mtl mtm fig len top bel t_10 trm who)) rfl dX5_table_64 (fun H locs hP hD hS => ?_)
      refine lv_iload hx hb dX5_table_67 (lv_at hl 0 rfl) ?_
      refine lv_if_ne (tgt := 74) hx hb dX5_table_69 (by decide) (fun c_14 => ?_) (fun c_14 => ?_)
      · have hw := hw.1 c_14
        refine lv_aload_n hx hb dX5_table_74 rfl (lv_at hl 1 rfl) ?_
        refine lv_iload_n hx hb dX5_table_75 rfl (lv_at hl 2 rfl) ?_
        refine k_put hx hb hts uX5_table_X5 tyX5 tyX5_ok nmX5 hown hK hP hD hS 0 5 rfl rfl 2 (by decide) fX5_table_13 rfl rfl rfl (Nat.le_of_ble_eq_true rfl) (w' := (wX5 cI cJ Ay Bmr Bfg Bln Btp Bbl Btr Bwh mrow mrs p0 mb mlo mhi man mtl mtm fig len top bel t_10 trm who)) rfl dX5_table_76 (fun H locs hP hD hS => ?_)
        refine lv_aload_n hx hb dX5_table_79 rfl (lv_at hl 1 rfl) ?_
        refine lv_iload_n hx hb dX5_table_80 rfl (lv_at hl 3 rfl) ?_
        refine k_put hx hb hts uX5_table_X5 tyX5 tyX5_ok nmX5 hown hK hP hD hS 0 5 rfl rfl 3 (by decide) fX5_table_17 rfl rfl rfl (Nat.le_of_ble_eq_true rfl) (w' := (wX5 cI cJ Ay Bmr Bfg Bln Btp Bbl Btr Bwh mrow mrs p0 p1 mlo mhi man mtl mtm fig len top bel t_10 trm who)) rfl dX5_table_81 (fun H locs hP hD hS => ?_)
        refine lv_aload_n hx hb dX5_table_84 rfl (lv_at hl 1 rfl) ?_
        refine lv_iload_n hx hb dX5_table_85 rfl (lv_at hl 4 rfl) ?_
        refine k_put hx hb hts uX5_table_X5 tyX5 tyX5_ok nmX5 hown hK hP hD hS 0 5 rfl rfl 4 (by decide) fX5_table_104 rfl rfl rfl (Nat.le_of_ble_eq_true rfl) (w' := (wX5 cI cJ Ay Bmr Bfg Bln Btp Bbl Btr Bwh mrow mrs p0 p1 p2 mhi man mtl mtm fig len top bel t_10 trm who)) rfl dX5_table_86 (fun H locs hP hD hS => ?_)
        refine lv_aload_n hx hb dX5_table_89 rfl (lv_at hl 1 rfl) ?_
        refine lv_iload hx hb dX5_table_90 (lv_at hl 5 rfl) ?_
        refine k_put hx hb hts uX5_table_X5 tyX5 tyX5_ok nmX5 hown hK hP hD hS 0 5 rfl rfl 5 (by decide) fX5_table_20 rfl rfl rfl (Nat.le_of_ble_eq_true rfl) (w' := (wX5 cI cJ Ay Bmr Bfg Bln Btp Bbl Btr Bwh mrow mrs p0 p1 p2 p3 man mtl mtm fig len top bel t_10 trm who)) rfl dX5_table_92 (fun H locs hP hD hS => ?_)
        refine lv_aload_n hx hb dX5_table_95 rfl (lv_at hl 1 rfl) ?_
        refine k_Vl (M_X5_allOf l G cI cJ Ay Bmr Bfg Bln Btp Bbl Btr Bwh mrow mrs p0 p1 p2 p3 man mtl mtm fig len top bel t_10 trm who _ hw) ⟨hx, hb, hml, hown, hts⟩ (cwV 0 hts gX5_table_X5_allOf rfl rfl rfl (by decide +kernel) ⟨Nat.le_of_ble_eq_true rfl, Nat.le_of_ble_eq_true rfl⟩) hK hP hD hS hA [0, 1, 2, 3, 4, 5, 6, 7] [] [0, 1, 2, 3, 4, 5, 6, 7] (wr := []) (wn := fun u : Unit => (wX5 cI cJ Ay Bmr Bfg Bln Btp Bbl Btr Bwh mrow mrs p0 p1 p2 p3 man mtl mtm fig len top bel t_10 trm who)) rfl rfl (by decide) (by decide) (by decide) (by decide) (fun _ => rfl) (rest := []) (q0 := 0) rfl rfl rfl hl.1 rfl (Nat.le_of_ble_eq_true rfl) (Nat.zero_le _) (Nat.zero_le _) dX5_table_96 (fun r_13 u H locs hw hP hD hS => ?_)
        exact hret _ (p0, p1, p2, p3, t_10) _ _ _ _ hw hP hD hS dX5_table_99
      · have hw := hw.2 c_14
        refine lv_lconst (v := 0) hx hb dX5_table_72 (by decide) ?_
        exact hret _ (ma, mb, mlo, mhi, t_10) _ _ _ _ hw hP hD hS dX5_table_73
    clear hR
    refine lv_if_eq (tgt := 63) hx hb dX5_table_56 (by decide) (fun c_12 => ?_) (fun c_12 => ?_)
    · have hw := hw.1 c_12
      refine lv_iconst (v := 1) hx hb dX5_table_63 (by decide) ?_
      exact hJ64_11 1 hw _ _ _ hP hD hS (lv_sub hl [0, 1, 2, 3, 4, 5] rfl)
    · have hw := hw.2 c_12
      refine lv_iconst (v := 0) hx hb dX5_table_59 (by decide) ?_
      refine lv_goto (tgt := 64) hx hb dX5_table_60 (by decide) ?_
      exact hJ64_11 0 hw _ _ _ hP hD hS (lv_sub hl [0, 1, 2, 3, 4, 5] rfl)
  clear hR
  refine lv_icmp_lt (tgt := 50) hx hb dX5_table_2 (by decide) (fun c_9 => ?_) (fun c_9 => ?_)
  · have hw := hw.1 c_9
    refine lv_iconst (v := 0) hx hb dX5_table_50 (by decide) ?_
    exact hJ51_2 0 hw _ _ _ hP hD hS (lv_sub hl [0, 1, 2, 3, 4] rfl)
  · have hw := hw.2 c_9
    refine lv_iload_n hx hb dX5_table_5 rfl (lv_at hl 1 rfl) ?_
    refine lv_iload_n hx hb dX5_table_6 rfl (lv_at hl 2 rfl) ?_
    refine lv_icmp_ge (tgt := 50) hx hb dX5_table_7 (by decide) (fun c_8 => ?_) (fun c_8 => ?_)
    · have hw := hw.1 c_8
      refine lv_iconst (v := 0) hx hb dX5_table_50 (by decide) ?_
      exact hJ51_2 0 hw _ _ _ hP hD hS (lv_sub hl [0, 1, 2, 3, 4] rfl)
    · have hw := hw.2 c_8
      refine lv_iload_n hx hb dX5_table_10 rfl (lv_at hl 2 rfl) ?_
      refine lv_bipush (v := 10) hx hb dX5_table_11 (by decide) ?_
      refine lv_icmp_gt (tgt := 50) hx hb dX5_table_13 (by decide) (fun c_7 => ?_) (fun c_7 => ?_)
      · have hw := hw.1 c_7
        refine lv_iconst (v := 0) hx hb dX5_table_50 (by decide) ?_
        exact hJ51_2 0 hw _ _ _ hP hD hS (lv_sub hl [0, 1, 2, 3, 4] rfl)
      · have hw := hw.2 c_7
        refine lv_iload_n hx hb dX5_table_16 rfl (lv_at hl 3 rfl) ?_
        refine lv_sipush (v := (-1000)) hx hb dX5_table_17 (by decide) ?_
        refine lv_icmp_lt (tgt := 50) hx hb dX5_table_20 (by decide) (fun c_6 => ?_) (fun c_6 => ?_)
        · have hw := hw.1 c_6
          refine lv_iconst (v := 0) hx hb dX5_table_50 (by decide) ?_
          exact hJ51_2 0 hw _ _ _ hP hD hS (lv_sub hl [0, 1, 2, 3, 4] rfl)
        · have hw := hw.2 c_6
          refine lv_iload hx hb dX5_table_23 (lv_at hl 4 rfl) ?_
          refine lv_sipush (v := 1000) hx hb dX5_table_25 (by decide) ?_
          refine lv_icmp_gt (tgt := 50) hx hb dX5_table_28 (by decide) (fun c_5 => ?_) (fun c_5 => ?_)
          · have hw := hw.1 c_5
            refine lv_iconst (v := 0) hx hb dX5_table_50 (by decide) ?_
            exact hJ51_2 0 hw _ _ _ hP hD hS (lv_sub hl [0, 1, 2, 3, 4] rfl)
          · have hw := hw.2 c_5
            refine lv_iload_n hx hb dX5_table_31 rfl (lv_at hl 3 rfl) ?_
            refine lv_iload hx hb dX5_table_32 (lv_at hl 4 rfl) ?_
            refine lv_icmp_gt (tgt := 50) hx hb dX5_table_34 (by decide) (fun c_4 => ?_) (fun c_4 => ?_)
            · have hw := hw.1 c_4
              refine lv_iconst (v := 0) hx hb dX5_table_50 (by decide) ?_
              exact hJ51_2 0 hw _ _ _ hP hD hS (lv_sub hl [0, 1, 2, 3, 4] rfl)
            · have hw := hw.2 c_4
              refine lv_iload hx hb dX5_table_37 (lv_at hl 4 rfl) ?_
              refine lv_iload_n hx hb dX5_table_39 rfl (lv_at hl 3 rfl) ?_
              refine lv_isub hx hb dX5_table_40 ?_
              refine lv_bipush (v := 14) hx hb dX5_table_41 (by decide) ?_
              refine lv_icmp_gt (tgt := 50) hx hb dX5_table_43 (by decide) (fun c_3 => ?_) (fun c_3 => ?_)
              · have hw := hw.1 c_3
                refine lv_iconst (v := 0) hx hb dX5_table_50 (by decide) ?_
                exact hJ51_2 0 hw _ _ _ hP hD hS (lv_sub hl [0, 1, 2, 3, 4] rfl)
              · have hw := hw.2 c_3
                refine lv_iconst (v := 1) hx hb dX5_table_46 (by decide) ?_
                refine lv_goto (tgt := 51) hx hb dX5_table_47 (by decide) ?_
                exact hJ51_2 1 hw _ _ _ hP hD hS (lv_sub hl [0, 1, 2, 3, 4] rfl)
theorem fX5_all_46 : Cond.fieldLink RX5 46 "PrivateCountsModel" "thrown" "I" ∈ wsX5_all := by decide +kernel
theorem uX5_all_X5 : ∀ w ∈ u_ws RX5 TX5 16, w ∈ wsX5_all := by decide +kernel
set_option maxHeartbeats 4000000 in
set_option maxRecDepth 100000 in
theorem M_X5_all (l : Launch) (G : va_G) (cI cJ : ClassId) (Ay Bmr Bfg Bln Btp Bbl Btr Bwh : Nat) (mrow : Nat → Int32) (mrs : Int32) (ma : Int32) (mb : Int32) (mlo : Int32) (mhi : Int32) (man : Int32) (mtl : Int32) (mtm : Int32) (fig : Nat → Int64) (len : Nat → Int32) (top : Nat → Int64) (bel : Nat → Int64) (thr : Int32) (trm : Nat → Int32) (who : Nat → Int32) (Q : Int64 → Int32 → Prop) (hw : w_X5_all ma mb mlo mhi thr Q) : Kl l yX5_all wsX5_all rm_X5_all G cI cJ [.ref Ay] (wX5 cI cJ Ay Bmr Bfg Bln Btp Bbl Btr Bwh mrow mrs ma mb mlo mhi man mtl mtm fig len top bel thr trm who) (fun (r : Int64) (u : (Int32)) => Q r u) (fun u => (wX5 cI cJ Ay Bmr Bfg Bln Btp Bbl Btr Bwh mrow mrs ma mb mlo mhi man mtl mtm fig len top bel u trm who)) := by
  refine kl_intro (cc := cX5_all) (maxL := 1) rfl rfl (by decide) rfl (Nat.le_of_ble_eq_true rfl) ?_
  intro p e s m args below meth c A Z ls hx hb hml hts hown hP hK hD hS hA hl hret
  have hl : lv_has ls 1 [(0, .ref Ay)] := hl
  unfold w_X5_all at hw
  refine lv_aload_n hx hb dX5_all_0 rfl (lv_at hl 0 rfl) ?_
  refine lv_iconst (v := 0) hx hb dX5_all_1 (by decide) ?_
  refine k_put hx hb hts uX5_all_X5 tyX5 tyX5_ok nmX5 hown hK hP hD hS 0 5 rfl rfl 13 (by decide) fX5_all_46 rfl rfl rfl (Nat.le_of_ble_eq_true rfl) (w' := (wX5 cI cJ Ay Bmr Bfg Bln Btp Bbl Btr Bwh mrow mrs ma mb mlo mhi man mtl mtm fig len top bel 0 trm who)) rfl dX5_all_2 (fun H locs hP hD hS => ?_)
  refine lv_aload_n hx hb dX5_all_5 rfl (lv_at hl 0 rfl) ?_
  refine k_Vl (M_X5_allOf l G cI cJ Ay Bmr Bfg Bln Btp Bbl Btr Bwh mrow mrs ma mb mlo mhi man mtl mtm fig len top bel 0 trm who _ hw) ⟨hx, hb, hml, hown, hts⟩ (cwV 0 hts gX5_all_X5_allOf rfl rfl rfl (by decide +kernel) ⟨Nat.le_of_ble_eq_true rfl, Nat.le_of_ble_eq_true rfl⟩) hK hP hD hS hA [0, 1, 2, 3, 4, 5, 6, 7] [] [0, 1, 2, 3, 4, 5, 6, 7] (wr := []) (wn := fun u : Unit => (wX5 cI cJ Ay Bmr Bfg Bln Btp Bbl Btr Bwh mrow mrs ma mb mlo mhi man mtl mtm fig len top bel 0 trm who)) rfl rfl (by decide) (by decide) (by decide) (by decide) (fun _ => rfl) (rest := []) (q0 := 0) rfl rfl rfl hl.1 rfl (Nat.le_of_ble_eq_true rfl) (Nat.zero_le _) (Nat.zero_le _) dX5_all_6 (fun r_1 u H locs hw hP hD hS => ?_)
  exact hret _ 0 _ _ _ _ hw hP hD hS dX5_all_9
theorem fX5_isOut_104 : Cond.fieldLink RX5 104 "PrivateCountsModel" "low" "I" ∈ wsX5_isOut := by decide +kernel
theorem uX5_isOut_X5 : ∀ w ∈ u_ws RX5 TX5 16, w ∈ wsX5_isOut := by decide +kernel
theorem fX5_isOut_20 : Cond.fieldLink RX5 20 "PrivateCountsModel" "high" "I" ∈ wsX5_isOut := by decide +kernel
set_option maxHeartbeats 4000000 in
set_option maxRecDepth 100000 in
theorem M_X5_isOut (l : Launch) (G : va_G) (cI cJ : ClassId) (Ay Bmr Bfg Bln Btp Bbl Btr Bwh : Nat) (mrow : Nat → Int32) (mrs : Int32) (ma : Int32) (mb : Int32) (mlo : Int32) (mhi : Int32) (man : Int32) (mtl : Int32) (mtm : Int32) (fig : Nat → Int64) (len : Nat → Int32) (top : Nat → Int64) (bel : Nat → Int64) (thr : Int32) (trm : Nat → Int32) (who : Nat → Int32) (p0 : Int32) (Q : Int32 → Prop) (hw : w_X5_isOut mlo mhi p0 Q) : Ki l yX5_isOut wsX5_isOut rm_X5_isOut G cI cJ [.ref Ay, .int p0] (wX5 cI cJ Ay Bmr Bfg Bln Btp Bbl Btr Bwh mrow mrs ma mb mlo mhi man mtl mtm fig len top bel thr trm who) (fun (r : Int32) (u : Unit) => wB r ∧ Q r) (fun u => (wX5 cI cJ Ay Bmr Bfg Bln Btp Bbl Btr Bwh mrow mrs ma mb mlo mhi man mtl mtm fig len top bel thr trm who)) := by
  refine kz_intro (cc := cX5_isOut) (maxL := 2) rfl rfl (by decide) rfl (Nat.le_of_ble_eq_true rfl) ?_
  intro p e s m args below meth c A Z ls hx hb hml hts hown hP hK hD hS hA hl hret
  have hl : lv_has ls 2 [(0, .ref Ay), (1, .int p0)] := hl
  unfold w_X5_isOut at hw
  refine lv_iload_n hx hb dX5_isOut_0 rfl (lv_at hl 1 rfl) ?_
  refine lv_aload_n hx hb dX5_isOut_1 rfl (lv_at hl 0 rfl) ?_
  refine k_get hx hb hts uX5_isOut_X5 hown hK hP 0 5 rfl rfl 4 (by decide) fX5_isOut_104 (.int mlo) rfl dX5_isOut_2 ?_
  refine lv_icmp_lt (tgt := 16) hx hb dX5_isOut_5 (by decide) (fun c_2 => ?_) (fun c_2 => ?_)
  · have hw := hw.1 c_2
    refine lv_iconst (v := 1) hx hb dX5_isOut_16 (by decide) ?_
    refine lv_goto (tgt := 21) hx hb dX5_isOut_17 (by decide) ?_
    exact hret _ () _ _ _ _ (Or.inr rfl) hw hP hD hS dX5_isOut_21
  · have hw := hw.2 c_2
    refine lv_iload_n hx hb dX5_isOut_8 rfl (lv_at hl 1 rfl) ?_
    refine lv_aload_n hx hb dX5_isOut_9 rfl (lv_at hl 0 rfl) ?_
    refine k_get hx hb hts uX5_isOut_X5 hown hK hP 0 5 rfl rfl 5 (by decide) fX5_isOut_20 (.int mhi) rfl dX5_isOut_10 ?_
    refine lv_icmp_le (tgt := 20) hx hb dX5_isOut_13 (by decide) (fun c_1 => ?_) (fun c_1 => ?_)
    · have hw := hw.1 c_1
      refine lv_iconst (v := 0) hx hb dX5_isOut_20 (by decide) ?_
      exact hret _ () _ _ _ _ (Or.inl rfl) hw hP hD hS dX5_isOut_21
    · have hw := hw.2 c_1
      refine lv_iconst (v := 1) hx hb dX5_isOut_16 (by decide) ?_
      refine lv_goto (tgt := 21) hx hb dX5_isOut_17 (by decide) ?_
      exact hret _ () _ _ _ _ (Or.inr rfl) hw hP hD hS dX5_isOut_21
theorem fX5_weightOf_104 : Cond.fieldLink RX5 104 "PrivateCountsModel" "low" "I" ∈ wsX5_weightOf := by decide +kernel
theorem uX5_weightOf_X5 : ∀ w ∈ u_ws RX5 TX5 16, w ∈ wsX5_weightOf := by decide +kernel
theorem fX5_weightOf_20 : Cond.fieldLink RX5 20 "PrivateCountsModel" "high" "I" ∈ wsX5_weightOf := by decide +kernel
theorem fX5_weightOf_17 : Cond.fieldLink RX5 17 "PrivateCountsModel" "b" "I" ∈ wsX5_weightOf := by decide +kernel
theorem fX5_weightOf_13 : Cond.fieldLink RX5 13 "PrivateCountsModel" "a" "I" ∈ wsX5_weightOf := by decide +kernel
set_option maxHeartbeats 4000000 in
set_option maxRecDepth 100000 in
theorem M_X5_weightOf (l : Launch) (G : va_G) (cI cJ : ClassId) (Ay Bmr Bfg Bln Btp Bbl Btr Bwh : Nat) (mrow : Nat → Int32) (mrs : Int32) (ma : Int32) (mb : Int32) (mlo : Int32) (mhi : Int32) (man : Int32) (mtl : Int32) (mtm : Int32) (fig : Nat → Int64) (len : Nat → Int32) (top : Nat → Int64) (bel : Nat → Int64) (thr : Int32) (trm : Nat → Int32) (who : Nat → Int32) (p0 : Int32) (p1 : Int32) (Q : Int64 → Prop) (hw : w_X5_weightOf ma mb mlo mhi p0 p1 Q) : Kl l yX5_weightOf wsX5_weightOf rm_X5_weightOf G cI cJ [.ref Ay, .int p0, .int p1] (wX5 cI cJ Ay Bmr Bfg Bln Btp Bbl Btr Bwh mrow mrs ma mb mlo mhi man mtl mtm fig len top bel thr trm who) (fun (r : Int64) (u : Unit) => Q r) (fun u => (wX5 cI cJ Ay Bmr Bfg Bln Btp Bbl Btr Bwh mrow mrs ma mb mlo mhi man mtl mtm fig len top bel thr trm who)) := by
  refine kl_intro (cc := cX5_weightOf) (maxL := 6) rfl rfl (by decide) rfl (Nat.le_of_ble_eq_true rfl) ?_
  intro p e s m args below meth c A Z ls hx hb hml hts hown hP hK hD hS hA hl hret
  have hl : lv_has ls 6 [(0, .ref Ay), (1, .int p0), (2, .int p1)] := hl
  unfold w_X5_weightOf at hw
  refine lv_aload_n hx hb dX5_weightOf_0 rfl (lv_at hl 0 rfl) ?_
  refine lv_iload_n hx hb dX5_weightOf_1 rfl (lv_at hl 1 rfl) ?_
  refine k_Vi (M_X5_isOut l G cI cJ Ay Bmr Bfg Bln Btp Bbl Btr Bwh mrow mrs ma mb mlo mhi man mtl mtm fig len top bel thr trm who p0 _ hw) ⟨hx, hb, hml, hown, hts⟩ (cwV 1 hts gX5_weightOf_X5_isOut rfl rfl rfl (by decide +kernel) ⟨Nat.le_of_ble_eq_true rfl, Nat.le_of_ble_eq_true rfl⟩) hK hP hD hS hA [0, 1, 2, 3, 4, 5, 6, 7] [] [0, 1, 2, 3, 4, 5, 6, 7] (wr := []) (wn := fun u : Unit => (wX5 cI cJ Ay Bmr Bfg Bln Btp Bbl Btr Bwh mrow mrs ma mb mlo mhi man mtl mtm fig len top bel thr trm who)) rfl rfl (by decide) (by decide) (by decide) (by decide) (fun _ => rfl) (rest := []) (q0 := 0) rfl rfl rfl hl.1 rfl (Nat.le_of_ble_eq_true rfl) (Nat.zero_le _) (Nat.zero_le _) dX5_weightOf_2 (fun r_1 u H locs hw hP hD hS => ?_)
  obtain ⟨hzr_1, hw⟩ := hw
  refine lv_if_ne (tgt := 16) hx hb dX5_weightOf_5 (by decide) (fun c_21 => ?_) (fun c_21 => ?_)
  · have hw := hw.1 c_21
    refine lv_lconst (v := 0) hx hb dX5_weightOf_16 (by decide) ?_
    exact hret _ () _ _ _ _ hw hP hD hS dX5_weightOf_17
  · have hw := hw.2 c_21
    refine lv_aload_n hx hb dX5_weightOf_8 rfl (lv_at hl 0 rfl) ?_
    refine lv_iload_n hx hb dX5_weightOf_9 rfl (lv_at hl 2 rfl) ?_
    refine k_Vi (M_X5_isOut l G cI cJ Ay Bmr Bfg Bln Btp Bbl Btr Bwh mrow mrs ma mb mlo mhi man mtl mtm fig len top bel thr trm who p1 _ hw) ⟨hx, hb, hml, hown, hts⟩ (cwV 1 hts gX5_weightOf_X5_isOut rfl rfl rfl (by decide +kernel) ⟨Nat.le_of_ble_eq_true rfl, Nat.le_of_ble_eq_true rfl⟩) hK hP hD hS hA [0, 1, 2, 3, 4, 5, 6, 7] [] [0, 1, 2, 3, 4, 5, 6, 7] (wr := []) (wn := fun u : Unit => (wX5 cI cJ Ay Bmr Bfg Bln Btp Bbl Btr Bwh mrow mrs ma mb mlo mhi man mtl mtm fig len top bel thr trm who)) rfl rfl (by decide) (by decide) (by decide) (by decide) (fun _ => rfl) (rest := []) (q0 := 0) rfl rfl rfl hl.1 rfl (Nat.le_of_ble_eq_true rfl) (Nat.zero_le _) (Nat.zero_le _) dX5_weightOf_10 (fun r_2 u H locs hw hP hD hS => ?_)
    obtain ⟨hzr_2, hw⟩ := hw
    refine lv_if_eq (tgt := 18) hx hb dX5_weightOf_13 (by decide) (fun c_20 => ?_) (fun c_20 => ?_)
    · have hw := hw.1 c_20
      refine lv_aload_n hx hb dX5_weightOf_18 rfl (lv_at hl 0 rfl) ?_
      refine k_get hx hb hts uX5_weightOf_X5 hown hK hP 0 5 rfl rfl 4 (by decide) fX5_weightOf_104 (.int mlo) rfl dX5_weightOf_19 ?_
      refine lv_aload_n hx hb dX5_weightOf_22 rfl (lv_at hl 0 rfl) ?_
      refine k_get hx hb hts uX5_weightOf_X5 hown hK hP 0 5 rfl rfl 5 (by decide) fX5_weightOf_20 (.int mhi) rfl dX5_weightOf_23 ?_
      refine lv_icmp_ne (tgt := 34) hx hb dX5_weightOf_26 (by decide) (fun c_19 => ?_) (fun c_19 => ?_)
      · have hw := hw.1 c_19
        refine lv_aload_n hx hb dX5_weightOf_34 rfl (lv_at hl 0 rfl) ?_
        refine k_get hx hb hts uX5_weightOf_X5 hown hK hP 0 5 rfl rfl 5 (by decide) fX5_weightOf_20 (.int mhi) rfl dX5_weightOf_35 ?_
        refine lv_aload_n hx hb dX5_weightOf_38 rfl (lv_at hl 0 rfl) ?_
        refine k_get hx hb hts uX5_weightOf_X5 hown hK hP 0 5 rfl rfl 4 (by decide) fX5_weightOf_104 (.int mlo) rfl dX5_weightOf_39 ?_
        refine lv_isub hx hb dX5_weightOf_42 ?_
        refine lv_topi (fun i3_3 ei3_3 => ?_)
        have hw := hw i3_3 ei3_3
        refine lv_istore_n (lv' := [(3, .int i3_3), (0, .ref Ay), (1, .int p0), (2, .int p1)]) hx hb dX5_weightOf_43 rfl hl (by decide) rfl (fun ls hl => ?_)
        refine lv_iload_n hx hb dX5_weightOf_44 rfl (lv_at hl 2 rfl) ?_
        refine lv_iload_n hx hb dX5_weightOf_45 rfl (lv_at hl 3 rfl) ?_
        obtain ⟨J58_5, hw, hR⟩ := hw
        have hJ58_5 : ∀ (t_4 : Int32) (_ : J58_5 t_4) (H : Heap) (locs : List Loc) (ls : Array Slot), va_P G vwCl (wX5 cI cJ Ay Bmr Bfg Bln Btp Bbl Btr Bwh mrow mrs ma mb mlo mhi man mtl mtm fig len top bel thr trm who) H → va_D A (wX5 cI cJ Ay Bmr Bfg Bln Btp Bbl Btr Bwh mrow mrs ma mb mlo mhi man mtl mtm fig len top bel thr trm who) → va_S A s.heap H locs → lv_has ls 6 [(3, .int i3_3), (0, .ref Ay), (2, .int p1)] → W p l e rm_X5_weightOf s m args below meth c H locs 0 0 Z (F0 m 58 ls [.int t_4]) := by
          intro t_4 hw H locs ls hP hD hS hl
          have hw := hR _ hw
          refine lv_istore (lv' := [(4, .int t_4), (3, .int i3_3), (0, .ref Ay), (2, .int p1)]) hx hb dX5_weightOf_58 hl (by decide) rfl (fun ls hl => ?_)
          refine lv_iload_n hx hb dX5_weightOf_60 rfl (lv_at hl 3 rfl) ?_
          refine lv_aload_n hx hb dX5_weightOf_61 rfl (lv_at hl 2 rfl) ?_
          refine k_get hx hb hts uX5_weightOf_X5 hown hK hP 0 5 rfl rfl 4 (by decide) fX5_weightOf_104 (.int mlo) rfl dX5_weightOf_62 ?_
          obtain ⟨J81_8, hw, hR⟩ := hw
          have hJ81_8 : ∀ (t_7 : Int32) (_ : J81_8 t_7) (H : Heap) (locs : List Loc) (ls : Array Slot), va_P G vwCl (wX5 cI cJ Ay Bmr Bfg Bln Btp Bbl Btr Bwh mrow mrs ma mb mlo mhi man mtl mtm fig len top bel thr trm who) H → va_D A (wX5 cI cJ Ay Bmr Bfg Bln Btp Bbl Btr Bwh mrow mrs ma mb mlo mhi man mtl mtm fig len top bel thr trm who) → va_S A s.heap H locs → lv_has ls 6 [(4, .int t_4), (3, .int i3_3), (0, .ref Ay)] → W p l e rm_X5_weightOf s m args below meth c H locs 0 0 Z (F0 m 81 ls [.int t_7]) := by
            intro t_7 hw H locs ls hP hD hS hl
            have hw := hR _ hw
            refine lv_istore (lv' := [(5, .int t_7), (4, .int t_4), (3, .int i3_3), (0, .ref Ay)]) hx hb dX5_weightOf_81 hl (by decide) rfl (fun ls hl => ?_)
            refine lv_iload hx hb dX5_weightOf_83 (lv_at hl 0 rfl) ?_
            refine lv_if_eq (tgt := 116) hx hb dX5_weightOf_85 (by decide) (fun c_17 => ?_) (fun c_17 => ?_)
            · have hw := hw.1 c_17
              refine lv_aload_n hx hb dX5_weightOf_116 rfl (lv_at hl 3 rfl) ?_
              refine k_get hx hb hts uX5_weightOf_X5 hown hK hP 0 5 rfl rfl 3 (by decide) fX5_weightOf_17 (.int mb) rfl dX5_weightOf_117 ?_
              refine lv_aload_n hx hb dX5_weightOf_120 rfl (lv_at hl 3 rfl) ?_
              refine k_get hx hb hts uX5_weightOf_X5 hown hK hP 0 5 rfl rfl 2 (by decide) fX5_weightOf_13 (.int ma) rfl dX5_weightOf_121 ?_
              refine lv_isub hx hb dX5_weightOf_124 ?_
              refine lv_i2l (v := (mb - ma).toInt64) hx hb dX5_weightOf_125 rfl ?_
              refine lv_aload_n hx hb dX5_weightOf_126 rfl (lv_at hl 3 rfl) ?_
              refine k_get hx hb hts uX5_weightOf_X5 hown hK hP 0 5 rfl rfl 3 (by decide) fX5_weightOf_17 (.int mb) rfl dX5_weightOf_127 ?_
              refine lv_i2l (v := mb.toInt64) hx hb dX5_weightOf_130 rfl ?_
              refine lv_iload_n hx hb dX5_weightOf_131 rfl (lv_at hl 2 rfl) ?_
              refine lv_iload hx hb dX5_weightOf_132 (lv_at hl 1 rfl) ?_
              refine lv_isub hx hb dX5_weightOf_134 ?_
              refine k_Sl (M_X5_power l G cI cJ mb.toInt64 (i3_3 - t_4) _ hw) ⟨hx, hb, hml, hown, hts⟩ (va_cwS 2 hts gX5_weightOf_X5_power rfl rfl rfl (by decide +kernel) ⟨Nat.le_of_ble_eq_true rfl, Nat.le_of_ble_eq_true rfl⟩) hK hP hD hS hA [] [0, 1, 2, 3, 4, 5, 6, 7] [0, 1, 2, 3, 4, 5, 6, 7] (wr := [(Ay, .inr (5, [.ref Bmr, .int mrs, .int ma, .int mb, .int mlo, .int mhi, .int man, .int mtl, .int mtm, .ref Bfg, .ref Bln, .ref Btp, .ref Bbl, .int thr, .ref Btr, .ref Bwh])), (Bmr, .inl (cI, 60, .inl mrow)), (Bfg, .inl (cJ, 4608, .inr (.inl fig))), (Bln, .inl (cI, 18, .inl len)), (Btp, .inl (cJ, 520, .inr (.inl top))), (Bbl, .inl (cJ, 520, .inr (.inl bel))), (Btr, .inl (cI, 10, .inl trm)), (Bwh, .inl (cI, 10, .inl who))]) (wn := fun u : Unit => (wX5 cI cJ Ay Bmr Bfg Bln Btp Bbl Btr Bwh mrow mrs ma mb mlo mhi man mtl mtm fig len top bel thr trm who)) rfl rfl (by decide) (by decide) (by decide) (by decide) (fun _ => rfl) (rest := [.long ((mb - ma).toInt64)]) rfl hl.1 rfl (Nat.le_of_ble_eq_true rfl) (Nat.zero_le _) (Nat.zero_le _) dX5_weightOf_135 (fun r_11 u H locs hw hP hD hS => ?_)
              refine lv_lmul hx hb dX5_weightOf_138 ?_
              refine lv_topl (fun v_12 ev_12 => ?_)
              have hw := hw v_12 ev_12
              refine lv_aload_n hx hb dX5_weightOf_139 rfl (lv_at hl 3 rfl) ?_
              refine k_get hx hb hts uX5_weightOf_X5 hown hK hP 0 5 rfl rfl 2 (by decide) fX5_weightOf_13 (.int ma) rfl dX5_weightOf_140 ?_
              refine lv_i2l (v := ma.toInt64) hx hb dX5_weightOf_143 rfl ?_
              refine lv_iload hx hb dX5_weightOf_144 (lv_at hl 1 rfl) ?_
              refine k_Sl (M_X5_power l G cI cJ ma.toInt64 t_4 _ hw) ⟨hx, hb, hml, hown, hts⟩ (va_cwS 2 hts gX5_weightOf_X5_power rfl rfl rfl (by decide +kernel) ⟨Nat.le_of_ble_eq_true rfl, Nat.le_of_ble_eq_true rfl⟩) hK hP hD hS hA [] [0, 1, 2, 3, 4, 5, 6, 7] [0, 1, 2, 3, 4, 5, 6, 7] (wr := [(Ay, .inr (5, [.ref Bmr, .int mrs, .int ma, .int mb, .int mlo, .int mhi, .int man, .int mtl, .int mtm, .ref Bfg, .ref Bln, .ref Btp, .ref Bbl, .int thr, .ref Btr, .ref Bwh])), (Bmr, .inl (cI, 60, .inl mrow)), (Bfg, .inl (cJ, 4608, .inr (.inl fig))), (Bln, .inl (cI, 18, .inl len)), (Btp, .inl (cJ, 520, .inr (.inl top))), (Bbl, .inl (cJ, 520, .inr (.inl bel))), (Btr, .inl (cI, 10, .inl trm)), (Bwh, .inl (cI, 10, .inl who))]) (wn := fun u : Unit => (wX5 cI cJ Ay Bmr Bfg Bln Btp Bbl Btr Bwh mrow mrs ma mb mlo mhi man mtl mtm fig len top bel thr trm who)) rfl rfl (by decide) (by decide) (by decide) (by decide) (fun _ => rfl) (rest := [.long v_12]) rfl hl.1 rfl (Nat.le_of_ble_eq_true rfl) (Nat.zero_le _) (Nat.zero_le _) dX5_weightOf_146 (fun r_13 u H locs hw hP hD hS => ?_)
              refine lv_lmul hx hb dX5_weightOf_149 ?_
              exact hret _ () _ _ _ _ hw hP hD hS dX5_weightOf_150
            · have hw := hw.2 c_17
              refine lv_aload_n hx hb dX5_weightOf_88 rfl (lv_at hl 3 rfl) ?_
              refine k_get hx hb hts uX5_weightOf_X5 hown hK hP 0 5 rfl rfl 3 (by decide) fX5_weightOf_17 (.int mb) rfl dX5_weightOf_89 ?_
              refine lv_i2l (v := mb.toInt64) hx hb dX5_weightOf_92 rfl ?_
              refine lv_iload_n hx hb dX5_weightOf_93 rfl (lv_at hl 2 rfl) ?_
              refine lv_iconst (v := 1) hx hb dX5_weightOf_94 (by decide) ?_
              refine lv_iadd hx hb dX5_weightOf_95 ?_
              refine lv_iload hx hb dX5_weightOf_96 (lv_at hl 1 rfl) ?_
              refine lv_isub hx hb dX5_weightOf_98 ?_
              refine lv_topi (fun v_14 ev_14 => ?_)
              have hw := hw v_14 ev_14
              refine k_Sl (M_X5_power l G cI cJ mb.toInt64 v_14 _ hw) ⟨hx, hb, hml, hown, hts⟩ (va_cwS 2 hts gX5_weightOf_X5_power rfl rfl rfl (by decide +kernel) ⟨Nat.le_of_ble_eq_true rfl, Nat.le_of_ble_eq_true rfl⟩) hK hP hD hS hA [] [0, 1, 2, 3, 4, 5, 6, 7] [0, 1, 2, 3, 4, 5, 6, 7] (wr := [(Ay, .inr (5, [.ref Bmr, .int mrs, .int ma, .int mb, .int mlo, .int mhi, .int man, .int mtl, .int mtm, .ref Bfg, .ref Bln, .ref Btp, .ref Bbl, .int thr, .ref Btr, .ref Bwh])), (Bmr, .inl (cI, 60, .inl mrow)), (Bfg, .inl (cJ, 4608, .inr (.inl fig))), (Bln, .inl (cI, 18, .inl len)), (Btp, .inl (cJ, 520, .inr (.inl top))), (Bbl, .inl (cJ, 520, .inr (.inl bel))), (Btr, .inl (cI, 10, .inl trm)), (Bwh, .inl (cI, 10, .inl who))]) (wn := fun u : Unit => (wX5 cI cJ Ay Bmr Bfg Bln Btp Bbl Btr Bwh mrow mrs ma mb mlo mhi man mtl mtm fig len top bel thr trm who)) rfl rfl (by decide) (by decide) (by decide) (by decide) (fun _ => rfl) (rest := []) rfl hl.1 rfl (Nat.le_of_ble_eq_true rfl) (Nat.zero_le _) (Nat.zero_le _) dX5_weightOf_99 (fun r_15 u H locs hw hP hD hS => ?_)
              refine lv_aload_n hx hb dX5_weightOf_102 rfl (lv_at hl 3 rfl) ?_
              refine k_get hx hb hts uX5_weightOf_X5 hown hK hP 0 5 rfl rfl 2 (by decide) fX5_weightOf_13 (.int ma) rfl dX5_weightOf_103 ?_
              refine lv_i2l (v := ma.toInt64) hx hb dX5_weightOf_106 rfl ?_
              refine lv_iload hx hb dX5_weightOf_107 (lv_at hl 1 rfl) ?_
              refine k_Sl (M_X5_power l G cI cJ ma.toInt64 t_4 _ hw) ⟨hx, hb, hml, hown, hts⟩ (va_cwS 2 hts gX5_weightOf_X5_power rfl rfl rfl (by decide +kernel) ⟨Nat.le_of_ble_eq_true rfl, Nat.le_of_ble_eq_true rfl⟩) hK hP hD hS hA [] [0, 1, 2, 3, 4, 5, 6, 7] [0, 1, 2, 3, 4, 5, 6, 7] (wr := [(Ay, .inr (5, [.ref Bmr, .int mrs, .int ma, .int mb, .int mlo, .int mhi, .int man, .int mtl, .int mtm, .ref Bfg, .ref Bln, .ref Btp, .ref Bbl, .int thr, .ref Btr, .ref Bwh])), (Bmr, .inl (cI, 60, .inl mrow)), (Bfg, .inl (cJ, 4608, .inr (.inl fig))), (Bln, .inl (cI, 18, .inl len)), (Btp, .inl (cJ, 520, .inr (.inl top))), (Bbl, .inl (cJ, 520, .inr (.inl bel))), (Btr, .inl (cI, 10, .inl trm)), (Bwh, .inl (cI, 10, .inl who))]) (wn := fun u : Unit => (wX5 cI cJ Ay Bmr Bfg Bln Btp Bbl Btr Bwh mrow mrs ma mb mlo mhi man mtl mtm fig len top bel thr trm who)) rfl rfl (by decide) (by decide) (by decide) (by decide) (fun _ => rfl) (rest := [.long r_15]) rfl hl.1 rfl (Nat.le_of_ble_eq_true rfl) (Nat.zero_le _) (Nat.zero_le _) dX5_weightOf_109 (fun r_16 u H locs hw hP hD hS => ?_)
              refine lv_lmul hx hb dX5_weightOf_112 ?_
              refine lv_goto (tgt := 150) hx hb dX5_weightOf_113 (by decide) ?_
              exact hret _ () _ _ _ _ hw hP hD hS dX5_weightOf_150
          clear hR
          refine lv_icmp_eq (tgt := 76) hx hb dX5_weightOf_65 (by decide) (fun c_10 => ?_) (fun c_10 => ?_)
          · have hw := hw.1 c_10
            refine lv_iconst (v := 1) hx hb dX5_weightOf_76 (by decide) ?_
            refine lv_goto (tgt := 81) hx hb dX5_weightOf_77 (by decide) ?_
            exact hJ81_8 1 hw _ _ _ hP hD hS (lv_sub hl [0, 1, 2] rfl)
          · have hw := hw.2 c_10
            refine lv_iload_n hx hb dX5_weightOf_68 rfl (lv_at hl 3 rfl) ?_
            refine lv_aload_n hx hb dX5_weightOf_69 rfl (lv_at hl 2 rfl) ?_
            refine k_get hx hb hts uX5_weightOf_X5 hown hK hP 0 5 rfl rfl 5 (by decide) fX5_weightOf_20 (.int mhi) rfl dX5_weightOf_70 ?_
            refine lv_icmp_ne (tgt := 80) hx hb dX5_weightOf_73 (by decide) (fun c_9 => ?_) (fun c_9 => ?_)
            · have hw := hw.1 c_9
              refine lv_iconst (v := 0) hx hb dX5_weightOf_80 (by decide) ?_
              exact hJ81_8 0 hw _ _ _ hP hD hS (lv_sub hl [0, 1, 2] rfl)
            · have hw := hw.2 c_9
              refine lv_iconst (v := 1) hx hb dX5_weightOf_76 (by decide) ?_
              refine lv_goto (tgt := 81) hx hb dX5_weightOf_77 (by decide) ?_
              exact hJ81_8 1 hw _ _ _ hP hD hS (lv_sub hl [0, 1, 2] rfl)
        clear hR
        refine lv_icmp_ge (tgt := 55) hx hb dX5_weightOf_46 (by decide) (fun c_6 => ?_) (fun c_6 => ?_)
        · have hw := hw.1 c_6
          refine lv_iload_n hx hb dX5_weightOf_55 rfl (lv_at hl 2 rfl) ?_
          refine lv_iload_n hx hb dX5_weightOf_56 rfl (lv_at hl 3 rfl) ?_
          refine lv_isub hx hb dX5_weightOf_57 ?_
          exact hJ58_5 (p0 - p1) hw _ _ _ hP hD hS (lv_sub hl [0, 1, 3] rfl)
        · have hw := hw.2 c_6
          refine lv_iload_n hx hb dX5_weightOf_49 rfl (lv_at hl 3 rfl) ?_
          refine lv_iload_n hx hb dX5_weightOf_50 rfl (lv_at hl 2 rfl) ?_
          refine lv_isub hx hb dX5_weightOf_51 ?_
          refine lv_goto (tgt := 58) hx hb dX5_weightOf_52 (by decide) ?_
          exact hJ58_5 (p1 - p0) hw _ _ _ hP hD hS (lv_sub hl [0, 1, 3] rfl)
      · have hw := hw.2 c_19
        refine lv_aload_n hx hb dX5_weightOf_29 rfl (lv_at hl 0 rfl) ?_
        refine k_Vl (M_X5_allOf l G cI cJ Ay Bmr Bfg Bln Btp Bbl Btr Bwh mrow mrs ma mb mlo mhi man mtl mtm fig len top bel thr trm who _ hw) ⟨hx, hb, hml, hown, hts⟩ (cwV 0 hts gX5_weightOf_X5_allOf rfl rfl rfl (by decide +kernel) ⟨Nat.le_of_ble_eq_true rfl, Nat.le_of_ble_eq_true rfl⟩) hK hP hD hS hA [0, 1, 2, 3, 4, 5, 6, 7] [] [0, 1, 2, 3, 4, 5, 6, 7] (wr := []) (wn := fun u : Unit => (wX5 cI cJ Ay Bmr Bfg Bln Btp Bbl Btr Bwh mrow mrs ma mb mlo mhi man mtl mtm fig len top bel thr trm who)) rfl rfl (by decide) (by decide) (by decide) (by decide) (fun _ => rfl) (rest := []) (q0 := 0) rfl rfl rfl hl.1 rfl (Nat.le_of_ble_eq_true rfl) (Nat.zero_le _) (Nat.zero_le _) dX5_weightOf_30 (fun r_18 u H locs hw hP hD hS => ?_)
        exact hret _ () _ _ _ _ hw hP hD hS dX5_weightOf_33
    · have hw := hw.2 c_20
      refine lv_lconst (v := 0) hx hb dX5_weightOf_16 (by decide) ?_
      exact hret _ () _ _ _ _ hw hP hD hS dX5_weightOf_17
theorem fX5_weight_46 : Cond.fieldLink RX5 46 "PrivateCountsModel" "thrown" "I" ∈ wsX5_weight := by decide +kernel
theorem uX5_weight_X5 : ∀ w ∈ u_ws RX5 TX5 16, w ∈ wsX5_weight := by decide +kernel
set_option maxHeartbeats 4000000 in
set_option maxRecDepth 100000 in
theorem M_X5_weight (l : Launch) (G : va_G) (cI cJ : ClassId) (Ay Bmr Bfg Bln Btp Bbl Btr Bwh : Nat) (mrow : Nat → Int32) (mrs : Int32) (ma : Int32) (mb : Int32) (mlo : Int32) (mhi : Int32) (man : Int32) (mtl : Int32) (mtm : Int32) (fig : Nat → Int64) (len : Nat → Int32) (top : Nat → Int64) (bel : Nat → Int64) (thr : Int32) (trm : Nat → Int32) (who : Nat → Int32) (p0 : Int32) (p1 : Int32) (Q : Int64 → Int32 → Prop) (hw : w_X5_weight ma mb mlo mhi thr p0 p1 Q) : Kl l yX5_weight wsX5_weight rm_X5_weight G cI cJ [.ref Ay, .int p0, .int p1] (wX5 cI cJ Ay Bmr Bfg Bln Btp Bbl Btr Bwh mrow mrs ma mb mlo mhi man mtl mtm fig len top bel thr trm who) (fun (r : Int64) (u : (Int32)) => Q r u) (fun u => (wX5 cI cJ Ay Bmr Bfg Bln Btp Bbl Btr Bwh mrow mrs ma mb mlo mhi man mtl mtm fig len top bel u trm who)) := by
  refine kl_intro (cc := cX5_weight) (maxL := 3) rfl rfl (by decide) rfl (Nat.le_of_ble_eq_true rfl) ?_
  intro p e s m args below meth c A Z ls hx hb hml hts hown hP hK hD hS hA hl hret
  have hl : lv_has ls 3 [(0, .ref Ay), (1, .int p0), (2, .int p1)] := hl
  unfold w_X5_weight at hw
  refine lv_aload_n hx hb dX5_weight_0 rfl (lv_at hl 0 rfl) ?_
  refine lv_iconst (v := 0) hx hb dX5_weight_1 (by decide) ?_
  refine k_put hx hb hts uX5_weight_X5 tyX5 tyX5_ok nmX5 hown hK hP hD hS 0 5 rfl rfl 13 (by decide) fX5_weight_46 rfl rfl rfl (Nat.le_of_ble_eq_true rfl) (w' := (wX5 cI cJ Ay Bmr Bfg Bln Btp Bbl Btr Bwh mrow mrs ma mb mlo mhi man mtl mtm fig len top bel 0 trm who)) rfl dX5_weight_2 (fun H locs hP hD hS => ?_)
  refine lv_aload_n hx hb dX5_weight_5 rfl (lv_at hl 0 rfl) ?_
  refine lv_iload_n hx hb dX5_weight_6 rfl (lv_at hl 1 rfl) ?_
  refine lv_iload_n hx hb dX5_weight_7 rfl (lv_at hl 2 rfl) ?_
  refine k_Vl (M_X5_weightOf l G cI cJ Ay Bmr Bfg Bln Btp Bbl Btr Bwh mrow mrs ma mb mlo mhi man mtl mtm fig len top bel 0 trm who p0 p1 _ hw) ⟨hx, hb, hml, hown, hts⟩ (cwV 2 hts gX5_weight_X5_weightOf rfl rfl rfl (by decide +kernel) ⟨Nat.le_of_ble_eq_true rfl, Nat.le_of_ble_eq_true rfl⟩) hK hP hD hS hA [0, 1, 2, 3, 4, 5, 6, 7] [] [0, 1, 2, 3, 4, 5, 6, 7] (wr := []) (wn := fun u : Unit => (wX5 cI cJ Ay Bmr Bfg Bln Btp Bbl Btr Bwh mrow mrs ma mb mlo mhi man mtl mtm fig len top bel 0 trm who)) rfl rfl (by decide) (by decide) (by decide) (by decide) (fun _ => rfl) (rest := []) (q0 := 0) rfl rfl rfl hl.1 rfl (Nat.le_of_ble_eq_true rfl) (Nat.zero_le _) (Nat.zero_le _) dX5_weight_8 (fun r_1 u H locs hw hP hD hS => ?_)
  exact hret _ 0 _ _ _ _ hw hP hD hS dX5_weight_11
theorem fX5_upTo_46 : Cond.fieldLink RX5 46 "PrivateCountsModel" "thrown" "I" ∈ wsX5_upTo := by decide +kernel
theorem uX5_upTo_X5 : ∀ w ∈ u_ws RX5 TX5 16, w ∈ wsX5_upTo := by decide +kernel
theorem fX5_upTo_104 : Cond.fieldLink RX5 104 "PrivateCountsModel" "low" "I" ∈ wsX5_upTo := by decide +kernel
theorem fX5_upTo_20 : Cond.fieldLink RX5 20 "PrivateCountsModel" "high" "I" ∈ wsX5_upTo := by decide +kernel
set_option maxHeartbeats 4000000 in
set_option maxRecDepth 100000 in
theorem M_X5_upTo (l : Launch) (G : va_G) (cI cJ : ClassId) (Ay Bmr Bfg Bln Btp Bbl Btr Bwh : Nat) (mrow : Nat → Int32) (mrs : Int32) (ma : Int32) (mb : Int32) (mlo : Int32) (mhi : Int32) (man : Int32) (mtl : Int32) (mtm : Int32) (fig : Nat → Int64) (len : Nat → Int32) (top : Nat → Int64) (bel : Nat → Int64) (thr : Int32) (trm : Nat → Int32) (who : Nat → Int32) (p0 : Int32) (p1 : Int32) (Q : Int64 → Int32 → Prop) (hw : w_X5_upTo ma mb mlo mhi thr p0 p1 Q) : Kl l yX5_upTo wsX5_upTo rm_X5_upTo G cI cJ [.ref Ay, .int p0, .int p1] (wX5 cI cJ Ay Bmr Bfg Bln Btp Bbl Btr Bwh mrow mrs ma mb mlo mhi man mtl mtm fig len top bel thr trm who) (fun (r : Int64) (u : (Int32)) => Q r u) (fun u => (wX5 cI cJ Ay Bmr Bfg Bln Btp Bbl Btr Bwh mrow mrs ma mb mlo mhi man mtl mtm fig len top bel u trm who)) := by
  refine kl_intro (cc := cX5_upTo) (maxL := 6) rfl rfl (by decide) rfl (Nat.le_of_ble_eq_true rfl) ?_
  intro p e s m args below meth c A Z ls hx hb hml hts hown hP hK hD hS hA hl hret
  have hl : lv_has ls 6 [(0, .ref Ay), (1, .int p0), (2, .int p1)] := hl
  unfold w_X5_upTo at hw
  refine lv_aload_n hx hb dX5_upTo_0 rfl (lv_at hl 0 rfl) ?_
  refine lv_iconst (v := 0) hx hb dX5_upTo_1 (by decide) ?_
  refine k_put hx hb hts uX5_upTo_X5 tyX5 tyX5_ok nmX5 hown hK hP hD hS 0 5 rfl rfl 13 (by decide) fX5_upTo_46 rfl rfl rfl (Nat.le_of_ble_eq_true rfl) (w' := (wX5 cI cJ Ay Bmr Bfg Bln Btp Bbl Btr Bwh mrow mrs ma mb mlo mhi man mtl mtm fig len top bel 0 trm who)) rfl dX5_upTo_2 (fun H locs hP hD hS => ?_)
  refine lv_lconst (v := 0) hx hb dX5_upTo_5 (by decide) ?_
  refine lv_lstore_n (lv' := [(3, .long 0), (0, .ref Ay), (1, .int p0), (2, .int p1)]) hx hb dX5_upTo_6 rfl hl (by decide) rfl (fun ls hl => ?_)
  refine lv_aload_n hx hb dX5_upTo_7 rfl (lv_at hl 1 rfl) ?_
  refine k_get hx hb hts uX5_upTo_X5 hown hK hP 0 5 rfl rfl 4 (by decide) fX5_upTo_104 (.int mlo) rfl dX5_upTo_8 ?_
  refine lv_istore (lv' := [(5, .int mlo), (3, .long 0), (0, .ref Ay), (1, .int p0), (2, .int p1)]) hx hb dX5_upTo_11 hl (by decide) rfl (fun ls hl => ?_)
  obtain ⟨I13_3, μ13_3, hi, hw⟩ := hw
  suffices hLI13_3 : ∀ (N : Nat) (i5_1 : Int32) (i3_2 : Int64) (_ : μ13_3 i5_1 i3_2 = N) (_ : I13_3 i5_1 i3_2) (H : Heap) (locs : List Loc) (ls : Array Slot), va_P G vwCl (wX5 cI cJ Ay Bmr Bfg Bln Btp Bbl Btr Bwh mrow mrs ma mb mlo mhi man mtl mtm fig len top bel 0 trm who) H → va_D A (wX5 cI cJ Ay Bmr Bfg Bln Btp Bbl Btr Bwh mrow mrs ma mb mlo mhi man mtl mtm fig len top bel 0 trm who) → va_S A s.heap H locs → lv_has ls 6 [(5, .int i5_1), (3, .long i3_2), (0, .ref Ay), (1, .int p0), (2, .int p1)] → W p l e rm_X5_upTo s m args below meth c H locs 0 0 Z (F0 m 13 ls []) from
    hLI13_3 _ mlo (0 : Int64) rfl hi _ _ _ hP hD hS (lv_sub hl [0, 1, 2, 3, 4] rfl)
  clear hi hP hD hS hl
  intro N
  induction N using Nat.strongRecOn with
  | ind N ihI13_3 =>
    intro i5_1 i3_2 hNI13_3 hi H locs ls hP hD hS hl
    have hw := hw i5_1 i3_2 hi
    refine lv_iload hx hb dX5_upTo_13 (lv_at hl 0 rfl) ?_
    refine lv_aload_n hx hb dX5_upTo_15 rfl (lv_at hl 2 rfl) ?_
    refine k_get hx hb hts uX5_upTo_X5 hown hK hP 0 5 rfl rfl 5 (by decide) fX5_upTo_20 (.int mhi) rfl dX5_upTo_16 ?_
    refine lv_icmp_gt (tgt := 44) hx hb dX5_upTo_19 (by decide) (fun c_8 => ?_) (fun c_8 => ?_)
    · have hw := hw.1 c_8
      refine lv_lload_n hx hb dX5_upTo_44 rfl (lv_at hl 1 rfl) ?_
      exact hret _ 0 _ _ _ _ hw hP hD hS dX5_upTo_45
    · have hw := hw.2 c_8
      refine lv_iload hx hb dX5_upTo_22 (lv_at hl 0 rfl) ?_
      refine lv_iload_n hx hb dX5_upTo_24 rfl (lv_at hl 4 rfl) ?_
      refine lv_icmp_gt (tgt := 44) hx hb dX5_upTo_25 (by decide) (fun c_7 => ?_) (fun c_7 => ?_)
      · have hw := hw.1 c_7
        refine lv_lload_n hx hb dX5_upTo_44 rfl (lv_at hl 1 rfl) ?_
        exact hret _ 0 _ _ _ _ hw hP hD hS dX5_upTo_45
      · have hw := hw.2 c_7
        refine lv_lload_n hx hb dX5_upTo_28 rfl (lv_at hl 1 rfl) ?_
        refine lv_aload_n hx hb dX5_upTo_29 rfl (lv_at hl 2 rfl) ?_
        refine lv_iload_n hx hb dX5_upTo_30 rfl (lv_at hl 3 rfl) ?_
        refine lv_iload hx hb dX5_upTo_31 (lv_at hl 0 rfl) ?_
        refine k_Vl (M_X5_weightOf l G cI cJ Ay Bmr Bfg Bln Btp Bbl Btr Bwh mrow mrs ma mb mlo mhi man mtl mtm fig len top bel 0 trm who p0 i5_1 _ hw) ⟨hx, hb, hml, hown, hts⟩ (cwV 2 hts gX5_upTo_X5_weightOf rfl rfl rfl (by decide +kernel) ⟨Nat.le_of_ble_eq_true rfl, Nat.le_of_ble_eq_true rfl⟩) hK hP hD hS hA [0, 1, 2, 3, 4, 5, 6, 7] [] [0, 1, 2, 3, 4, 5, 6, 7] (wr := []) (wn := fun u : Unit => (wX5 cI cJ Ay Bmr Bfg Bln Btp Bbl Btr Bwh mrow mrs ma mb mlo mhi man mtl mtm fig len top bel 0 trm who)) rfl rfl (by decide) (by decide) (by decide) (by decide) (fun _ => rfl) (rest := [.long i3_2]) (q0 := 0) rfl rfl rfl hl.1 rfl (Nat.le_of_ble_eq_true rfl) (Nat.zero_le _) (Nat.zero_le _) dX5_upTo_33 (fun r_4 u H locs hw hP hD hS => ?_)
        refine lv_ladd hx hb dX5_upTo_36 ?_
        refine lv_topl (fun i3_5 ei3_5 => ?_)
        have hw := hw i3_5 ei3_5
        refine lv_lstore_n (lv' := [(3, .long i3_5), (5, .int i5_1), (0, .ref Ay), (1, .int p0), (2, .int p1)]) hx hb dX5_upTo_37 rfl hl (by decide) rfl (fun ls hl => ?_)
        obtain ⟨i5_6, ei5_6⟩ : ∃ y : Int32, y = i5_1 + 1 := ⟨_, rfl⟩
        have hw := hw i5_6 ei5_6
        refine lv_iinc (v := i5_6) (lv' := [(5, .int i5_6), (3, .long i3_5), (0, .ref Ay), (1, .int p0), (2, .int p1)]) hx hb dX5_upTo_38 hl (k := 1) rfl (by rw [ei5_6]; rfl) (by decide) rfl (fun ls hl => ?_)
        refine lv_goto (tgt := 13) hx hb dX5_upTo_41 (by decide) ?_
        exact ihI13_3 _ (by rw [← hNI13_3]; exact hw.2) i5_6 i3_5 rfl hw.1 _ _ _ hP hD hS (lv_sub hl [0, 1, 2, 3, 4] rfl)
theorem fX5_drawn_104 : Cond.fieldLink RX5 104 "PrivateCountsModel" "low" "I" ∈ wsX5_drawn := by decide +kernel
theorem uX5_drawn_X5 : ∀ w ∈ u_ws RX5 TX5 16, w ∈ wsX5_drawn := by decide +kernel
set_option maxHeartbeats 4000000 in
set_option maxRecDepth 100000 in
theorem M_X5_drawn (l : Launch) (G : va_G) (cI cJ : ClassId) (Ay Bmr Bfg Bln Btp Bbl Btr Bwh : Nat) (mrow : Nat → Int32) (mrs : Int32) (ma : Int32) (mb : Int32) (mlo : Int32) (mhi : Int32) (man : Int32) (mtl : Int32) (mtm : Int32) (fig : Nat → Int64) (len : Nat → Int32) (top : Nat → Int64) (bel : Nat → Int64) (thr : Int32) (trm : Nat → Int32) (who : Nat → Int32) (p0 : Int32) (p1 : Int64) (Q : Int32 → Prop) (hw : w_X5_drawn ma mb mlo mhi p0 p1 Q) : Ki l yX5_drawn wsX5_drawn rm_X5_drawn G cI cJ [.ref Ay, .int p0, .long p1] (wX5 cI cJ Ay Bmr Bfg Bln Btp Bbl Btr Bwh mrow mrs ma mb mlo mhi man mtl mtm fig len top bel thr trm who) (fun (r : Int32) (u : Unit) => Q r) (fun u => (wX5 cI cJ Ay Bmr Bfg Bln Btp Bbl Btr Bwh mrow mrs ma mb mlo mhi man mtl mtm fig len top bel thr trm who)) := by
  refine ki_intro (cc := cX5_drawn) (maxL := 7) rfl rfl (by decide) rfl (Nat.le_of_ble_eq_true rfl) ?_
  intro p e s m args below meth c A Z ls hx hb hml hts hown hP hK hD hS hA hl hret
  have hl : lv_has ls 7 [(0, .ref Ay), (1, .int p0), (2, .long p1)] := hl
  unfold w_X5_drawn at hw
  refine lv_aload_n hx hb dX5_drawn_0 rfl (lv_at hl 0 rfl) ?_
  refine k_get hx hb hts uX5_drawn_X5 hown hK hP 0 5 rfl rfl 4 (by decide) fX5_drawn_104 (.int mlo) rfl dX5_drawn_1 ?_
  refine lv_istore (lv' := [(4, .int mlo), (0, .ref Ay), (1, .int p0), (2, .long p1)]) hx hb dX5_drawn_4 hl (by decide) rfl (fun ls hl => ?_)
  refine lv_aload_n hx hb dX5_drawn_6 rfl (lv_at hl 1 rfl) ?_
  refine lv_iload_n hx hb dX5_drawn_7 rfl (lv_at hl 2 rfl) ?_
  refine lv_iload hx hb dX5_drawn_8 (lv_at hl 0 rfl) ?_
  refine k_Vl (M_X5_weightOf l G cI cJ Ay Bmr Bfg Bln Btp Bbl Btr Bwh mrow mrs ma mb mlo mhi man mtl mtm fig len top bel thr trm who p0 mlo _ hw) ⟨hx, hb, hml, hown, hts⟩ (cwV 2 hts gX5_drawn_X5_weightOf rfl rfl rfl (by decide +kernel) ⟨Nat.le_of_ble_eq_true rfl, Nat.le_of_ble_eq_true rfl⟩) hK hP hD hS hA [0, 1, 2, 3, 4, 5, 6, 7] [] [0, 1, 2, 3, 4, 5, 6, 7] (wr := []) (wn := fun u : Unit => (wX5 cI cJ Ay Bmr Bfg Bln Btp Bbl Btr Bwh mrow mrs ma mb mlo mhi man mtl mtm fig len top bel thr trm who)) rfl rfl (by decide) (by decide) (by decide) (by decide) (fun _ => rfl) (rest := []) (q0 := 0) rfl rfl rfl hl.1 rfl (Nat.le_of_ble_eq_true rfl) (Nat.zero_le _) (Nat.zero_le _) dX5_drawn_10 (fun r_1 u H locs hw hP hD hS => ?_)
  refine lv_lstore (lv' := [(5, .long r_1), (4, .int mlo), (0, .ref Ay), (1, .int p0), (2, .long p1)]) hx hb dX5_drawn_13 hl (by decide) rfl (fun ls hl => ?_)
  obtain ⟨I15_4, μ15_4, hi, hw⟩ := hw
  suffices hLI15_4 : ∀ (N : Nat) (i5_2 : Int64) (i4_3 : Int32) (_ : μ15_4 i5_2 i4_3 = N) (_ : I15_4 i5_2 i4_3) (H : Heap) (locs : List Loc) (ls : Array Slot), va_P G vwCl (wX5 cI cJ Ay Bmr Bfg Bln Btp Bbl Btr Bwh mrow mrs ma mb mlo mhi man mtl mtm fig len top bel thr trm who) H → va_D A (wX5 cI cJ Ay Bmr Bfg Bln Btp Bbl Btr Bwh mrow mrs ma mb mlo mhi man mtl mtm fig len top bel thr trm who) → va_S A s.heap H locs → lv_has ls 7 [(5, .long i5_2), (4, .int i4_3), (0, .ref Ay), (1, .int p0), (2, .long p1)] → W p l e rm_X5_drawn s m args below meth c H locs 0 0 Z (F0 m 15 ls []) from
    hLI15_4 _ r_1 mlo rfl hi _ _ _ hP hD hS (lv_sub hl [0, 1, 2, 3, 4] rfl)
  clear hi hP hD hS hl
  intro N
  induction N using Nat.strongRecOn with
  | ind N ihI15_4 =>
    intro i5_2 i4_3 hNI15_4 hi H locs ls hP hD hS hl
    have hw := hw i5_2 i4_3 hi
    refine lv_lload hx hb dX5_drawn_15 (lv_at hl 0 rfl) ?_
    refine lv_lload_n hx hb dX5_drawn_17 rfl (lv_at hl 4 rfl) ?_
    refine k_lif_gt (tgt := 40) hx hb dX5_drawn_18 dX5_drawn_19 (by decide) (fun c_8 => ?_) (fun c_8 => ?_)
    · have hw := hw.1 c_8
      refine lv_iload hx hb dX5_drawn_40 (lv_at hl 1 rfl) ?_
      exact hret _ () _ _ _ _ hw hP hD hS dX5_drawn_42
    · have hw := hw.2 c_8
      obtain ⟨i4_5, ei4_5⟩ : ∃ y : Int32, y = i4_3 + 1 := ⟨_, rfl⟩
      have hw := hw i4_5 ei4_5
      refine lv_iinc (v := i4_5) (lv' := [(4, .int i4_5), (5, .long i5_2), (0, .ref Ay), (1, .int p0), (2, .long p1)]) hx hb dX5_drawn_22 hl (k := 1) rfl (by rw [ei4_5]; rfl) (by decide) rfl (fun ls hl => ?_)
      refine lv_lload hx hb dX5_drawn_25 (lv_at hl 1 rfl) ?_
      refine lv_aload_n hx hb dX5_drawn_27 rfl (lv_at hl 2 rfl) ?_
      refine lv_iload_n hx hb dX5_drawn_28 rfl (lv_at hl 3 rfl) ?_
      refine lv_iload hx hb dX5_drawn_29 (lv_at hl 0 rfl) ?_
      refine k_Vl (M_X5_weightOf l G cI cJ Ay Bmr Bfg Bln Btp Bbl Btr Bwh mrow mrs ma mb mlo mhi man mtl mtm fig len top bel thr trm who p0 i4_5 _ hw) ⟨hx, hb, hml, hown, hts⟩ (cwV 2 hts gX5_drawn_X5_weightOf rfl rfl rfl (by decide +kernel) ⟨Nat.le_of_ble_eq_true rfl, Nat.le_of_ble_eq_true rfl⟩) hK hP hD hS hA [0, 1, 2, 3, 4, 5, 6, 7] [] [0, 1, 2, 3, 4, 5, 6, 7] (wr := []) (wn := fun u : Unit => (wX5 cI cJ Ay Bmr Bfg Bln Btp Bbl Btr Bwh mrow mrs ma mb mlo mhi man mtl mtm fig len top bel thr trm who)) rfl rfl (by decide) (by decide) (by decide) (by decide) (fun _ => rfl) (rest := [.long i5_2]) (q0 := 0) rfl rfl rfl hl.1 rfl (Nat.le_of_ble_eq_true rfl) (Nat.zero_le _) (Nat.zero_le _) dX5_drawn_31 (fun r_6 u H locs hw hP hD hS => ?_)
      refine lv_ladd hx hb dX5_drawn_34 ?_
      refine lv_topl (fun i5_7 ei5_7 => ?_)
      have hw := hw i5_7 ei5_7
      refine lv_lstore (lv' := [(5, .long i5_7), (4, .int i4_5), (0, .ref Ay), (1, .int p0), (2, .long p1)]) hx hb dX5_drawn_35 hl (by decide) rfl (fun ls hl => ?_)
      refine lv_goto (tgt := 15) hx hb dX5_drawn_37 (by decide) ?_
      exact ihI15_4 _ (by rw [← hNI15_4]; exact hw.2) i5_7 i4_5 rfl hw.1 _ _ _ hP hD hS (lv_sub hl [0, 1, 2, 3, 4] rfl)
set_option maxHeartbeats 4000000 in
set_option maxRecDepth 100000 in
theorem M_X5_noCoin (l : Launch) (G : va_G) (cI cJ : ClassId) (Ay Bmr Bfg Bln Btp Bbl Btr Bwh : Nat) (mrow : Nat → Int32) (mrs : Int32) (ma : Int32) (mb : Int32) (mlo : Int32) (mhi : Int32) (man : Int32) (mtl : Int32) (mtm : Int32) (fig : Nat → Int64) (len : Nat → Int32) (top : Nat → Int64) (bel : Nat → Int64) (thr : Int32) (trm : Nat → Int32) (who : Nat → Int32) (p0 : Int64) (Q : Int32 → Prop) (hw : w_X5_noCoin ma mb mlo mhi p0 Q) : Ki l yX5_noCoin wsX5_noCoin rm_X5_noCoin G cI cJ [.ref Ay, .long p0] (wX5 cI cJ Ay Bmr Bfg Bln Btp Bbl Btr Bwh mrow mrs ma mb mlo mhi man mtl mtm fig len top bel thr trm who) (fun (r : Int32) (u : Unit) => wB r ∧ Q r) (fun u => (wX5 cI cJ Ay Bmr Bfg Bln Btp Bbl Btr Bwh mrow mrs ma mb mlo mhi man mtl mtm fig len top bel thr trm who)) := by
  refine kz_intro (cc := cX5_noCoin) (maxL := 3) rfl rfl (by decide) rfl (Nat.le_of_ble_eq_true rfl) ?_
  intro p e s m args below meth c A Z ls hx hb hml hts hown hP hK hD hS hA hl hret
  have hl : lv_has ls 3 [(0, .ref Ay), (1, .long p0)] := hl
  unfold w_X5_noCoin at hw
  refine lv_lload_n hx hb dX5_noCoin_0 rfl (lv_at hl 1 rfl) ?_
  refine lv_lconst (v := 0) hx hb dX5_noCoin_1 (by decide) ?_
  refine k_lif_lt (tgt := 15) hx hb dX5_noCoin_2 dX5_noCoin_3 (by decide) (fun c_3 => ?_) (fun c_3 => ?_)
  · have hw := hw.1 c_3
    refine lv_iconst (v := 1) hx hb dX5_noCoin_15 (by decide) ?_
    refine lv_goto (tgt := 20) hx hb dX5_noCoin_16 (by decide) ?_
    exact hret _ () _ _ _ _ (Or.inr rfl) hw hP hD hS dX5_noCoin_20
  · have hw := hw.2 c_3
    refine lv_lload_n hx hb dX5_noCoin_6 rfl (lv_at hl 1 rfl) ?_
    refine lv_aload_n hx hb dX5_noCoin_7 rfl (lv_at hl 0 rfl) ?_
    refine k_Vl (M_X5_allOf l G cI cJ Ay Bmr Bfg Bln Btp Bbl Btr Bwh mrow mrs ma mb mlo mhi man mtl mtm fig len top bel thr trm who _ hw) ⟨hx, hb, hml, hown, hts⟩ (cwV 0 hts gX5_noCoin_X5_allOf rfl rfl rfl (by decide +kernel) ⟨Nat.le_of_ble_eq_true rfl, Nat.le_of_ble_eq_true rfl⟩) hK hP hD hS hA [0, 1, 2, 3, 4, 5, 6, 7] [] [0, 1, 2, 3, 4, 5, 6, 7] (wr := []) (wn := fun u : Unit => (wX5 cI cJ Ay Bmr Bfg Bln Btp Bbl Btr Bwh mrow mrs ma mb mlo mhi man mtl mtm fig len top bel thr trm who)) rfl rfl (by decide) (by decide) (by decide) (by decide) (fun _ => rfl) (rest := [.long p0]) (q0 := 0) rfl rfl rfl hl.1 rfl (Nat.le_of_ble_eq_true rfl) (Nat.zero_le _) (Nat.zero_le _) dX5_noCoin_8 (fun r_1 u H locs hw hP hD hS => ?_)
    refine k_lif_lt (tgt := 19) hx hb dX5_noCoin_11 dX5_noCoin_12 (by decide) (fun c_2 => ?_) (fun c_2 => ?_)
    · have hw := hw.1 c_2
      refine lv_iconst (v := 0) hx hb dX5_noCoin_19 (by decide) ?_
      exact hret _ () _ _ _ _ (Or.inl rfl) hw hP hD hS dX5_noCoin_20
    · have hw := hw.2 c_2
      refine lv_iconst (v := 1) hx hb dX5_noCoin_15 (by decide) ?_
      refine lv_goto (tgt := 20) hx hb dX5_noCoin_16 (by decide) ?_
      exact hret _ () _ _ _ _ (Or.inr rfl) hw hP hD hS dX5_noCoin_20
theorem fX5_draw_46 : Cond.fieldLink RX5 46 "PrivateCountsModel" "thrown" "I" ∈ wsX5_draw := by decide +kernel
theorem uX5_draw_X5 : ∀ w ∈ u_ws RX5 TX5 16, w ∈ wsX5_draw := by decide +kernel
set_option maxHeartbeats 4000000 in
set_option maxRecDepth 100000 in
theorem M_X5_draw (l : Launch) (G : va_G) (cI cJ : ClassId) (Ay Bmr Bfg Bln Btp Bbl Btr Bwh : Nat) (mrow : Nat → Int32) (mrs : Int32) (ma : Int32) (mb : Int32) (mlo : Int32) (mhi : Int32) (man : Int32) (mtl : Int32) (mtm : Int32) (fig : Nat → Int64) (len : Nat → Int32) (top : Nat → Int64) (bel : Nat → Int64) (thr : Int32) (trm : Nat → Int32) (who : Nat → Int32) (p0 : Int32) (p1 : Int64) (Q : Int32 → Int32 → Prop) (hw : w_X5_draw ma mb mlo mhi thr p0 p1 Q) : Ki l yX5_draw wsX5_draw rm_X5_draw G cI cJ [.ref Ay, .int p0, .long p1] (wX5 cI cJ Ay Bmr Bfg Bln Btp Bbl Btr Bwh mrow mrs ma mb mlo mhi man mtl mtm fig len top bel thr trm who) (fun (r : Int32) (u : (Int32)) => Q r u) (fun u => (wX5 cI cJ Ay Bmr Bfg Bln Btp Bbl Btr Bwh mrow mrs ma mb mlo mhi man mtl mtm fig len top bel u trm who)) := by
  refine ki_intro (cc := cX5_draw) (maxL := 4) rfl rfl (by decide) rfl (Nat.le_of_ble_eq_true rfl) ?_
  intro p e s m args below meth c A Z ls hx hb hml hts hown hP hK hD hS hA hl hret
  have hl : lv_has ls 4 [(0, .ref Ay), (1, .int p0), (2, .long p1)] := hl
  unfold w_X5_draw at hw
  refine lv_aload_n hx hb dX5_draw_0 rfl (lv_at hl 0 rfl) ?_
  refine lv_aload_n hx hb dX5_draw_1 rfl (lv_at hl 0 rfl) ?_
  refine lv_iload_n hx hb dX5_draw_2 rfl (lv_at hl 1 rfl) ?_
  refine k_Vi (M_X5_isOut l G cI cJ Ay Bmr Bfg Bln Btp Bbl Btr Bwh mrow mrs ma mb mlo mhi man mtl mtm fig len top bel thr trm who p0 _ hw) ⟨hx, hb, hml, hown, hts⟩ (cwV 1 hts gX5_draw_X5_isOut rfl rfl rfl (by decide +kernel) ⟨Nat.le_of_ble_eq_true rfl, Nat.le_of_ble_eq_true rfl⟩) hK hP hD hS hA [0, 1, 2, 3, 4, 5, 6, 7] [] [0, 1, 2, 3, 4, 5, 6, 7] (wr := []) (wn := fun u : Unit => (wX5 cI cJ Ay Bmr Bfg Bln Btp Bbl Btr Bwh mrow mrs ma mb mlo mhi man mtl mtm fig len top bel thr trm who)) rfl rfl (by decide) (by decide) (by decide) (by decide) (fun _ => rfl) (rest := [.ref Ay]) (q0 := 0) rfl rfl rfl hl.1 rfl (Nat.le_of_ble_eq_true rfl) (Nat.zero_le _) (Nat.zero_le _) dX5_draw_3 (fun r_1 u H locs hw hP hD hS => ?_)
  obtain ⟨hzr_1, hw⟩ := hw
  obtain ⟨J22_3, hw, hR⟩ := hw
  have hJ22_3 : ∀ (t_2 : Int32) (_ : J22_3 t_2) (H : Heap) (locs : List Loc) (ls : Array Slot), va_P G vwCl (wX5 cI cJ Ay Bmr Bfg Bln Btp Bbl Btr Bwh mrow mrs ma mb mlo mhi man mtl mtm fig len top bel thr trm who) H → va_D A (wX5 cI cJ Ay Bmr Bfg Bln Btp Bbl Btr Bwh mrow mrs ma mb mlo mhi man mtl mtm fig len top bel thr trm who) → va_S A s.heap H locs → lv_has ls 4 [(0, .ref Ay), (1, .int p0), (2, .long p1)] → W p l e rm_X5_draw s m args below meth c H locs 0 0 Z (F0 m 22 ls [.int t_2, .ref Ay]) := by
    intro t_2 hw H locs ls hP hD hS hl
    have hw := hR _ hw
    refine k_put hx hb hts uX5_draw_X5 tyX5 tyX5_ok nmX5 hown hK hP hD hS 0 5 rfl rfl 13 (by decide) fX5_draw_46 rfl rfl rfl (Nat.le_of_ble_eq_true rfl) (w' := (wX5 cI cJ Ay Bmr Bfg Bln Btp Bbl Btr Bwh mrow mrs ma mb mlo mhi man mtl mtm fig len top bel t_2 trm who)) rfl dX5_draw_22 (fun H locs hP hD hS => ?_)
    refine lv_aload_n hx hb dX5_draw_25 rfl (lv_at hl 0 rfl) ?_
    refine k_get hx hb hts uX5_draw_X5 hown hK hP 0 5 rfl rfl 13 (by decide) fX5_draw_46 (.int t_2) rfl dX5_draw_26 ?_
    refine lv_if_le (tgt := 36) hx hb dX5_draw_29 (by decide) (fun c_8 => ?_) (fun c_8 => ?_)
    · have hw := hw.1 c_8
      refine lv_aload_n hx hb dX5_draw_36 rfl (lv_at hl 0 rfl) ?_
      refine lv_iload_n hx hb dX5_draw_37 rfl (lv_at hl 1 rfl) ?_
      refine lv_lload_n hx hb dX5_draw_38 rfl (lv_at hl 2 rfl) ?_
      refine k_Vi (M_X5_drawn l G cI cJ Ay Bmr Bfg Bln Btp Bbl Btr Bwh mrow mrs ma mb mlo mhi man mtl mtm fig len top bel t_2 trm who p0 p1 _ hw) ⟨hx, hb, hml, hown, hts⟩ (cwV 2 hts gX5_draw_X5_drawn rfl rfl rfl (by decide +kernel) ⟨Nat.le_of_ble_eq_true rfl, Nat.le_of_ble_eq_true rfl⟩) hK hP hD hS hA [0, 1, 2, 3, 4, 5, 6, 7] [] [0, 1, 2, 3, 4, 5, 6, 7] (wr := []) (wn := fun u : Unit => (wX5 cI cJ Ay Bmr Bfg Bln Btp Bbl Btr Bwh mrow mrs ma mb mlo mhi man mtl mtm fig len top bel t_2 trm who)) rfl rfl (by decide) (by decide) (by decide) (by decide) (fun _ => rfl) (rest := []) (q0 := 0) rfl rfl rfl hl.1 rfl (Nat.le_of_ble_eq_true rfl) (Nat.zero_le _) (Nat.zero_le _) dX5_draw_39 (fun r_7 u H locs hw hP hD hS => ?_)
      exact hret _ t_2 _ _ _ _ hw hP hD hS dX5_draw_42
    · have hw := hw.2 c_8
      refine lv_iconst (v := 0) hx hb dX5_draw_32 (by decide) ?_
      refine lv_goto (tgt := 42) hx hb dX5_draw_33 (by decide) ?_
      exact hret _ t_2 _ _ _ _ hw hP hD hS dX5_draw_42
  clear hR
  refine lv_if_ne (tgt := 17) hx hb dX5_draw_6 (by decide) (fun c_6 => ?_) (fun c_6 => ?_)
  · have hw := hw.1 c_6
    refine lv_iconst (v := 1) hx hb dX5_draw_17 (by decide) ?_
    refine lv_goto (tgt := 22) hx hb dX5_draw_18 (by decide) ?_
    exact hJ22_3 1 hw _ _ _ hP hD hS (lv_sub hl [0, 1, 2] rfl)
  · have hw := hw.2 c_6
    refine lv_aload_n hx hb dX5_draw_9 rfl (lv_at hl 0 rfl) ?_
    refine lv_lload_n hx hb dX5_draw_10 rfl (lv_at hl 2 rfl) ?_
    refine k_Vi (M_X5_noCoin l G cI cJ Ay Bmr Bfg Bln Btp Bbl Btr Bwh mrow mrs ma mb mlo mhi man mtl mtm fig len top bel thr trm who p1 _ hw) ⟨hx, hb, hml, hown, hts⟩ (cwV 1 hts gX5_draw_X5_noCoin rfl rfl rfl (by decide +kernel) ⟨Nat.le_of_ble_eq_true rfl, Nat.le_of_ble_eq_true rfl⟩) hK hP hD hS hA [0, 1, 2, 3, 4, 5, 6, 7] [] [0, 1, 2, 3, 4, 5, 6, 7] (wr := []) (wn := fun u : Unit => (wX5 cI cJ Ay Bmr Bfg Bln Btp Bbl Btr Bwh mrow mrs ma mb mlo mhi man mtl mtm fig len top bel thr trm who)) rfl rfl (by decide) (by decide) (by decide) (by decide) (fun _ => rfl) (rest := [.ref Ay]) (q0 := 0) rfl rfl rfl hl.1 rfl (Nat.le_of_ble_eq_true rfl) (Nat.zero_le _) (Nat.zero_le _) dX5_draw_11 (fun r_4 u H locs hw hP hD hS => ?_)
    obtain ⟨hzr_4, hw⟩ := hw
    refine lv_if_eq (tgt := 21) hx hb dX5_draw_14 (by decide) (fun c_5 => ?_) (fun c_5 => ?_)
    · have hw := hw.1 c_5
      refine lv_iconst (v := 0) hx hb dX5_draw_21 (by decide) ?_
      exact hJ22_3 0 hw _ _ _ hP hD hS (lv_sub hl [0, 1, 2] rfl)
    · have hw := hw.2 c_5
      refine lv_iconst (v := 1) hx hb dX5_draw_17 (by decide) ?_
      refine lv_goto (tgt := 22) hx hb dX5_draw_18 (by decide) ?_
      exact hJ22_3 1 hw _ _ _ hP hD hS (lv_sub hl [0, 1, 2] rfl)
theorem fX5_isNear_46 : Cond.fieldLink RX5 46 "PrivateCountsModel" "thrown" "I" ∈ wsX5_isNear := by decide +kernel
theorem uX5_isNear_X5 : ∀ w ∈ u_ws RX5 TX5 16, w ∈ wsX5_isNear := by decide +kernel
theorem fX5_isNear_104 : Cond.fieldLink RX5 104 "PrivateCountsModel" "low" "I" ∈ wsX5_isNear := by decide +kernel
theorem fX5_isNear_20 : Cond.fieldLink RX5 20 "PrivateCountsModel" "high" "I" ∈ wsX5_isNear := by decide +kernel
theorem fX5_isNear_13 : Cond.fieldLink RX5 13 "PrivateCountsModel" "a" "I" ∈ wsX5_isNear := by decide +kernel
theorem fX5_isNear_17 : Cond.fieldLink RX5 17 "PrivateCountsModel" "b" "I" ∈ wsX5_isNear := by decide +kernel
set_option maxHeartbeats 4000000 in
set_option maxRecDepth 100000 in
theorem M_X5_isNear (l : Launch) (G : va_G) (cI cJ : ClassId) (Ay Bmr Bfg Bln Btp Bbl Btr Bwh : Nat) (mrow : Nat → Int32) (mrs : Int32) (ma : Int32) (mb : Int32) (mlo : Int32) (mhi : Int32) (man : Int32) (mtl : Int32) (mtm : Int32) (fig : Nat → Int64) (len : Nat → Int32) (top : Nat → Int64) (bel : Nat → Int64) (thr : Int32) (trm : Nat → Int32) (who : Nat → Int32) (p0 : Int32) (p1 : Int32) (Q : Int32 → Int32 → Prop) (hw : w_X5_isNear ma mb mlo mhi thr p0 p1 Q) : Ki l yX5_isNear wsX5_isNear rm_X5_isNear G cI cJ [.ref Ay, .int p0, .int p1] (wX5 cI cJ Ay Bmr Bfg Bln Btp Bbl Btr Bwh mrow mrs ma mb mlo mhi man mtl mtm fig len top bel thr trm who) (fun (r : Int32) (u : (Int32)) => wB r ∧ Q r u) (fun u => (wX5 cI cJ Ay Bmr Bfg Bln Btp Bbl Btr Bwh mrow mrs ma mb mlo mhi man mtl mtm fig len top bel u trm who)) := by
  refine kz_intro (cc := cX5_isNear) (maxL := 5) rfl rfl (by decide) rfl (Nat.le_of_ble_eq_true rfl) ?_
  intro p e s m args below meth c A Z ls hx hb hml hts hown hP hK hD hS hA hl hret
  have hl : lv_has ls 5 [(0, .ref Ay), (1, .int p0), (2, .int p1)] := hl
  unfold w_X5_isNear at hw
  refine lv_aload_n hx hb dX5_isNear_0 rfl (lv_at hl 0 rfl) ?_
  refine lv_aload_n hx hb dX5_isNear_1 rfl (lv_at hl 0 rfl) ?_
  refine lv_iload_n hx hb dX5_isNear_2 rfl (lv_at hl 1 rfl) ?_
  refine k_Vi (M_X5_isOut l G cI cJ Ay Bmr Bfg Bln Btp Bbl Btr Bwh mrow mrs ma mb mlo mhi man mtl mtm fig len top bel thr trm who p0 _ hw) ⟨hx, hb, hml, hown, hts⟩ (cwV 1 hts gX5_isNear_X5_isOut rfl rfl rfl (by decide +kernel) ⟨Nat.le_of_ble_eq_true rfl, Nat.le_of_ble_eq_true rfl⟩) hK hP hD hS hA [0, 1, 2, 3, 4, 5, 6, 7] [] [0, 1, 2, 3, 4, 5, 6, 7] (wr := []) (wn := fun u : Unit => (wX5 cI cJ Ay Bmr Bfg Bln Btp Bbl Btr Bwh mrow mrs ma mb mlo mhi man mtl mtm fig len top bel thr trm who)) rfl rfl (by decide) (by decide) (by decide) (by decide) (fun _ => rfl) (rest := [.ref Ay]) (q0 := 0) rfl rfl rfl hl.1 rfl (Nat.le_of_ble_eq_true rfl) (Nat.zero_le _) (Nat.zero_le _) dX5_isNear_3 (fun r_1 u H locs hw hP hD hS => ?_)
  obtain ⟨hzr_1, hw⟩ := hw
  obtain ⟨J22_3, hw, hR⟩ := hw
  have hJ22_3 : ∀ (t_2 : Int32) (_ : J22_3 t_2) (H : Heap) (locs : List Loc) (ls : Array Slot), va_P G vwCl (wX5 cI cJ Ay Bmr Bfg Bln Btp Bbl Btr Bwh mrow mrs ma mb mlo mhi man mtl mtm fig len top bel thr trm who) H → va_D A (wX5 cI cJ Ay Bmr Bfg Bln Btp Bbl Btr Bwh mrow mrs ma mb mlo mhi man mtl mtm fig len top bel thr trm who) → va_S A s.heap H locs → lv_has ls 5 [(0, .ref Ay), (1, .int p0), (2, .int p1)] → W p l e rm_X5_isNear s m args below meth c H locs 0 0 Z (F0 m 22 ls [.int t_2, .ref Ay]) := by
    intro t_2 hw H locs ls hP hD hS hl
    have hw := hR _ hw
    refine k_put hx hb hts uX5_isNear_X5 tyX5 tyX5_ok nmX5 hown hK hP hD hS 0 5 rfl rfl 13 (by decide) fX5_isNear_46 rfl rfl rfl (Nat.le_of_ble_eq_true rfl) (w' := (wX5 cI cJ Ay Bmr Bfg Bln Btp Bbl Btr Bwh mrow mrs ma mb mlo mhi man mtl mtm fig len top bel t_2 trm who)) rfl dX5_isNear_22 (fun H locs hP hD hS => ?_)
    refine lv_aload_n hx hb dX5_isNear_25 rfl (lv_at hl 0 rfl) ?_
    refine k_get hx hb hts uX5_isNear_X5 hown hK hP 0 5 rfl rfl 13 (by decide) fX5_isNear_46 (.int t_2) rfl dX5_isNear_26 ?_
    obtain ⟨J37_8, hw, hR⟩ := hw
    have hJ37_8 : ∀ (t_7 : Int32) (_ : J37_8 t_7) (H : Heap) (locs : List Loc) (ls : Array Slot), va_P G vwCl (wX5 cI cJ Ay Bmr Bfg Bln Btp Bbl Btr Bwh mrow mrs ma mb mlo mhi man mtl mtm fig len top bel t_2 trm who) H → va_D A (wX5 cI cJ Ay Bmr Bfg Bln Btp Bbl Btr Bwh mrow mrs ma mb mlo mhi man mtl mtm fig len top bel t_2 trm who) → va_S A s.heap H locs → lv_has ls 5 [(0, .ref Ay), (1, .int p0), (2, .int p1)] → W p l e rm_X5_isNear s m args below meth c H locs 0 0 Z (F0 m 37 ls [.int t_7]) := by
      intro t_7 hw H locs ls hP hD hS hl
      have hw := hR _ hw
      refine lv_istore_n (lv' := [(3, .int t_7), (0, .ref Ay), (1, .int p0), (2, .int p1)]) hx hb dX5_isNear_37 rfl hl (by decide) rfl (fun ls hl => ?_)
      refine lv_aload_n hx hb dX5_isNear_38 rfl (lv_at hl 1 rfl) ?_
      refine k_get hx hb hts uX5_isNear_X5 hown hK hP 0 5 rfl rfl 4 (by decide) fX5_isNear_104 (.int mlo) rfl dX5_isNear_39 ?_
      refine lv_istore (lv' := [(4, .int mlo), (3, .int t_7), (0, .ref Ay), (1, .int p0), (2, .int p1)]) hx hb dX5_isNear_42 hl (by decide) rfl (fun ls hl => ?_)
      obtain ⟨I44_12, μ44_12, hi, hw⟩ := hw
      suffices hLI44_12 : ∀ (N : Nat) (i4_10 : Int32) (i3_11 : Int32) (_ : μ44_12 i4_10 i3_11 = N) (_ : I44_12 i4_10 i3_11) (H : Heap) (locs : List Loc) (ls : Array Slot), va_P G vwCl (wX5 cI cJ Ay Bmr Bfg Bln Btp Bbl Btr Bwh mrow mrs ma mb mlo mhi man mtl mtm fig len top bel t_2 trm who) H → va_D A (wX5 cI cJ Ay Bmr Bfg Bln Btp Bbl Btr Bwh mrow mrs ma mb mlo mhi man mtl mtm fig len top bel t_2 trm who) → va_S A s.heap H locs → lv_has ls 5 [(4, .int i4_10), (3, .int i3_11), (0, .ref Ay), (1, .int p0), (2, .int p1)] → W p l e rm_X5_isNear s m args below meth c H locs 0 0 Z (F0 m 44 ls []) from
        hLI44_12 _ mlo t_7 rfl hi _ _ _ hP hD hS (lv_sub hl [0, 1, 2, 3, 4] rfl)
      clear hi hP hD hS hl
      intro N
      induction N using Nat.strongRecOn with
      | ind N ihI44_12 =>
        intro i4_10 i3_11 hNI44_12 hi H locs ls hP hD hS hl
        have hw := hw i4_10 i3_11 hi
        refine lv_iload hx hb dX5_isNear_44 (lv_at hl 0 rfl) ?_
        refine lv_aload_n hx hb dX5_isNear_46 rfl (lv_at hl 2 rfl) ?_
        refine k_get hx hb hts uX5_isNear_X5 hown hK hP 0 5 rfl rfl 5 (by decide) fX5_isNear_20 (.int mhi) rfl dX5_isNear_47 ?_
        refine lv_icmp_gt (tgt := 99) hx hb dX5_isNear_50 (by decide) (fun c_19 => ?_) (fun c_19 => ?_)
        · have hw := hw.1 c_19
          refine lv_iload_n hx hb dX5_isNear_99 rfl (lv_at hl 1 rfl) ?_
          obtain ⟨hz, hw⟩ := hw
          exact hret _ t_2 _ _ _ _ hz hw hP hD hS dX5_isNear_100
        · have hw := hw.2 c_19
          refine lv_iload_n hx hb dX5_isNear_53 rfl (lv_at hl 1 rfl) ?_
          refine lv_if_eq (tgt := 99) hx hb dX5_isNear_54 (by decide) (fun c_18 => ?_) (fun c_18 => ?_)
          · have hw := hw.1 c_18
            refine lv_iload_n hx hb dX5_isNear_99 rfl (lv_at hl 1 rfl) ?_
            obtain ⟨hz, hw⟩ := hw
            exact hret _ t_2 _ _ _ _ hz hw hP hD hS dX5_isNear_100
          · have hw := hw.2 c_18
            refine lv_aload_n hx hb dX5_isNear_57 rfl (lv_at hl 2 rfl) ?_
            refine lv_iload_n hx hb dX5_isNear_58 rfl (lv_at hl 3 rfl) ?_
            refine lv_iload hx hb dX5_isNear_59 (lv_at hl 0 rfl) ?_
            refine k_Vl (M_X5_weightOf l G cI cJ Ay Bmr Bfg Bln Btp Bbl Btr Bwh mrow mrs ma mb mlo mhi man mtl mtm fig len top bel t_2 trm who p0 i4_10 _ hw) ⟨hx, hb, hml, hown, hts⟩ (cwV 2 hts gX5_isNear_X5_weightOf rfl rfl rfl (by decide +kernel) ⟨Nat.le_of_ble_eq_true rfl, Nat.le_of_ble_eq_true rfl⟩) hK hP hD hS hA [0, 1, 2, 3, 4, 5, 6, 7] [] [0, 1, 2, 3, 4, 5, 6, 7] (wr := []) (wn := fun u : Unit => (wX5 cI cJ Ay Bmr Bfg Bln Btp Bbl Btr Bwh mrow mrs ma mb mlo mhi man mtl mtm fig len top bel t_2 trm who)) rfl rfl (by decide) (by decide) (by decide) (by decide) (fun _ => rfl) (rest := []) (q0 := 0) rfl rfl rfl hl.1 rfl (Nat.le_of_ble_eq_true rfl) (Nat.zero_le _) (Nat.zero_le _) dX5_isNear_61 (fun r_13 u H locs hw hP hD hS => ?_)
            refine lv_aload_n hx hb dX5_isNear_64 rfl (lv_at hl 2 rfl) ?_
            refine k_get hx hb hts uX5_isNear_X5 hown hK hP 0 5 rfl rfl 2 (by decide) fX5_isNear_13 (.int ma) rfl dX5_isNear_65 ?_
            refine lv_i2l (v := ma.toInt64) hx hb dX5_isNear_68 rfl ?_
            refine lv_lmul hx hb dX5_isNear_69 ?_
            refine lv_aload_n hx hb dX5_isNear_70 rfl (lv_at hl 2 rfl) ?_
            refine lv_iload_n hx hb dX5_isNear_71 rfl (lv_at hl 4 rfl) ?_
            refine lv_iload hx hb dX5_isNear_72 (lv_at hl 0 rfl) ?_
            refine k_Vl (M_X5_weightOf l G cI cJ Ay Bmr Bfg Bln Btp Bbl Btr Bwh mrow mrs ma mb mlo mhi man mtl mtm fig len top bel t_2 trm who p1 i4_10 _ hw) ⟨hx, hb, hml, hown, hts⟩ (cwV 2 hts gX5_isNear_X5_weightOf rfl rfl rfl (by decide +kernel) ⟨Nat.le_of_ble_eq_true rfl, Nat.le_of_ble_eq_true rfl⟩) hK hP hD hS hA [0, 1, 2, 3, 4, 5, 6, 7] [] [0, 1, 2, 3, 4, 5, 6, 7] (wr := []) (wn := fun u : Unit => (wX5 cI cJ Ay Bmr Bfg Bln Btp Bbl Btr Bwh mrow mrs ma mb mlo mhi man mtl mtm fig len top bel t_2 trm who)) rfl rfl (by decide) (by decide) (by decide) (by decide) (fun _ => rfl) (rest := [.long (r_13 * ma.toInt64)]) (q0 := 0) rfl rfl rfl hl.1 rfl (Nat.le_of_ble_eq_true rfl) (Nat.zero_le _) (Nat.zero_le _) dX5_isNear_74 (fun r_14 u H locs hw hP hD hS => ?_)
            refine lv_aload_n hx hb dX5_isNear_77 rfl (lv_at hl 2 rfl) ?_
            refine k_get hx hb hts uX5_isNear_X5 hown hK hP 0 5 rfl rfl 3 (by decide) fX5_isNear_17 (.int mb) rfl dX5_isNear_78 ?_
            refine lv_i2l (v := mb.toInt64) hx hb dX5_isNear_81 rfl ?_
            refine lv_lmul hx hb dX5_isNear_82 ?_
            refine k_lif_gt (tgt := 91) hx hb dX5_isNear_83 dX5_isNear_84 (by decide) (fun c_17 => ?_) (fun c_17 => ?_)
            · have hw := hw.1 c_17
              refine lv_iconst (v := 0) hx hb dX5_isNear_91 (by decide) ?_
              refine lv_istore_n (lv' := [(3, .int 0), (4, .int i4_10), (0, .ref Ay), (1, .int p0), (2, .int p1)]) hx hb dX5_isNear_92 rfl hl (by decide) rfl (fun ls hl => ?_)
              obtain ⟨i4_15, ei4_15⟩ : ∃ y : Int32, y = i4_10 + 1 := ⟨_, rfl⟩
              have hw := hw i4_15 ei4_15
              refine lv_iinc (v := i4_15) (lv' := [(4, .int i4_15), (3, .int 0), (0, .ref Ay), (1, .int p0), (2, .int p1)]) hx hb dX5_isNear_93 hl (k := 1) rfl (by rw [ei4_15]; rfl) (by decide) rfl (fun ls hl => ?_)
              refine lv_goto (tgt := 44) hx hb dX5_isNear_96 (by decide) ?_
              exact ihI44_12 _ (by rw [← hNI44_12]; exact hw.2) i4_15 0 rfl hw.1 _ _ _ hP hD hS (lv_sub hl [0, 1, 2, 3, 4] rfl)
            · have hw := hw.2 c_17
              refine lv_iconst (v := 1) hx hb dX5_isNear_87 (by decide) ?_
              refine lv_goto (tgt := 92) hx hb dX5_isNear_88 (by decide) ?_
              refine lv_istore_n (lv' := [(3, .int 1), (4, .int i4_10), (0, .ref Ay), (1, .int p0), (2, .int p1)]) hx hb dX5_isNear_92 rfl hl (by decide) rfl (fun ls hl => ?_)
              obtain ⟨i4_16, ei4_16⟩ : ∃ y : Int32, y = i4_10 + 1 := ⟨_, rfl⟩
              have hw := hw i4_16 ei4_16
              refine lv_iinc (v := i4_16) (lv' := [(4, .int i4_16), (3, .int 1), (0, .ref Ay), (1, .int p0), (2, .int p1)]) hx hb dX5_isNear_93 hl (k := 1) rfl (by rw [ei4_16]; rfl) (by decide) rfl (fun ls hl => ?_)
              refine lv_goto (tgt := 44) hx hb dX5_isNear_96 (by decide) ?_
              exact ihI44_12 _ (by rw [← hNI44_12]; exact hw.2) i4_16 1 rfl hw.1 _ _ _ hP hD hS (lv_sub hl [0, 1, 2, 3, 4] rfl)
    clear hR
    refine lv_if_ne (tgt := 36) hx hb dX5_isNear_29 (by decide) (fun c_9 => ?_) (fun c_9 => ?_)
    · have hw := hw.1 c_9
      refine lv_iconst (v := 0) hx hb dX5_isNear_36 (by decide) ?_
      exact hJ37_8 0 hw _ _ _ hP hD hS (lv_sub hl [0, 1, 2] rfl)
    · have hw := hw.2 c_9
      refine lv_iconst (v := 1) hx hb dX5_isNear_32 (by decide) ?_
      refine lv_goto (tgt := 37) hx hb dX5_isNear_33 (by decide) ?_
      exact hJ37_8 1 hw _ _ _ hP hD hS (lv_sub hl [0, 1, 2] rfl)
  clear hR
  refine lv_if_ne (tgt := 17) hx hb dX5_isNear_6 (by decide) (fun c_6 => ?_) (fun c_6 => ?_)
  · have hw := hw.1 c_6
    refine lv_iconst (v := 1) hx hb dX5_isNear_17 (by decide) ?_
    refine lv_goto (tgt := 22) hx hb dX5_isNear_18 (by decide) ?_
    exact hJ22_3 1 hw _ _ _ hP hD hS (lv_sub hl [0, 1, 2] rfl)
  · have hw := hw.2 c_6
    refine lv_aload_n hx hb dX5_isNear_9 rfl (lv_at hl 0 rfl) ?_
    refine lv_iload_n hx hb dX5_isNear_10 rfl (lv_at hl 2 rfl) ?_
    refine k_Vi (M_X5_isOut l G cI cJ Ay Bmr Bfg Bln Btp Bbl Btr Bwh mrow mrs ma mb mlo mhi man mtl mtm fig len top bel thr trm who p1 _ hw) ⟨hx, hb, hml, hown, hts⟩ (cwV 1 hts gX5_isNear_X5_isOut rfl rfl rfl (by decide +kernel) ⟨Nat.le_of_ble_eq_true rfl, Nat.le_of_ble_eq_true rfl⟩) hK hP hD hS hA [0, 1, 2, 3, 4, 5, 6, 7] [] [0, 1, 2, 3, 4, 5, 6, 7] (wr := []) (wn := fun u : Unit => (wX5 cI cJ Ay Bmr Bfg Bln Btp Bbl Btr Bwh mrow mrs ma mb mlo mhi man mtl mtm fig len top bel thr trm who)) rfl rfl (by decide) (by decide) (by decide) (by decide) (fun _ => rfl) (rest := [.ref Ay]) (q0 := 0) rfl rfl rfl hl.1 rfl (Nat.le_of_ble_eq_true rfl) (Nat.zero_le _) (Nat.zero_le _) dX5_isNear_11 (fun r_4 u H locs hw hP hD hS => ?_)
    obtain ⟨hzr_4, hw⟩ := hw
    refine lv_if_eq (tgt := 21) hx hb dX5_isNear_14 (by decide) (fun c_5 => ?_) (fun c_5 => ?_)
    · have hw := hw.1 c_5
      refine lv_iconst (v := 0) hx hb dX5_isNear_21 (by decide) ?_
      exact hJ22_3 0 hw _ _ _ hP hD hS (lv_sub hl [0, 1, 2] rfl)
    · have hw := hw.2 c_5
      refine lv_iconst (v := 1) hx hb dX5_isNear_17 (by decide) ?_
      refine lv_goto (tgt := 22) hx hb dX5_isNear_18 (by decide) ?_
      exact hJ22_3 1 hw _ _ _ hP hD hS (lv_sub hl [0, 1, 2] rfl)
theorem fX5_reaches_17 : Cond.fieldLink RX5 17 "PrivateCountsModel" "b" "I" ∈ wsX5_reaches := by decide +kernel
theorem uX5_reaches_X5 : ∀ w ∈ u_ws RX5 TX5 16, w ∈ wsX5_reaches := by decide +kernel
theorem fX5_reaches_13 : Cond.fieldLink RX5 13 "PrivateCountsModel" "a" "I" ∈ wsX5_reaches := by decide +kernel
theorem fX5_reaches_39 : Cond.fieldLink RX5 39 "PrivateCountsModel" "whole" "[I" ∈ wsX5_reaches := by decide +kernel
theorem fX5_reaches_130 : Cond.constantLong RX5 130 (65535) ∈ wsX5_reaches := by decide +kernel
set_option maxHeartbeats 4000000 in
set_option maxRecDepth 100000 in
theorem M_X5_reaches (l : Launch) (G : va_G) (cI cJ : ClassId) (Ay Bmr Bfg Bln Btp Bbl Btr Bwh : Nat) (mrow : Nat → Int32) (mrs : Int32) (ma : Int32) (mb : Int32) (mlo : Int32) (mhi : Int32) (man : Int32) (mtl : Int32) (mtm : Int32) (fig : Nat → Int64) (len : Nat → Int32) (top : Nat → Int64) (bel : Nat → Int64) (thr : Int32) (trm : Nat → Int32) (who : Nat → Int32) (Q : Int32 → Prop) (hw : w_X5_reaches ma mb who Q) : Ki l yX5_reaches wsX5_reaches rm_X5_reaches G cI cJ [.ref Ay] (wX5 cI cJ Ay Bmr Bfg Bln Btp Bbl Btr Bwh mrow mrs ma mb mlo mhi man mtl mtm fig len top bel thr trm who) (fun (r : Int32) (u : Unit) => wB r ∧ Q r) (fun u => (wX5 cI cJ Ay Bmr Bfg Bln Btp Bbl Btr Bwh mrow mrs ma mb mlo mhi man mtl mtm fig len top bel thr trm who)) := by
  refine kz_intro (cc := cX5_reaches) (maxL := 8) rfl rfl (by decide) rfl (Nat.le_of_ble_eq_true rfl) ?_
  intro p e s m args below meth c A Z ls hx hb hml hts hown hP hK hD hS hA hl hret
  have hl : lv_has ls 8 [(0, .ref Ay)] := hl
  unfold w_X5_reaches at hw
  refine lv_lconst (v := 0) hx hb dX5_reaches_0 (by decide) ?_
  refine lv_lstore_n (lv' := [(1, .long 0), (0, .ref Ay)]) hx hb dX5_reaches_1 rfl hl (by decide) rfl (fun ls hl => ?_)
  refine lv_lconst (v := 0) hx hb dX5_reaches_2 (by decide) ?_
  refine lv_lstore_n (lv' := [(3, .long 0), (1, .long 0), (0, .ref Ay)]) hx hb dX5_reaches_3 rfl hl (by decide) rfl (fun ls hl => ?_)
  refine lv_iconst (v := 0) hx hb dX5_reaches_4 (by decide) ?_
  refine lv_istore (lv' := [(5, .int 0), (3, .long 0), (1, .long 0), (0, .ref Ay)]) hx hb dX5_reaches_5 hl (by decide) rfl (fun ls hl => ?_)
  obtain ⟨I7_4, μ7_4, hi, hw⟩ := hw
  suffices hLI7_4 : ∀ (N : Nat) (i5_1 : Int32) (i3_2 : Int64) (i1_3 : Int64) (_ : μ7_4 i5_1 i3_2 i1_3 = N) (_ : I7_4 i5_1 i3_2 i1_3) (H : Heap) (locs : List Loc) (ls : Array Slot), va_P G vwCl (wX5 cI cJ Ay Bmr Bfg Bln Btp Bbl Btr Bwh mrow mrs ma mb mlo mhi man mtl mtm fig len top bel thr trm who) H → va_D A (wX5 cI cJ Ay Bmr Bfg Bln Btp Bbl Btr Bwh mrow mrs ma mb mlo mhi man mtl mtm fig len top bel thr trm who) → va_S A s.heap H locs → lv_has ls 8 [(5, .int i5_1), (3, .long i3_2), (1, .long i1_3), (0, .ref Ay)] → W p l e rm_X5_reaches s m args below meth c H locs 0 0 Z (F0 m 7 ls []) from
    hLI7_4 _ (0 : Int32) (0 : Int64) (0 : Int64) rfl hi _ _ _ hP hD hS (lv_sub hl [0, 1, 2, 3] rfl)
  clear hi hP hD hS hl
  intro N
  induction N using Nat.strongRecOn with
  | ind N ihI7_4 =>
    intro i5_1 i3_2 i1_3 hNI7_4 hi H locs ls hP hD hS hl
    have hw := hw i5_1 i3_2 i1_3 hi
    refine lv_iload hx hb dX5_reaches_7 (lv_at hl 0 rfl) ?_
    refine lv_bipush (v := 10) hx hb dX5_reaches_9 (by decide) ?_
    refine lv_icmp_ge (tgt := 62) hx hb dX5_reaches_11 (by decide) (fun c_13 => ?_) (fun c_13 => ?_)
    · have hw := hw.1 c_13
      refine lv_lload_n hx hb dX5_reaches_62 rfl (lv_at hl 1 rfl) ?_
      refine lv_aload_n hx hb dX5_reaches_63 rfl (lv_at hl 3 rfl) ?_
      refine k_get hx hb hts uX5_reaches_X5 hown hK hP 0 5 rfl rfl 3 (by decide) fX5_reaches_17 (.int mb) rfl dX5_reaches_64 ?_
      refine lv_i2l (v := mb.toInt64) hx hb dX5_reaches_67 rfl ?_
      refine k_lif_lt (tgt := 76) hx hb dX5_reaches_68 dX5_reaches_69 (by decide) (fun c_5 => ?_) (fun c_5 => ?_)
      · have hw := hw.1 c_5
        refine lv_iconst (v := 0) hx hb dX5_reaches_76 (by decide) ?_
        exact hret _ () _ _ _ _ (Or.inl rfl) hw hP hD hS dX5_reaches_77
      · have hw := hw.2 c_5
        refine lv_iconst (v := 1) hx hb dX5_reaches_72 (by decide) ?_
        refine lv_goto (tgt := 77) hx hb dX5_reaches_73 (by decide) ?_
        exact hret _ () _ _ _ _ (Or.inr rfl) hw hP hD hS dX5_reaches_77
    · have hw := hw.2 c_13
      refine lv_aload_n hx hb dX5_reaches_14 rfl (lv_at hl 3 rfl) ?_
      refine k_get hx hb hts uX5_reaches_X5 hown hK hP 0 5 rfl rfl 2 (by decide) fX5_reaches_13 (.int ma) rfl dX5_reaches_15 ?_
      refine lv_i2l (v := ma.toInt64) hx hb dX5_reaches_18 rfl ?_
      refine lv_aload_n hx hb dX5_reaches_19 rfl (lv_at hl 3 rfl) ?_
      refine k_get hx hb hts uX5_reaches_X5 hown hK hP 0 5 rfl rfl 15 (by decide) fX5_reaches_39 (.ref Bwh) rfl dX5_reaches_20 ?_
      refine lv_iload hx hb dX5_reaches_23 (lv_at hl 0 rfl) ?_
      obtain ⟨hin, hw⟩ := hw
      refine k_iald hx hb hK hP 7 rfl hin dX5_reaches_25 ?_
      refine lv_i2l (v := (who i5_1.toNatClampNeg).toInt64) hx hb dX5_reaches_26 rfl ?_
      refine lv_lmul hx hb dX5_reaches_27 ?_
      refine lv_topl (fun v_6 ev_6 => ?_)
      have hw := hw v_6 ev_6
      refine lv_lload_n hx hb dX5_reaches_28 rfl (lv_at hl 2 rfl) ?_
      refine lv_ladd hx hb dX5_reaches_29 ?_
      refine lv_topl (fun i6_7 ei6_7 => ?_)
      have hw := hw i6_7 ei6_7
      refine lv_lstore (lv' := [(6, .long i6_7), (5, .int i5_1), (3, .long i3_2), (1, .long i1_3), (0, .ref Ay)]) hx hb dX5_reaches_30 hl (by decide) rfl (fun ls hl => ?_)
      refine lv_lload hx hb dX5_reaches_32 (lv_at hl 0 rfl) ?_
      refine lv_bipush (v := 16) hx hb dX5_reaches_34 (by decide) ?_
      refine lv_lshr (v := i6_7 >>> ((16 : Int32).toInt64 &&& 63)) hx hb dX5_reaches_36 rfl ?_
      refine lv_topl (fun i1_8 ei1_8 => ?_)
      have hw := hw i1_8 ei1_8
      refine lv_lstore_n (lv' := [(1, .long i1_8), (6, .long i6_7), (5, .int i5_1), (3, .long i3_2), (0, .ref Ay)]) hx hb dX5_reaches_37 rfl hl (by decide) rfl (fun ls hl => ?_)
      refine lv_iload hx hb dX5_reaches_38 (lv_at hl 2 rfl) ?_
      refine lv_bipush (v := 8) hx hb dX5_reaches_40 (by decide) ?_
      refine lv_icmp_ne (tgt := 54) hx hb dX5_reaches_42 (by decide) (fun c_12 => ?_) (fun c_12 => ?_)
      · have hw := hw.1 c_12
        refine lv_lload_n hx hb dX5_reaches_54 rfl (lv_at hl 3 rfl) ?_
        refine lv_lstore_n (lv' := [(3, .long i3_2), (1, .long i1_8), (6, .long i6_7), (5, .int i5_1), (0, .ref Ay)]) hx hb dX5_reaches_55 rfl hl (by decide) rfl (fun ls hl => ?_)
        obtain ⟨i5_9, ei5_9⟩ : ∃ y : Int32, y = i5_1 + 1 := ⟨_, rfl⟩
        have hw := hw i5_9 ei5_9
        refine lv_iinc (v := i5_9) (lv' := [(5, .int i5_9), (3, .long i3_2), (1, .long i1_8), (6, .long i6_7), (0, .ref Ay)]) hx hb dX5_reaches_56 hl (k := 3) rfl (by rw [ei5_9]; rfl) (by decide) rfl (fun ls hl => ?_)
        refine lv_goto (tgt := 7) hx hb dX5_reaches_59 (by decide) ?_
        exact ihI7_4 _ (by rw [← hNI7_4]; exact hw.2) i5_9 i3_2 i1_8 rfl hw.1 _ _ _ hP hD hS (lv_sub hl [0, 1, 2, 4] rfl)
      · have hw := hw.2 c_12
        refine lv_lload hx hb dX5_reaches_45 (lv_at hl 1 rfl) ?_
        refine lv_ldc2 (v := 65535) hx hb hown (hts _ fX5_reaches_130) dX5_reaches_47 ?_
        refine lv_land hx hb dX5_reaches_50 ?_
        refine lv_goto (tgt := 55) hx hb dX5_reaches_51 (by decide) ?_
        refine lv_topl (fun i3_10 ei3_10 => ?_)
        have hw := hw i3_10 ei3_10
        refine lv_lstore_n (lv' := [(3, .long i3_10), (1, .long i1_8), (6, .long i6_7), (5, .int i5_1), (0, .ref Ay)]) hx hb dX5_reaches_55 rfl hl (by decide) rfl (fun ls hl => ?_)
        obtain ⟨i5_11, ei5_11⟩ : ∃ y : Int32, y = i5_1 + 1 := ⟨_, rfl⟩
        have hw := hw i5_11 ei5_11
        refine lv_iinc (v := i5_11) (lv' := [(5, .int i5_11), (3, .long i3_10), (1, .long i1_8), (6, .long i6_7), (0, .ref Ay)]) hx hb dX5_reaches_56 hl (k := 3) rfl (by rw [ei5_11]; rfl) (by decide) rfl (fun ls hl => ?_)
        refine lv_goto (tgt := 7) hx hb dX5_reaches_59 (by decide) ?_
        exact ihI7_4 _ (by rw [← hNI7_4]; exact hw.2) i5_11 i3_10 i1_8 rfl hw.1 _ _ _ hP hD hS (lv_sub hl [0, 1, 2, 4] rfl)
theorem fX5_enough_133 : Cond.constantLong RX5 133 (65536) ∈ wsX5_enough := by decide +kernel
theorem fX5_enough_36 : Cond.fieldLink RX5 36 "PrivateCountsModel" "term" "[I" ∈ wsX5_enough := by decide +kernel
theorem uX5_enough_X5 : ∀ w ∈ u_ws RX5 TX5 16, w ∈ wsX5_enough := by decide +kernel
theorem fX5_enough_130 : Cond.constantLong RX5 130 (65535) ∈ wsX5_enough := by decide +kernel
theorem fX5_enough_39 : Cond.fieldLink RX5 39 "PrivateCountsModel" "whole" "[I" ∈ wsX5_enough := by decide +kernel
theorem fX5_enough_132 : Cond.constant RX5 132 (65535) ∈ wsX5_enough := by decide +kernel
set_option maxHeartbeats 4000000 in
set_option maxRecDepth 100000 in
theorem M_X5_enough (l : Launch) (G : va_G) (cI cJ : ClassId) (Ay Bmr Bfg Bln Btp Bbl Btr Bwh : Nat) (mrow : Nat → Int32) (mrs : Int32) (ma : Int32) (mb : Int32) (mlo : Int32) (mhi : Int32) (man : Int32) (mtl : Int32) (mtm : Int32) (fig : Nat → Int64) (len : Nat → Int32) (top : Nat → Int64) (bel : Nat → Int64) (thr : Int32) (trm : Nat → Int32) (who : Nat → Int32) (p0 : Int32) (p1 : Int32) (Q : Int32 → (Nat → Int32) → (Nat → Int32) → Prop) (hw : w_X5_enough ma mb trm who p0 p1 Q) : Ki l yX5_enough wsX5_enough rm_X5_enough G cI cJ [.ref Ay, .int p0, .int p1] (wX5 cI cJ Ay Bmr Bfg Bln Btp Bbl Btr Bwh mrow mrs ma mb mlo mhi man mtl mtm fig len top bel thr trm who) (fun (r : Int32) (u : (Nat → Int32) × (Nat → Int32)) => wB r ∧ Q r u.1 u.2) (fun u => (wX5 cI cJ Ay Bmr Bfg Bln Btp Bbl Btr Bwh mrow mrs ma mb mlo mhi man mtl mtm fig len top bel thr u.1 u.2)) := by
  refine kz_intro (cc := cX5_enough) (maxL := 13) rfl rfl (by decide) rfl (Nat.le_of_ble_eq_true rfl) ?_
  intro p e s m args below meth c A Z ls hx hb hml hts hown hP hK hD hS hA hl hret
  have hl : lv_has ls 13 [(0, .ref Ay), (1, .int p0), (2, .int p1)] := hl
  unfold w_X5_enough at hw
  refine lv_iload_n hx hb dX5_enough_0 rfl (lv_at hl 1 rfl) ?_
  refine lv_iconst (v := 3) hx hb dX5_enough_1 (by decide) ?_
  refine lv_iload_n hx hb dX5_enough_2 rfl (lv_at hl 2 rfl) ?_
  refine lv_imul hx hb dX5_enough_3 ?_
  refine lv_icmp_lt (tgt := 9) hx hb dX5_enough_4 (by decide) (fun c_58 => ?_) (fun c_58 => ?_)
  · have hw := hw.1 c_58
    refine lv_iconst (v := 0) hx hb dX5_enough_9 (by decide) ?_
    refine lv_istore_n (lv' := [(3, .int 0), (0, .ref Ay), (1, .int p0), (2, .int p1)]) hx hb dX5_enough_10 rfl hl (by decide) rfl (fun ls hl => ?_)
    obtain ⟨I11_4, μ11_4, hi, hw⟩ := hw
    suffices hLI11_4 : ∀ (N : Nat) (i3_1 : Int32) (trm_2 : Nat → Int32) (who_3 : Nat → Int32) (_ : μ11_4 i3_1 trm_2 who_3 = N) (_ : I11_4 i3_1 trm_2 who_3) (H : Heap) (locs : List Loc) (ls : Array Slot), va_P G vwCl (wX5 cI cJ Ay Bmr Bfg Bln Btp Bbl Btr Bwh mrow mrs ma mb mlo mhi man mtl mtm fig len top bel thr trm_2 who_3) H → va_D A (wX5 cI cJ Ay Bmr Bfg Bln Btp Bbl Btr Bwh mrow mrs ma mb mlo mhi man mtl mtm fig len top bel thr trm_2 who_3) → va_S A s.heap H locs → lv_has ls 13 [(3, .int i3_1), (0, .ref Ay), (1, .int p0), (2, .int p1)] → W p l e rm_X5_enough s m args below meth c H locs 0 0 Z (F0 m 11 ls []) from
      hLI11_4 _ (0 : Int32) trm who rfl hi _ _ _ hP hD hS (lv_sub hl [0, 1, 2, 3] rfl)
    clear hi hP hD hS hl
    intro N
    induction N using Nat.strongRecOn with
    | ind N ihI11_4 =>
      intro i3_1 trm_2 who_3 hNI11_4 hi H locs ls hP hD hS hl
      have hw := hw i3_1 trm_2 who_3 hi
      refine lv_iload_n hx hb dX5_enough_11 rfl (lv_at hl 0 rfl) ?_
      refine lv_bipush (v := 10) hx hb dX5_enough_12 (by decide) ?_
      refine lv_icmp_ge (tgt := 47) hx hb dX5_enough_14 (by decide) (fun c_57 => ?_) (fun c_57 => ?_)
      · have hw := hw.1 c_57
        refine lv_iconst (v := 1) hx hb dX5_enough_47 (by decide) ?_
        refine lv_istore_n (lv' := [(3, .int 1), (0, .ref Ay), (1, .int p0), (2, .int p1)]) hx hb dX5_enough_48 rfl hl (by decide) rfl (fun ls hl => ?_)
        refine lv_iconst (v := 1) hx hb dX5_enough_49 (by decide) ?_
        refine lv_istore (lv' := [(4, .int 1), (3, .int 1), (0, .ref Ay), (1, .int p0), (2, .int p1)]) hx hb dX5_enough_50 hl (by decide) rfl (fun ls hl => ?_)
        obtain ⟨I52_9, μ52_9, hi, hw⟩ := hw
        suffices hLI52_9 : ∀ (N : Nat) (i4_5 : Int32) (i3_6 : Int32) (trm_7 : Nat → Int32) (who_8 : Nat → Int32) (_ : μ52_9 i4_5 i3_6 trm_7 who_8 = N) (_ : I52_9 i4_5 i3_6 trm_7 who_8) (H : Heap) (locs : List Loc) (ls : Array Slot), va_P G vwCl (wX5 cI cJ Ay Bmr Bfg Bln Btp Bbl Btr Bwh mrow mrs ma mb mlo mhi man mtl mtm fig len top bel thr trm_7 who_8) H → va_D A (wX5 cI cJ Ay Bmr Bfg Bln Btp Bbl Btr Bwh mrow mrs ma mb mlo mhi man mtl mtm fig len top bel thr trm_7 who_8) → va_S A s.heap H locs → lv_has ls 13 [(4, .int i4_5), (3, .int i3_6), (0, .ref Ay), (1, .int p0), (2, .int p1)] → W p l e rm_X5_enough s m args below meth c H locs 0 0 Z (F0 m 52 ls []) from
          hLI52_9 _ (1 : Int32) (1 : Int32) trm_2 who_3 rfl hi _ _ _ hP hD hS (lv_sub hl [0, 1, 2, 3, 4] rfl)
        clear hi hP hD hS hl
        intro N
        induction N using Nat.strongRecOn with
        | ind N ihI52_9 =>
          intro i4_5 i3_6 trm_7 who_8 hNI52_9 hi H locs ls hP hD hS hl
          have hw := hw i4_5 i3_6 trm_7 who_8 hi
          refine lv_iload_n hx hb dX5_enough_52 rfl (lv_at hl 1 rfl) ?_
          refine lv_if_eq (tgt := 260) hx hb dX5_enough_53 (by decide) (fun c_49 => ?_) (fun c_49 => ?_)
          · have hw := hw.1 c_49
            refine lv_aload_n hx hb dX5_enough_260 rfl (lv_at hl 2 rfl) ?_
            refine k_Vi (M_X5_reaches l G cI cJ Ay Bmr Bfg Bln Btp Bbl Btr Bwh mrow mrs ma mb mlo mhi man mtl mtm fig len top bel thr trm_7 who_8 _ hw) ⟨hx, hb, hml, hown, hts⟩ (cwV 0 hts gX5_enough_X5_reaches rfl rfl rfl (by decide +kernel) ⟨Nat.le_of_ble_eq_true rfl, Nat.le_of_ble_eq_true rfl⟩) hK hP hD hS hA [0, 1, 2, 3, 4, 5, 6, 7] [] [0, 1, 2, 3, 4, 5, 6, 7] (wr := []) (wn := fun u : Unit => (wX5 cI cJ Ay Bmr Bfg Bln Btp Bbl Btr Bwh mrow mrs ma mb mlo mhi man mtl mtm fig len top bel thr trm_7 who_8)) rfl rfl (by decide) (by decide) (by decide) (by decide) (fun _ => rfl) (rest := []) (q0 := 0) rfl rfl rfl hl.1 rfl (Nat.le_of_ble_eq_true rfl) (Nat.zero_le _) (Nat.zero_le _) dX5_enough_261 (fun r_10 u H locs hw hP hD hS => ?_)
            obtain ⟨hzr_10, hw⟩ := hw
            exact hret _ (trm_7, who_8) _ _ _ _ hzr_10 hw hP hD hS dX5_enough_264
          · have hw := hw.2 c_49
            refine lv_iconst (v := 0) hx hb dX5_enough_56 (by decide) ?_
            refine lv_istore (lv' := [(5, .int 0), (4, .int i4_5), (3, .int i3_6), (0, .ref Ay), (1, .int p0), (2, .int p1)]) hx hb dX5_enough_57 hl (by decide) rfl (fun ls hl => ?_)
            refine lv_iconst (v := 0) hx hb dX5_enough_59 (by decide) ?_
            refine lv_istore (lv' := [(6, .int 0), (5, .int 0), (4, .int i4_5), (3, .int i3_6), (0, .ref Ay), (1, .int p0), (2, .int p1)]) hx hb dX5_enough_60 hl (by decide) rfl (fun ls hl => ?_)
            obtain ⟨I62_14, μ62_14, hi, hw⟩ := hw
            suffices hLI62_14 : ∀ (N : Nat) (i6_11 : Int32) (i5_12 : Int32) (who_13 : Nat → Int32) (_ : μ62_14 i6_11 i5_12 who_13 = N) (_ : I62_14 i6_11 i5_12 who_13) (H : Heap) (locs : List Loc) (ls : Array Slot), va_P G vwCl (wX5 cI cJ Ay Bmr Bfg Bln Btp Bbl Btr Bwh mrow mrs ma mb mlo mhi man mtl mtm fig len top bel thr trm_7 who_13) H → va_D A (wX5 cI cJ Ay Bmr Bfg Bln Btp Bbl Btr Bwh mrow mrs ma mb mlo mhi man mtl mtm fig len top bel thr trm_7 who_13) → va_S A s.heap H locs → lv_has ls 13 [(6, .int i6_11), (5, .int i5_12), (4, .int i4_5), (0, .ref Ay), (1, .int p0), (2, .int p1)] → W p l e rm_X5_enough s m args below meth c H locs 0 0 Z (F0 m 62 ls []) from
              hLI62_14 _ (0 : Int32) (0 : Int32) who_8 rfl hi _ _ _ hP hD hS (lv_sub hl [0, 1, 2, 4, 5, 6] rfl)
            clear hi hP hD hS hl
            intro N
            induction N using Nat.strongRecOn with
            | ind N ihI62_14 =>
              intro i6_11 i5_12 who_13 hNI62_14 hi H locs ls hP hD hS hl
              have hw := hw i6_11 i5_12 who_13 hi
              refine lv_iload hx hb dX5_enough_62 (lv_at hl 0 rfl) ?_
              refine lv_bipush (v := 10) hx hb dX5_enough_64 (by decide) ?_
              refine lv_icmp_ge (tgt := 114) hx hb dX5_enough_66 (by decide) (fun c_48 => ?_) (fun c_48 => ?_)
              · have hw := hw.1 c_48
                refine lv_lconst (v := 0) hx hb dX5_enough_114 (by decide) ?_
                refine lv_lstore (lv' := [(6, .long 0), (5, .int i5_12), (4, .int i4_5), (0, .ref Ay), (1, .int p0), (2, .int p1)]) hx hb dX5_enough_115 hl (by decide) rfl (fun ls hl => ?_)
                refine lv_iconst (v := 0) hx hb dX5_enough_117 (by decide) ?_
                refine lv_istore (lv' := [(8, .int 0), (6, .long 0), (5, .int i5_12), (4, .int i4_5), (0, .ref Ay), (1, .int p0), (2, .int p1)]) hx hb dX5_enough_118 hl (by decide) rfl (fun ls hl => ?_)
                obtain ⟨I120_18, μ120_18, hi, hw⟩ := hw
                suffices hLI120_18 : ∀ (N : Nat) (i8_15 : Int32) (i6_16 : Int64) (trm_17 : Nat → Int32) (_ : μ120_18 i8_15 i6_16 trm_17 = N) (_ : I120_18 i8_15 i6_16 trm_17) (H : Heap) (locs : List Loc) (ls : Array Slot), va_P G vwCl (wX5 cI cJ Ay Bmr Bfg Bln Btp Bbl Btr Bwh mrow mrs ma mb mlo mhi man mtl mtm fig len top bel thr trm_17 who_13) H → va_D A (wX5 cI cJ Ay Bmr Bfg Bln Btp Bbl Btr Bwh mrow mrs ma mb mlo mhi man mtl mtm fig len top bel thr trm_17 who_13) → va_S A s.heap H locs → lv_has ls 13 [(8, .int i8_15), (6, .long i6_16), (4, .int i4_5), (0, .ref Ay), (1, .int p0), (2, .int p1)] → W p l e rm_X5_enough s m args below meth c H locs 0 0 Z (F0 m 120 ls []) from
                  hLI120_18 _ (0 : Int32) (0 : Int64) trm_7 rfl hi _ _ _ hP hD hS (lv_sub hl [0, 1, 3, 4, 5, 6] rfl)
                clear hi hP hD hS hl
                intro N
                induction N using Nat.strongRecOn with
                | ind N ihI120_18 =>
                  intro i8_15 i6_16 trm_17 hNI120_18 hi H locs ls hP hD hS hl
                  have hw := hw i8_15 i6_16 trm_17 hi
                  refine lv_iload hx hb dX5_enough_120 (lv_at hl 0 rfl) ?_
                  refine lv_bipush (v := 10) hx hb dX5_enough_122 (by decide) ?_
                  refine lv_icmp_ge (tgt := 170) hx hb dX5_enough_124 (by decide) (fun c_42 => ?_) (fun c_42 => ?_)
                  · have hw := hw.1 c_42
                    refine lv_lload hx hb dX5_enough_170 (lv_at hl 1 rfl) ?_
                    refine lv_lstore (lv' := [(8, .long i6_16), (6, .long i6_16), (4, .int i4_5), (0, .ref Ay), (1, .int p0), (2, .int p1)]) hx hb dX5_enough_172 hl (by decide) rfl (fun ls hl => ?_)
                    refine lv_iconst (v := 0) hx hb dX5_enough_174 (by decide) ?_
                    refine lv_istore_n (lv' := [(3, .int 0), (8, .long i6_16), (6, .long i6_16), (4, .int i4_5), (0, .ref Ay), (1, .int p0), (2, .int p1)]) hx hb dX5_enough_175 rfl hl (by decide) rfl (fun ls hl => ?_)
                    refine lv_bipush (v := 9) hx hb dX5_enough_176 (by decide) ?_
                    refine lv_istore (lv' := [(10, .int 9), (3, .int 0), (8, .long i6_16), (6, .long i6_16), (4, .int i4_5), (0, .ref Ay), (1, .int p0), (2, .int p1)]) hx hb dX5_enough_178 hl (by decide) rfl (fun ls hl => ?_)
                    obtain ⟨I180_23, μ180_23, hi, hw⟩ := hw
                    suffices hLI180_23 : ∀ (N : Nat) (i10_19 : Int32) (i3_20 : Int32) (i8_21 : Int64) (trm_22 : Nat → Int32) (_ : μ180_23 i10_19 i3_20 i8_21 trm_22 = N) (_ : I180_23 i10_19 i3_20 i8_21 trm_22) (H : Heap) (locs : List Loc) (ls : Array Slot), va_P G vwCl (wX5 cI cJ Ay Bmr Bfg Bln Btp Bbl Btr Bwh mrow mrs ma mb mlo mhi man mtl mtm fig len top bel thr trm_22 who_13) H → va_D A (wX5 cI cJ Ay Bmr Bfg Bln Btp Bbl Btr Bwh mrow mrs ma mb mlo mhi man mtl mtm fig len top bel thr trm_22 who_13) → va_S A s.heap H locs → lv_has ls 13 [(10, .int i10_19), (3, .int i3_20), (8, .long i8_21), (4, .int i4_5), (0, .ref Ay), (1, .int p0), (2, .int p1)] → W p l e rm_X5_enough s m args below meth c H locs 0 0 Z (F0 m 180 ls []) from
                      hLI180_23 _ (9 : Int32) (0 : Int32) i6_16 trm_17 rfl hi _ _ _ hP hD hS (lv_sub hl [0, 1, 2, 4, 5, 6, 7] rfl)
                    clear hi hP hD hS hl
                    intro N
                    induction N using Nat.strongRecOn with
                    | ind N ihI180_23 =>
                      intro i10_19 i3_20 i8_21 trm_22 hNI180_23 hi H locs ls hP hD hS hl
                      have hw := hw i10_19 i3_20 i8_21 trm_22 hi
                      refine lv_iload hx hb dX5_enough_180 (lv_at hl 0 rfl) ?_
                      refine lv_if_lt (tgt := 254) hx hb dX5_enough_182 (by decide) (fun c_36 => ?_) (fun c_36 => ?_)
                      · have hw := hw.1 c_36
                        obtain ⟨i4_24, ei4_24⟩ : ∃ y : Int32, y = i4_5 + 1 := ⟨_, rfl⟩
                        have hw := hw i4_24 ei4_24
                        refine lv_iinc (v := i4_24) (lv' := [(4, .int i4_24), (10, .int i10_19), (3, .int i3_20), (8, .long i8_21), (0, .ref Ay), (1, .int p0), (2, .int p1)]) hx hb dX5_enough_254 hl (k := 3) rfl (by rw [ei4_24]; rfl) (by decide) rfl (fun ls hl => ?_)
                        refine lv_goto (tgt := 52) hx hb dX5_enough_257 (by decide) ?_
                        exact ihI52_9 _ (by rw [← hNI52_9]; exact hw.2) i4_24 i3_20 trm_22 who_13 rfl hw.1 _ _ _ hP hD hS (lv_sub hl [0, 2, 4, 5, 6] rfl)
                      · have hw := hw.2 c_36
                        refine lv_lload hx hb dX5_enough_185 (lv_at hl 2 rfl) ?_
                        refine lv_ldc2 (v := 65536) hx hb hown (hts _ fX5_enough_133) dX5_enough_187 ?_
                        refine lv_lmul hx hb dX5_enough_190 ?_
                        refine lv_aload_n hx hb dX5_enough_191 rfl (lv_at hl 4 rfl) ?_
                        refine k_get hx hb hts uX5_enough_X5 hown hK hP 0 5 rfl rfl 14 (by decide) fX5_enough_36 (.ref Btr) rfl dX5_enough_192 ?_
                        refine lv_iload hx hb dX5_enough_195 (lv_at hl 0 rfl) ?_
                        obtain ⟨hin, hw⟩ := hw
                        refine k_iald hx hb hK hP 6 rfl hin dX5_enough_197 ?_
                        refine lv_i2l (v := (trm_22 i10_19.toNatClampNeg).toInt64) hx hb dX5_enough_198 rfl ?_
                        refine lv_ladd hx hb dX5_enough_199 ?_
                        refine lv_topl (fun v_25 ev_25 => ?_)
                        have hw := hw v_25 ev_25
                        refine lv_lstore (lv' := [(11, .long v_25), (10, .int i10_19), (3, .int i3_20), (8, .long i8_21), (4, .int i4_5), (0, .ref Ay), (1, .int p0), (2, .int p1)]) hx hb dX5_enough_200 hl (by decide) rfl (fun ls hl => ?_)
                        refine lv_aload_n hx hb dX5_enough_202 rfl (lv_at hl 5 rfl) ?_
                        refine k_get hx hb hts uX5_enough_X5 hown hK hP 0 5 rfl rfl 14 (by decide) fX5_enough_36 (.ref Btr) rfl dX5_enough_203 ?_
                        refine lv_iload hx hb dX5_enough_206 (lv_at hl 1 rfl) ?_
                        refine lv_lload hx hb dX5_enough_208 (lv_at hl 0 rfl) ?_
                        refine lv_iload_n hx hb dX5_enough_210 rfl (lv_at hl 7 rfl) ?_
                        refine lv_i2l (v := p1.toInt64) hx hb dX5_enough_211 rfl ?_
                        refine lv_iload hx hb dX5_enough_212 (lv_at hl 4 rfl) ?_
                        refine lv_i2l (v := i4_5.toInt64) hx hb dX5_enough_214 rfl ?_
                        refine lv_lmul hx hb dX5_enough_215 ?_
                        refine lv_topl (fun v_26 ev_26 => ?_)
                        have hw := hw v_26 ev_26
                        obtain ⟨hne, hw⟩ := hw
                        refine lv_ldiv hx hb dX5_enough_216 hne ?_
                        refine lv_topl (fun v_27 ev_27 => ?_)
                        have hw := hw v_27 ev_27
                        refine lv_l2i (v := v_27.toInt32) hx hb dX5_enough_217 rfl ?_
                        obtain ⟨hin, hw⟩ := hw
                        refine k_iast hx hb hK hP hD hS 6 rfl hin (w' := fun g => (wX5 cI cJ Ay Bmr Bfg Bln Btp Bbl Btr Bwh mrow mrs ma mb mlo mhi man mtl mtm fig len top bel thr g who_13)) (fun _ => rfl) dX5_enough_218 (fun trm_28 etrm_28 H locs hP hD hS => ?_)
                        have hw := hw trm_28 etrm_28
                        refine lv_lload hx hb dX5_enough_219 (lv_at hl 0 rfl) ?_
                        refine lv_iload_n hx hb dX5_enough_221 rfl (lv_at hl 7 rfl) ?_
                        refine lv_i2l (v := p1.toInt64) hx hb dX5_enough_222 rfl ?_
                        refine lv_iload hx hb dX5_enough_223 (lv_at hl 4 rfl) ?_
                        refine lv_i2l (v := i4_5.toInt64) hx hb dX5_enough_225 rfl ?_
                        refine lv_lmul hx hb dX5_enough_226 ?_
                        refine lv_topl (fun v_29 ev_29 => ?_)
                        have hw := hw v_29 ev_29
                        obtain ⟨hne, hw⟩ := hw
                        refine lv_lrem hx hb dX5_enough_227 hne ?_
                        refine lv_topl (fun v_30 ev_30 => ?_)
                        have hw := hw v_30 ev_30
                        refine lv_lstore (lv' := [(8, .long v_30), (11, .long v_25), (10, .int i10_19), (3, .int i3_20), (4, .int i4_5), (0, .ref Ay), (1, .int p0), (2, .int p1)]) hx hb dX5_enough_228 hl (by decide) rfl (fun ls hl => ?_)
                        refine lv_iload_n hx hb dX5_enough_230 rfl (lv_at hl 3 rfl) ?_
                        refine lv_aload_n hx hb dX5_enough_231 rfl (lv_at hl 5 rfl) ?_
                        refine k_get hx hb hts uX5_enough_X5 hown hK hP 0 5 rfl rfl 14 (by decide) fX5_enough_36 (.ref Btr) rfl dX5_enough_232 ?_
                        refine lv_iload hx hb dX5_enough_235 (lv_at hl 2 rfl) ?_
                        obtain ⟨hin, hw⟩ := hw
                        refine k_iald hx hb hK hP 6 rfl hin dX5_enough_237 ?_
                        refine lv_if_eq (tgt := 245) hx hb dX5_enough_238 (by decide) (fun c_35 => ?_) (fun c_35 => ?_)
                        · have hw := hw.1 c_35
                          refine lv_iconst (v := 0) hx hb dX5_enough_245 (by decide) ?_
                          refine lv_ior hx hb dX5_enough_246 ?_
                          refine lv_topi (fun i3_31 ei3_31 => ?_)
                          have hw := hw i3_31 ei3_31
                          refine lv_istore_n (lv' := [(3, .int i3_31), (8, .long v_30), (11, .long v_25), (10, .int i10_19), (4, .int i4_5), (0, .ref Ay), (1, .int p0), (2, .int p1)]) hx hb dX5_enough_247 rfl hl (by decide) rfl (fun ls hl => ?_)
                          obtain ⟨i10_32, ei10_32⟩ : ∃ y : Int32, y = i10_19 + (-1) := ⟨_, rfl⟩
                          have hw := hw i10_32 ei10_32
                          refine lv_iinc (v := i10_32) (lv' := [(10, .int i10_32), (3, .int i3_31), (8, .long v_30), (11, .long v_25), (4, .int i4_5), (0, .ref Ay), (1, .int p0), (2, .int p1)]) hx hb dX5_enough_248 hl (k := 3) rfl (by rw [ei10_32]; rfl) (by decide) rfl (fun ls hl => ?_)
                          refine lv_goto (tgt := 180) hx hb dX5_enough_251 (by decide) ?_
                          exact ihI180_23 _ (by rw [← hNI180_23]; exact hw.2) i10_32 i3_31 v_30 trm_28 rfl hw.1 _ _ _ hP hD hS (lv_sub hl [0, 1, 2, 4, 5, 6, 7] rfl)
                        · have hw := hw.2 c_35
                          refine lv_iconst (v := 1) hx hb dX5_enough_241 (by decide) ?_
                          refine lv_goto (tgt := 246) hx hb dX5_enough_242 (by decide) ?_
                          refine lv_ior hx hb dX5_enough_246 ?_
                          refine lv_topi (fun i3_33 ei3_33 => ?_)
                          have hw := hw i3_33 ei3_33
                          refine lv_istore_n (lv' := [(3, .int i3_33), (8, .long v_30), (11, .long v_25), (10, .int i10_19), (4, .int i4_5), (0, .ref Ay), (1, .int p0), (2, .int p1)]) hx hb dX5_enough_247 rfl hl (by decide) rfl (fun ls hl => ?_)
                          obtain ⟨i10_34, ei10_34⟩ : ∃ y : Int32, y = i10_19 + (-1) := ⟨_, rfl⟩
                          have hw := hw i10_34 ei10_34
                          refine lv_iinc (v := i10_34) (lv' := [(10, .int i10_34), (3, .int i3_33), (8, .long v_30), (11, .long v_25), (4, .int i4_5), (0, .ref Ay), (1, .int p0), (2, .int p1)]) hx hb dX5_enough_248 hl (k := 3) rfl (by rw [ei10_34]; rfl) (by decide) rfl (fun ls hl => ?_)
                          refine lv_goto (tgt := 180) hx hb dX5_enough_251 (by decide) ?_
                          exact ihI180_23 _ (by rw [← hNI180_23]; exact hw.2) i10_34 i3_33 v_30 trm_28 rfl hw.1 _ _ _ hP hD hS (lv_sub hl [0, 1, 2, 4, 5, 6, 7] rfl)
                  · have hw := hw.2 c_42
                    refine lv_aload_n hx hb dX5_enough_127 rfl (lv_at hl 3 rfl) ?_
                    refine k_get hx hb hts uX5_enough_X5 hown hK hP 0 5 rfl rfl 14 (by decide) fX5_enough_36 (.ref Btr) rfl dX5_enough_128 ?_
                    refine lv_iload hx hb dX5_enough_131 (lv_at hl 0 rfl) ?_
                    obtain ⟨hin, hw⟩ := hw
                    refine k_iald hx hb hK hP 6 rfl hin dX5_enough_133 ?_
                    refine lv_i2l (v := (trm_17 i8_15.toNatClampNeg).toInt64) hx hb dX5_enough_134 rfl ?_
                    refine lv_iload_n hx hb dX5_enough_135 rfl (lv_at hl 4 rfl) ?_
                    refine lv_i2l (v := p0.toInt64) hx hb dX5_enough_136 rfl ?_
                    refine lv_lmul hx hb dX5_enough_137 ?_
                    refine lv_topl (fun v_37 ev_37 => ?_)
                    have hw := hw v_37 ev_37
                    refine lv_lload hx hb dX5_enough_138 (lv_at hl 1 rfl) ?_
                    refine lv_ladd hx hb dX5_enough_140 ?_
                    refine lv_topl (fun i9_38 ei9_38 => ?_)
                    have hw := hw i9_38 ei9_38
                    refine lv_lstore (lv' := [(9, .long i9_38), (8, .int i8_15), (6, .long i6_16), (4, .int i4_5), (0, .ref Ay), (1, .int p0), (2, .int p1)]) hx hb dX5_enough_141 hl (by decide) rfl (fun ls hl => ?_)
                    refine lv_aload_n hx hb dX5_enough_143 rfl (lv_at hl 4 rfl) ?_
                    refine k_get hx hb hts uX5_enough_X5 hown hK hP 0 5 rfl rfl 14 (by decide) fX5_enough_36 (.ref Btr) rfl dX5_enough_144 ?_
                    refine lv_iload hx hb dX5_enough_147 (lv_at hl 1 rfl) ?_
                    refine lv_lload hx hb dX5_enough_149 (lv_at hl 0 rfl) ?_
                    refine lv_ldc2 (v := 65535) hx hb hown (hts _ fX5_enough_130) dX5_enough_151 ?_
                    refine lv_land hx hb dX5_enough_154 ?_
                    refine lv_l2i (v := (i9_38 &&& 65535).toInt32) hx hb dX5_enough_155 rfl ?_
                    obtain ⟨hin, hw⟩ := hw
                    refine k_iast hx hb hK hP hD hS 6 rfl hin (w' := fun g => (wX5 cI cJ Ay Bmr Bfg Bln Btp Bbl Btr Bwh mrow mrs ma mb mlo mhi man mtl mtm fig len top bel thr g who_13)) (fun _ => rfl) dX5_enough_156 (fun trm_39 etrm_39 H locs hP hD hS => ?_)
                    have hw := hw trm_39 etrm_39
                    refine lv_lload hx hb dX5_enough_157 (lv_at hl 0 rfl) ?_
                    refine lv_bipush (v := 16) hx hb dX5_enough_159 (by decide) ?_
                    refine lv_lshr (v := i9_38 >>> ((16 : Int32).toInt64 &&& 63)) hx hb dX5_enough_161 rfl ?_
                    refine lv_topl (fun i6_40 ei6_40 => ?_)
                    have hw := hw i6_40 ei6_40
                    refine lv_lstore (lv' := [(6, .long i6_40), (9, .long i9_38), (8, .int i8_15), (4, .int i4_5), (0, .ref Ay), (1, .int p0), (2, .int p1)]) hx hb dX5_enough_162 hl (by decide) rfl (fun ls hl => ?_)
                    obtain ⟨i8_41, ei8_41⟩ : ∃ y : Int32, y = i8_15 + 1 := ⟨_, rfl⟩
                    have hw := hw i8_41 ei8_41
                    refine lv_iinc (v := i8_41) (lv' := [(8, .int i8_41), (6, .long i6_40), (9, .long i9_38), (4, .int i4_5), (0, .ref Ay), (1, .int p0), (2, .int p1)]) hx hb dX5_enough_164 hl (k := 2) rfl (by rw [ei8_41]; rfl) (by decide) rfl (fun ls hl => ?_)
                    refine lv_goto (tgt := 120) hx hb dX5_enough_167 (by decide) ?_
                    exact ihI120_18 _ (by rw [← hNI120_18]; exact hw.2) i8_41 i6_40 trm_39 rfl hw.1 _ _ _ hP hD hS (lv_sub hl [0, 1, 3, 4, 5, 6] rfl)
              · have hw := hw.2 c_48
                refine lv_aload_n hx hb dX5_enough_69 rfl (lv_at hl 3 rfl) ?_
                refine k_get hx hb hts uX5_enough_X5 hown hK hP 0 5 rfl rfl 15 (by decide) fX5_enough_39 (.ref Bwh) rfl dX5_enough_70 ?_
                refine lv_iload hx hb dX5_enough_73 (lv_at hl 0 rfl) ?_
                obtain ⟨hin, hw⟩ := hw
                refine k_iald hx hb hK hP 7 rfl hin dX5_enough_75 ?_
                refine lv_aload_n hx hb dX5_enough_76 rfl (lv_at hl 3 rfl) ?_
                refine k_get hx hb hts uX5_enough_X5 hown hK hP 0 5 rfl rfl 14 (by decide) fX5_enough_36 (.ref Btr) rfl dX5_enough_77 ?_
                refine lv_iload hx hb dX5_enough_80 (lv_at hl 0 rfl) ?_
                obtain ⟨hin, hw⟩ := hw
                refine k_iald hx hb hK hP 6 rfl hin dX5_enough_82 ?_
                refine lv_iadd hx hb dX5_enough_83 ?_
                refine lv_topi (fun v_43 ev_43 => ?_)
                have hw := hw v_43 ev_43
                refine lv_iload hx hb dX5_enough_84 (lv_at hl 1 rfl) ?_
                refine lv_iadd hx hb dX5_enough_86 ?_
                refine lv_topi (fun i7_44 ei7_44 => ?_)
                have hw := hw i7_44 ei7_44
                refine lv_istore (lv' := [(7, .int i7_44), (6, .int i6_11), (5, .int i5_12), (4, .int i4_5), (0, .ref Ay), (1, .int p0), (2, .int p1)]) hx hb dX5_enough_87 hl (by decide) rfl (fun ls hl => ?_)
                refine lv_aload_n hx hb dX5_enough_89 rfl (lv_at hl 4 rfl) ?_
                refine k_get hx hb hts uX5_enough_X5 hown hK hP 0 5 rfl rfl 15 (by decide) fX5_enough_39 (.ref Bwh) rfl dX5_enough_90 ?_
                refine lv_iload hx hb dX5_enough_93 (lv_at hl 1 rfl) ?_
                refine lv_iload hx hb dX5_enough_95 (lv_at hl 0 rfl) ?_
                refine lv_ldc (v := 65535) hx hb hown (hts _ fX5_enough_132) dX5_enough_97 ?_
                refine lv_iand hx hb dX5_enough_99 ?_
                obtain ⟨hin, hw⟩ := hw
                refine k_iast hx hb hK hP hD hS 7 rfl hin (w' := fun g => (wX5 cI cJ Ay Bmr Bfg Bln Btp Bbl Btr Bwh mrow mrs ma mb mlo mhi man mtl mtm fig len top bel thr trm_7 g)) (fun _ => rfl) dX5_enough_100 (fun who_45 ewho_45 H locs hP hD hS => ?_)
                have hw := hw who_45 ewho_45
                refine lv_iload hx hb dX5_enough_101 (lv_at hl 0 rfl) ?_
                refine lv_bipush (v := 16) hx hb dX5_enough_103 (by decide) ?_
                refine lv_ishr hx hb dX5_enough_105 ?_
                refine lv_topi (fun i5_46 ei5_46 => ?_)
                have hw := hw i5_46 ei5_46
                refine lv_istore (lv' := [(5, .int i5_46), (7, .int i7_44), (6, .int i6_11), (4, .int i4_5), (0, .ref Ay), (1, .int p0), (2, .int p1)]) hx hb dX5_enough_106 hl (by decide) rfl (fun ls hl => ?_)
                obtain ⟨i6_47, ei6_47⟩ : ∃ y : Int32, y = i6_11 + 1 := ⟨_, rfl⟩
                have hw := hw i6_47 ei6_47
                refine lv_iinc (v := i6_47) (lv' := [(6, .int i6_47), (5, .int i5_46), (7, .int i7_44), (4, .int i4_5), (0, .ref Ay), (1, .int p0), (2, .int p1)]) hx hb dX5_enough_108 hl (k := 2) rfl (by rw [ei6_47]; rfl) (by decide) rfl (fun ls hl => ?_)
                refine lv_goto (tgt := 62) hx hb dX5_enough_111 (by decide) ?_
                exact ihI62_14 _ (by rw [← hNI62_14]; exact hw.2) i6_47 i5_46 who_45 rfl hw.1 _ _ _ hP hD hS (lv_sub hl [0, 1, 3, 4, 5, 6] rfl)
      · have hw := hw.2 c_57
        refine lv_aload_n hx hb dX5_enough_17 rfl (lv_at hl 1 rfl) ?_
        refine k_get hx hb hts uX5_enough_X5 hown hK hP 0 5 rfl rfl 14 (by decide) fX5_enough_36 (.ref Btr) rfl dX5_enough_18 ?_
        refine lv_iload_n hx hb dX5_enough_21 rfl (lv_at hl 0 rfl) ?_
        refine lv_iload_n hx hb dX5_enough_22 rfl (lv_at hl 0 rfl) ?_
        refine lv_bipush (v := 8) hx hb dX5_enough_23 (by decide) ?_
        refine lv_icmp_ne (tgt := 32) hx hb dX5_enough_25 (by decide) (fun c_56 => ?_) (fun c_56 => ?_)
        · have hw := hw.1 c_56
          refine lv_iconst (v := 0) hx hb dX5_enough_32 (by decide) ?_
          obtain ⟨hin, hw⟩ := hw
          refine k_iast hx hb hK hP hD hS 6 rfl hin (w' := fun g => (wX5 cI cJ Ay Bmr Bfg Bln Btp Bbl Btr Bwh mrow mrs ma mb mlo mhi man mtl mtm fig len top bel thr g who_3)) (fun _ => rfl) dX5_enough_33 (fun trm_50 etrm_50 H locs hP hD hS => ?_)
          have hw := hw trm_50 etrm_50
          refine lv_aload_n hx hb dX5_enough_34 rfl (lv_at hl 1 rfl) ?_
          refine k_get hx hb hts uX5_enough_X5 hown hK hP 0 5 rfl rfl 15 (by decide) fX5_enough_39 (.ref Bwh) rfl dX5_enough_35 ?_
          refine lv_iload_n hx hb dX5_enough_38 rfl (lv_at hl 0 rfl) ?_
          refine lv_iconst (v := 0) hx hb dX5_enough_39 (by decide) ?_
          obtain ⟨hin, hw⟩ := hw
          refine k_iast hx hb hK hP hD hS 7 rfl hin (w' := fun g => (wX5 cI cJ Ay Bmr Bfg Bln Btp Bbl Btr Bwh mrow mrs ma mb mlo mhi man mtl mtm fig len top bel thr trm_50 g)) (fun _ => rfl) dX5_enough_40 (fun who_51 ewho_51 H locs hP hD hS => ?_)
          have hw := hw who_51 ewho_51
          obtain ⟨i3_52, ei3_52⟩ : ∃ y : Int32, y = i3_1 + 1 := ⟨_, rfl⟩
          have hw := hw i3_52 ei3_52
          refine lv_iinc (v := i3_52) (lv' := [(3, .int i3_52), (0, .ref Ay), (1, .int p0), (2, .int p1)]) hx hb dX5_enough_41 hl (k := 0) rfl (by rw [ei3_52]; rfl) (by decide) rfl (fun ls hl => ?_)
          refine lv_goto (tgt := 11) hx hb dX5_enough_44 (by decide) ?_
          exact ihI11_4 _ (by rw [← hNI11_4]; exact hw.2) i3_52 trm_50 who_51 rfl hw.1 _ _ _ hP hD hS (lv_sub hl [0, 1, 2, 3] rfl)
        · have hw := hw.2 c_56
          refine lv_iconst (v := 1) hx hb dX5_enough_28 (by decide) ?_
          refine lv_goto (tgt := 33) hx hb dX5_enough_29 (by decide) ?_
          obtain ⟨hin, hw⟩ := hw
          refine k_iast hx hb hK hP hD hS 6 rfl hin (w' := fun g => (wX5 cI cJ Ay Bmr Bfg Bln Btp Bbl Btr Bwh mrow mrs ma mb mlo mhi man mtl mtm fig len top bel thr g who_3)) (fun _ => rfl) dX5_enough_33 (fun trm_53 etrm_53 H locs hP hD hS => ?_)
          have hw := hw trm_53 etrm_53
          refine lv_aload_n hx hb dX5_enough_34 rfl (lv_at hl 1 rfl) ?_
          refine k_get hx hb hts uX5_enough_X5 hown hK hP 0 5 rfl rfl 15 (by decide) fX5_enough_39 (.ref Bwh) rfl dX5_enough_35 ?_
          refine lv_iload_n hx hb dX5_enough_38 rfl (lv_at hl 0 rfl) ?_
          refine lv_iconst (v := 0) hx hb dX5_enough_39 (by decide) ?_
          obtain ⟨hin, hw⟩ := hw
          refine k_iast hx hb hK hP hD hS 7 rfl hin (w' := fun g => (wX5 cI cJ Ay Bmr Bfg Bln Btp Bbl Btr Bwh mrow mrs ma mb mlo mhi man mtl mtm fig len top bel thr trm_53 g)) (fun _ => rfl) dX5_enough_40 (fun who_54 ewho_54 H locs hP hD hS => ?_)
          have hw := hw who_54 ewho_54
          obtain ⟨i3_55, ei3_55⟩ : ∃ y : Int32, y = i3_1 + 1 := ⟨_, rfl⟩
          have hw := hw i3_55 ei3_55
          refine lv_iinc (v := i3_55) (lv' := [(3, .int i3_55), (0, .ref Ay), (1, .int p0), (2, .int p1)]) hx hb dX5_enough_41 hl (k := 0) rfl (by rw [ei3_55]; rfl) (by decide) rfl (fun ls hl => ?_)
          refine lv_goto (tgt := 11) hx hb dX5_enough_44 (by decide) ?_
          exact ihI11_4 _ (by rw [← hNI11_4]; exact hw.2) i3_55 trm_53 who_54 rfl hw.1 _ _ _ hP hD hS (lv_sub hl [0, 1, 2, 3] rfl)
  · have hw := hw.2 c_58
    refine lv_iconst (v := 1) hx hb dX5_enough_7 (by decide) ?_
    exact hret _ (trm, who) _ _ _ _ (Or.inr rfl) hw hP hD hS dX5_enough_8
set_option maxHeartbeats 4000000 in
set_option maxRecDepth 100000 in
theorem M_X5_noCost (l : Launch) (G : va_G) (cI cJ : ClassId) (p0 : Int32) (p1 : Int32) (Q : Int32 → Prop) (hw : w_X5_noCost p0 p1 Q) : Ki l yX5_noCost wsX5_noCost rm_X5_noCost G cI cJ [.int p0, .int p1] (w0 cI cJ) (fun (r : Int32) (u : Unit) => wB r ∧ Q r) (fun u => (w0 cI cJ)) := by
  refine kz_intro (cc := cX5_noCost) (maxL := 2) rfl rfl (by decide) rfl (Nat.le_of_ble_eq_true rfl) ?_
  intro p e s m args below meth c A Z ls hx hb hml hts hown hP hK hD hS hA hl hret
  have hl : lv_has ls 2 [(0, .int p0), (1, .int p1)] := hl
  unfold w_X5_noCost at hw
  refine lv_iload_n hx hb dX5_noCost_0 rfl (lv_at hl 0 rfl) ?_
  refine lv_if_lt (tgt := 23) hx hb dX5_noCost_1 (by decide) (fun c_4 => ?_) (fun c_4 => ?_)
  · have hw := hw.1 c_4
    refine lv_iconst (v := 1) hx hb dX5_noCost_23 (by decide) ?_
    refine lv_goto (tgt := 28) hx hb dX5_noCost_24 (by decide) ?_
    exact hret _ () _ _ _ _ (Or.inr rfl) hw hP hD hS dX5_noCost_28
  · have hw := hw.2 c_4
    refine lv_iload_n hx hb dX5_noCost_4 rfl (lv_at hl 0 rfl) ?_
    refine lv_sipush (v := 3000) hx hb dX5_noCost_5 (by decide) ?_
    refine lv_icmp_gt (tgt := 23) hx hb dX5_noCost_8 (by decide) (fun c_3 => ?_) (fun c_3 => ?_)
    · have hw := hw.1 c_3
      refine lv_iconst (v := 1) hx hb dX5_noCost_23 (by decide) ?_
      refine lv_goto (tgt := 28) hx hb dX5_noCost_24 (by decide) ?_
      exact hret _ () _ _ _ _ (Or.inr rfl) hw hP hD hS dX5_noCost_28
    · have hw := hw.2 c_3
      refine lv_iload_n hx hb dX5_noCost_11 rfl (lv_at hl 1 rfl) ?_
      refine lv_iconst (v := 1) hx hb dX5_noCost_12 (by decide) ?_
      refine lv_icmp_lt (tgt := 23) hx hb dX5_noCost_13 (by decide) (fun c_2 => ?_) (fun c_2 => ?_)
      · have hw := hw.1 c_2
        refine lv_iconst (v := 1) hx hb dX5_noCost_23 (by decide) ?_
        refine lv_goto (tgt := 28) hx hb dX5_noCost_24 (by decide) ?_
        exact hret _ () _ _ _ _ (Or.inr rfl) hw hP hD hS dX5_noCost_28
      · have hw := hw.2 c_2
        refine lv_iload_n hx hb dX5_noCost_16 rfl (lv_at hl 1 rfl) ?_
        refine lv_sipush (v := 1000) hx hb dX5_noCost_17 (by decide) ?_
        refine lv_icmp_le (tgt := 27) hx hb dX5_noCost_20 (by decide) (fun c_1 => ?_) (fun c_1 => ?_)
        · have hw := hw.1 c_1
          refine lv_iconst (v := 0) hx hb dX5_noCost_27 (by decide) ?_
          exact hret _ () _ _ _ _ (Or.inl rfl) hw hP hD hS dX5_noCost_28
        · have hw := hw.2 c_1
          refine lv_iconst (v := 1) hx hb dX5_noCost_23 (by decide) ?_
          refine lv_goto (tgt := 28) hx hb dX5_noCost_24 (by decide) ?_
          exact hret _ () _ _ _ _ (Or.inr rfl) hw hP hD hS dX5_noCost_28
theorem fX5_isEnough_46 : Cond.fieldLink RX5 46 "PrivateCountsModel" "thrown" "I" ∈ wsX5_isEnough := by decide +kernel
theorem uX5_isEnough_X5 : ∀ w ∈ u_ws RX5 TX5 16, w ∈ wsX5_isEnough := by decide +kernel
set_option maxHeartbeats 4000000 in
set_option maxRecDepth 100000 in
theorem M_X5_isEnough (l : Launch) (G : va_G) (cI cJ : ClassId) (Ay Bmr Bfg Bln Btp Bbl Btr Bwh : Nat) (mrow : Nat → Int32) (mrs : Int32) (ma : Int32) (mb : Int32) (mlo : Int32) (mhi : Int32) (man : Int32) (mtl : Int32) (mtm : Int32) (fig : Nat → Int64) (len : Nat → Int32) (top : Nat → Int64) (bel : Nat → Int64) (thr : Int32) (trm : Nat → Int32) (who : Nat → Int32) (p0 : Int32) (p1 : Int32) (Q : Int32 → Int32 → (Nat → Int32) → (Nat → Int32) → Prop) (hw : w_X5_isEnough ma mb thr trm who p0 p1 Q) : Ki l yX5_isEnough wsX5_isEnough rm_X5_isEnough G cI cJ [.ref Ay, .int p0, .int p1] (wX5 cI cJ Ay Bmr Bfg Bln Btp Bbl Btr Bwh mrow mrs ma mb mlo mhi man mtl mtm fig len top bel thr trm who) (fun (r : Int32) (u : (Int32) × (Nat → Int32) × (Nat → Int32)) => wB r ∧ Q r u.1 u.2.1 u.2.2) (fun u => (wX5 cI cJ Ay Bmr Bfg Bln Btp Bbl Btr Bwh mrow mrs ma mb mlo mhi man mtl mtm fig len top bel u.1 u.2.1 u.2.2)) := by
  refine kz_intro (cc := cX5_isEnough) (maxL := 3) rfl rfl (by decide) rfl (Nat.le_of_ble_eq_true rfl) ?_
  intro p e s m args below meth c A Z ls hx hb hml hts hown hP hK hD hS hA hl hret
  have hl : lv_has ls 3 [(0, .ref Ay), (1, .int p0), (2, .int p1)] := hl
  unfold w_X5_isEnough at hw
  refine lv_aload_n hx hb dX5_isEnough_0 rfl (lv_at hl 0 rfl) ?_
  refine lv_iload_n hx hb dX5_isEnough_1 rfl (lv_at hl 1 rfl) ?_
  refine lv_iload_n hx hb dX5_isEnough_2 rfl (lv_at hl 2 rfl) ?_
  refine k_Si (M_X5_noCost l G cI cJ p0 p1 _ hw) ⟨hx, hb, hml, hown, hts⟩ (va_cwS 2 hts gX5_isEnough_X5_noCost rfl rfl rfl (by decide +kernel) ⟨Nat.le_of_ble_eq_true rfl, Nat.le_of_ble_eq_true rfl⟩) hK hP hD hS hA [] [0, 1, 2, 3, 4, 5, 6, 7] [0, 1, 2, 3, 4, 5, 6, 7] (wr := [(Ay, .inr (5, [.ref Bmr, .int mrs, .int ma, .int mb, .int mlo, .int mhi, .int man, .int mtl, .int mtm, .ref Bfg, .ref Bln, .ref Btp, .ref Bbl, .int thr, .ref Btr, .ref Bwh])), (Bmr, .inl (cI, 60, .inl mrow)), (Bfg, .inl (cJ, 4608, .inr (.inl fig))), (Bln, .inl (cI, 18, .inl len)), (Btp, .inl (cJ, 520, .inr (.inl top))), (Bbl, .inl (cJ, 520, .inr (.inl bel))), (Btr, .inl (cI, 10, .inl trm)), (Bwh, .inl (cI, 10, .inl who))]) (wn := fun u : Unit => (wX5 cI cJ Ay Bmr Bfg Bln Btp Bbl Btr Bwh mrow mrs ma mb mlo mhi man mtl mtm fig len top bel thr trm who)) rfl rfl (by decide) (by decide) (by decide) (by decide) (fun _ => rfl) (rest := [.ref Ay]) rfl hl.1 rfl (Nat.le_of_ble_eq_true rfl) (Nat.zero_le _) (Nat.zero_le _) dX5_isEnough_3 (fun r_1 u H locs hw hP hD hS => ?_)
  obtain ⟨hzr_1, hw⟩ := hw
  obtain ⟨J14_3, hw, hR⟩ := hw
  have hJ14_3 : ∀ (t_2 : Int32) (_ : J14_3 t_2) (H : Heap) (locs : List Loc) (ls : Array Slot), va_P G vwCl (wX5 cI cJ Ay Bmr Bfg Bln Btp Bbl Btr Bwh mrow mrs ma mb mlo mhi man mtl mtm fig len top bel thr trm who) H → va_D A (wX5 cI cJ Ay Bmr Bfg Bln Btp Bbl Btr Bwh mrow mrs ma mb mlo mhi man mtl mtm fig len top bel thr trm who) → va_S A s.heap H locs → lv_has ls 3 [(0, .ref Ay), (1, .int p0), (2, .int p1)] → W p l e rm_X5_isEnough s m args below meth c H locs 0 0 Z (F0 m 14 ls [.int t_2, .ref Ay]) := by
    intro t_2 hw H locs ls hP hD hS hl
    have hw := hR _ hw
    refine k_put hx hb hts uX5_isEnough_X5 tyX5 tyX5_ok nmX5 hown hK hP hD hS 0 5 rfl rfl 13 (by decide) fX5_isEnough_46 rfl rfl rfl (Nat.le_of_ble_eq_true rfl) (w' := (wX5 cI cJ Ay Bmr Bfg Bln Btp Bbl Btr Bwh mrow mrs ma mb mlo mhi man mtl mtm fig len top bel t_2 trm who)) rfl dX5_isEnough_14 (fun H locs hP hD hS => ?_)
    refine lv_aload_n hx hb dX5_isEnough_17 rfl (lv_at hl 0 rfl) ?_
    refine k_get hx hb hts uX5_isEnough_X5 hown hK hP 0 5 rfl rfl 13 (by decide) fX5_isEnough_46 (.int t_2) rfl dX5_isEnough_18 ?_
    refine lv_if_ne (tgt := 37) hx hb dX5_isEnough_21 (by decide) (fun c_9 => ?_) (fun c_9 => ?_)
    · have hw := hw.1 c_9
      refine lv_iconst (v := 0) hx hb dX5_isEnough_37 (by decide) ?_
      exact hret _ (t_2, trm, who) _ _ _ _ (Or.inl rfl) hw hP hD hS dX5_isEnough_38
    · have hw := hw.2 c_9
      refine lv_aload_n hx hb dX5_isEnough_24 rfl (lv_at hl 0 rfl) ?_
      refine lv_iload_n hx hb dX5_isEnough_25 rfl (lv_at hl 1 rfl) ?_
      refine lv_iload_n hx hb dX5_isEnough_26 rfl (lv_at hl 2 rfl) ?_
      refine k_Vi (M_X5_enough l G cI cJ Ay Bmr Bfg Bln Btp Bbl Btr Bwh mrow mrs ma mb mlo mhi man mtl mtm fig len top bel t_2 trm who p0 p1 _ hw) ⟨hx, hb, hml, hown, hts⟩ (cwV 2 hts gX5_isEnough_X5_enough rfl rfl rfl (by decide +kernel) ⟨Nat.le_of_ble_eq_true rfl, Nat.le_of_ble_eq_true rfl⟩) hK hP hD hS hA [0, 1, 2, 3, 4, 5, 6, 7] [] [0, 1, 2, 3, 4, 5, 6, 7] (wr := []) (wn := fun u : (Nat → Int32) × (Nat → Int32) => (wX5 cI cJ Ay Bmr Bfg Bln Btp Bbl Btr Bwh mrow mrs ma mb mlo mhi man mtl mtm fig len top bel t_2 u.1 u.2)) rfl rfl (by decide) (by decide) (by decide) (by decide) (fun _ => rfl) (rest := []) (q0 := 0) rfl rfl rfl hl.1 rfl (Nat.le_of_ble_eq_true rfl) (Nat.zero_le _) (Nat.zero_le _) dX5_isEnough_27 (fun r_5 u H locs hw hP hD hS => ?_)
      obtain ⟨hzr_5, hw⟩ := hw
      obtain ⟨trm_6, who_7⟩ := u
      have hP : va_P G vwCl (wX5 cI cJ Ay Bmr Bfg Bln Btp Bbl Btr Bwh mrow mrs ma mb mlo mhi man mtl mtm fig len top bel t_2 trm_6 who_7) H := hP
      have hD : va_D A (wX5 cI cJ Ay Bmr Bfg Bln Btp Bbl Btr Bwh mrow mrs ma mb mlo mhi man mtl mtm fig len top bel t_2 trm_6 who_7) := hD
      refine lv_if_eq (tgt := 37) hx hb dX5_isEnough_30 (by decide) (fun c_8 => ?_) (fun c_8 => ?_)
      · have hw := hw.1 c_8
        refine lv_iconst (v := 0) hx hb dX5_isEnough_37 (by decide) ?_
        exact hret _ (t_2, trm_6, who_7) _ _ _ _ (Or.inl rfl) hw hP hD hS dX5_isEnough_38
      · have hw := hw.2 c_8
        refine lv_iconst (v := 1) hx hb dX5_isEnough_33 (by decide) ?_
        refine lv_goto (tgt := 38) hx hb dX5_isEnough_34 (by decide) ?_
        exact hret _ (t_2, trm_6, who_7) _ _ _ _ (Or.inr rfl) hw hP hD hS dX5_isEnough_38
  clear hR
  refine lv_if_eq (tgt := 13) hx hb dX5_isEnough_6 (by decide) (fun c_4 => ?_) (fun c_4 => ?_)
  · have hw := hw.1 c_4
    refine lv_iconst (v := 0) hx hb dX5_isEnough_13 (by decide) ?_
    exact hJ14_3 0 hw _ _ _ hP hD hS (lv_sub hl [0, 1, 2] rfl)
  · have hw := hw.2 c_4
    refine lv_iconst (v := 1) hx hb dX5_isEnough_9 (by decide) ?_
    refine lv_goto (tgt := 14) hx hb dX5_isEnough_10 (by decide) ?_
    exact hJ14_3 1 hw _ _ _ hP hD hS (lv_sub hl [0, 1, 2] rfl)
theorem fX5_least_46 : Cond.fieldLink RX5 46 "PrivateCountsModel" "thrown" "I" ∈ wsX5_least := by decide +kernel
theorem uX5_least_X5 : ∀ w ∈ u_ws RX5 TX5 16, w ∈ wsX5_least := by decide +kernel
set_option maxHeartbeats 4000000 in
set_option maxRecDepth 100000 in
theorem M_X5_least (l : Launch) (G : va_G) (cI cJ : ClassId) (Ay Bmr Bfg Bln Btp Bbl Btr Bwh : Nat) (mrow : Nat → Int32) (mrs : Int32) (ma : Int32) (mb : Int32) (mlo : Int32) (mhi : Int32) (man : Int32) (mtl : Int32) (mtm : Int32) (fig : Nat → Int64) (len : Nat → Int32) (top : Nat → Int64) (bel : Nat → Int64) (thr : Int32) (trm : Nat → Int32) (who : Nat → Int32) (p0 : Int32) (Q : Int32 → Int32 → (Nat → Int32) → (Nat → Int32) → Prop) (hw : w_X5_least ma mb thr trm who p0 Q) : Ki l yX5_least wsX5_least rm_X5_least G cI cJ [.ref Ay, .int p0] (wX5 cI cJ Ay Bmr Bfg Bln Btp Bbl Btr Bwh mrow mrs ma mb mlo mhi man mtl mtm fig len top bel thr trm who) (fun (r : Int32) (u : (Int32) × (Nat → Int32) × (Nat → Int32)) => Q r u.1 u.2.1 u.2.2) (fun u => (wX5 cI cJ Ay Bmr Bfg Bln Btp Bbl Btr Bwh mrow mrs ma mb mlo mhi man mtl mtm fig len top bel u.1 u.2.1 u.2.2)) := by
  refine ki_intro (cc := cX5_least) (maxL := 6) rfl rfl (by decide) rfl (Nat.le_of_ble_eq_true rfl) ?_
  intro p e s m args below meth c A Z ls hx hb hml hts hown hP hK hD hS hA hl hret
  have hl : lv_has ls 6 [(0, .ref Ay), (1, .int p0)] := hl
  unfold w_X5_least at hw
  refine lv_aload_n hx hb dX5_least_0 rfl (lv_at hl 0 rfl) ?_
  refine lv_iload_n hx hb dX5_least_1 rfl (lv_at hl 1 rfl) ?_
  refine lv_iconst (v := 1) hx hb dX5_least_2 (by decide) ?_
  obtain ⟨J18_2, hw, hR⟩ := hw
  have hJ18_2 : ∀ (t_1 : Int32) (_ : J18_2 t_1) (H : Heap) (locs : List Loc) (ls : Array Slot), va_P G vwCl (wX5 cI cJ Ay Bmr Bfg Bln Btp Bbl Btr Bwh mrow mrs ma mb mlo mhi man mtl mtm fig len top bel thr trm who) H → va_D A (wX5 cI cJ Ay Bmr Bfg Bln Btp Bbl Btr Bwh mrow mrs ma mb mlo mhi man mtl mtm fig len top bel thr trm who) → va_S A s.heap H locs → lv_has ls 6 [(0, .ref Ay), (1, .int p0)] → W p l e rm_X5_least s m args below meth c H locs 0 0 Z (F0 m 18 ls [.int t_1, .ref Ay]) := by
    intro t_1 hw H locs ls hP hD hS hl
    have hw := hR _ hw
    refine k_put hx hb hts uX5_least_X5 tyX5 tyX5_ok nmX5 hown hK hP hD hS 0 5 rfl rfl 13 (by decide) fX5_least_46 rfl rfl rfl (Nat.le_of_ble_eq_true rfl) (w' := (wX5 cI cJ Ay Bmr Bfg Bln Btp Bbl Btr Bwh mrow mrs ma mb mlo mhi man mtl mtm fig len top bel t_1 trm who)) rfl dX5_least_18 (fun H locs hP hD hS => ?_)
    refine lv_aload_n hx hb dX5_least_21 rfl (lv_at hl 0 rfl) ?_
    refine k_get hx hb hts uX5_least_X5 hown hK hP 0 5 rfl rfl 13 (by decide) fX5_least_46 (.int t_1) rfl dX5_least_22 ?_
    refine lv_if_le (tgt := 30) hx hb dX5_least_25 (by decide) (fun c_19 => ?_) (fun c_19 => ?_)
    · have hw := hw.1 c_19
      refine lv_iconst (v := 0) hx hb dX5_least_30 (by decide) ?_
      refine lv_istore_n (lv' := [(2, .int 0), (0, .ref Ay), (1, .int p0)]) hx hb dX5_least_31 rfl hl (by decide) rfl (fun ls hl => ?_)
      refine lv_iconst (v := 3) hx hb dX5_least_32 (by decide) ?_
      refine lv_iload_n hx hb dX5_least_33 rfl (lv_at hl 2 rfl) ?_
      refine lv_imul hx hb dX5_least_34 ?_
      refine lv_topi (fun i3_5 ei3_5 => ?_)
      have hw := hw i3_5 ei3_5
      refine lv_istore_n (lv' := [(3, .int i3_5), (2, .int 0), (0, .ref Ay), (1, .int p0)]) hx hb dX5_least_35 rfl hl (by decide) rfl (fun ls hl => ?_)
      obtain ⟨I36_10, μ36_10, hi, hw⟩ := hw
      suffices hLI36_10 : ∀ (N : Nat) (i3_6 : Int32) (i2_7 : Int32) (trm_8 : Nat → Int32) (who_9 : Nat → Int32) (_ : μ36_10 i3_6 i2_7 trm_8 who_9 = N) (_ : I36_10 i3_6 i2_7 trm_8 who_9) (H : Heap) (locs : List Loc) (ls : Array Slot), va_P G vwCl (wX5 cI cJ Ay Bmr Bfg Bln Btp Bbl Btr Bwh mrow mrs ma mb mlo mhi man mtl mtm fig len top bel t_1 trm_8 who_9) H → va_D A (wX5 cI cJ Ay Bmr Bfg Bln Btp Bbl Btr Bwh mrow mrs ma mb mlo mhi man mtl mtm fig len top bel t_1 trm_8 who_9) → va_S A s.heap H locs → lv_has ls 6 [(3, .int i3_6), (2, .int i2_7), (0, .ref Ay), (1, .int p0)] → W p l e rm_X5_least s m args below meth c H locs 0 0 Z (F0 m 36 ls []) from
        hLI36_10 _ i3_5 (0 : Int32) trm who rfl hi _ _ _ hP hD hS (lv_sub hl [0, 1, 2, 3] rfl)
      clear hi hP hD hS hl
      intro N
      induction N using Nat.strongRecOn with
      | ind N ihI36_10 =>
        intro i3_6 i2_7 trm_8 who_9 hNI36_10 hi H locs ls hP hD hS hl
        have hw := hw i3_6 i2_7 trm_8 who_9 hi
        refine lv_iload_n hx hb dX5_least_36 rfl (lv_at hl 0 rfl) ?_
        refine lv_iload_n hx hb dX5_least_37 rfl (lv_at hl 1 rfl) ?_
        refine lv_isub hx hb dX5_least_38 ?_
        refine lv_iconst (v := 1) hx hb dX5_least_39 (by decide) ?_
        refine lv_icmp_le (tgt := 86) hx hb dX5_least_40 (by decide) (fun c_18 => ?_) (fun c_18 => ?_)
        · have hw := hw.1 c_18
          refine lv_iload_n hx hb dX5_least_86 rfl (lv_at hl 0 rfl) ?_
          exact hret _ (t_1, trm_8, who_9) _ _ _ _ hw hP hD hS dX5_least_87
        · have hw := hw.2 c_18
          refine lv_iload_n hx hb dX5_least_43 rfl (lv_at hl 1 rfl) ?_
          refine lv_iload_n hx hb dX5_least_44 rfl (lv_at hl 0 rfl) ?_
          refine lv_iadd hx hb dX5_least_45 ?_
          refine lv_iconst (v := 2) hx hb dX5_least_46 (by decide) ?_
          refine lv_idiv hx hb dX5_least_47 (by decide) ?_
          refine lv_topi (fun v_11 ev_11 => ?_)
          have hw := hw v_11 ev_11
          refine lv_istore (lv' := [(4, .int v_11), (3, .int i3_6), (2, .int i2_7), (0, .ref Ay), (1, .int p0)]) hx hb dX5_least_48 hl (by decide) rfl (fun ls hl => ?_)
          refine lv_aload_n hx hb dX5_least_50 rfl (lv_at hl 3 rfl) ?_
          refine lv_iload hx hb dX5_least_51 (lv_at hl 0 rfl) ?_
          refine lv_iload_n hx hb dX5_least_53 rfl (lv_at hl 4 rfl) ?_
          refine k_Vi (M_X5_enough l G cI cJ Ay Bmr Bfg Bln Btp Bbl Btr Bwh mrow mrs ma mb mlo mhi man mtl mtm fig len top bel t_1 trm_8 who_9 v_11 p0 _ hw) ⟨hx, hb, hml, hown, hts⟩ (cwV 2 hts gX5_least_X5_enough rfl rfl rfl (by decide +kernel) ⟨Nat.le_of_ble_eq_true rfl, Nat.le_of_ble_eq_true rfl⟩) hK hP hD hS hA [0, 1, 2, 3, 4, 5, 6, 7] [] [0, 1, 2, 3, 4, 5, 6, 7] (wr := []) (wn := fun u : (Nat → Int32) × (Nat → Int32) => (wX5 cI cJ Ay Bmr Bfg Bln Btp Bbl Btr Bwh mrow mrs ma mb mlo mhi man mtl mtm fig len top bel t_1 u.1 u.2)) rfl rfl (by decide) (by decide) (by decide) (by decide) (fun _ => rfl) (rest := []) (q0 := 0) rfl rfl rfl hl.1 rfl (Nat.le_of_ble_eq_true rfl) (Nat.zero_le _) (Nat.zero_le _) dX5_least_54 (fun r_12 u H locs hw hP hD hS => ?_)
          obtain ⟨hzr_12, hw⟩ := hw
          obtain ⟨trm_13, who_14⟩ := u
          have hP : va_P G vwCl (wX5 cI cJ Ay Bmr Bfg Bln Btp Bbl Btr Bwh mrow mrs ma mb mlo mhi man mtl mtm fig len top bel t_1 trm_13 who_14) H := hP
          have hD : va_D A (wX5 cI cJ Ay Bmr Bfg Bln Btp Bbl Btr Bwh mrow mrs ma mb mlo mhi man mtl mtm fig len top bel t_1 trm_13 who_14) := hD
          refine lv_istore (lv' := [(5, .int r_12), (4, .int v_11), (3, .int i3_6), (2, .int i2_7), (0, .ref Ay), (1, .int p0)]) hx hb dX5_least_57 hl (by decide) rfl (fun ls hl => ?_)
          refine lv_iload hx hb dX5_least_59 (lv_at hl 0 rfl) ?_
          refine lv_if_eq (tgt := 68) hx hb dX5_least_61 (by decide) (fun c_17 => ?_) (fun c_17 => ?_)
          · have hw := hw.1 c_17
            refine lv_iload hx hb dX5_least_68 (lv_at hl 1 rfl) ?_
            refine lv_istore_n (lv' := [(2, .int v_11), (5, .int r_12), (4, .int v_11), (3, .int i3_6), (0, .ref Ay), (1, .int p0)]) hx hb dX5_least_70 rfl hl (by decide) rfl (fun ls hl => ?_)
            refine lv_iload hx hb dX5_least_71 (lv_at hl 1 rfl) ?_
            refine lv_if_eq (tgt := 81) hx hb dX5_least_73 (by decide) (fun c_15 => ?_) (fun c_15 => ?_)
            · have hw := hw.1 c_15
              refine lv_iload_n hx hb dX5_least_81 rfl (lv_at hl 3 rfl) ?_
              refine lv_istore_n (lv' := [(3, .int i3_6), (2, .int v_11), (5, .int r_12), (4, .int v_11), (0, .ref Ay), (1, .int p0)]) hx hb dX5_least_82 rfl hl (by decide) rfl (fun ls hl => ?_)
              refine lv_goto (tgt := 36) hx hb dX5_least_83 (by decide) ?_
              exact ihI36_10 _ (by rw [← hNI36_10]; exact hw.2) i3_6 v_11 trm_13 who_14 rfl hw.1 _ _ _ hP hD hS (lv_sub hl [0, 1, 4, 5] rfl)
            · have hw := hw.2 c_15
              refine lv_iload hx hb dX5_least_76 (lv_at hl 2 rfl) ?_
              refine lv_goto (tgt := 82) hx hb dX5_least_78 (by decide) ?_
              refine lv_istore_n (lv' := [(3, .int v_11), (2, .int v_11), (5, .int r_12), (4, .int v_11), (0, .ref Ay), (1, .int p0)]) hx hb dX5_least_82 rfl hl (by decide) rfl (fun ls hl => ?_)
              refine lv_goto (tgt := 36) hx hb dX5_least_83 (by decide) ?_
              exact ihI36_10 _ (by rw [← hNI36_10]; exact hw.2) v_11 v_11 trm_13 who_14 rfl hw.1 _ _ _ hP hD hS (lv_sub hl [0, 1, 4, 5] rfl)
          · have hw := hw.2 c_17
            refine lv_iload_n hx hb dX5_least_64 rfl (lv_at hl 3 rfl) ?_
            refine lv_goto (tgt := 70) hx hb dX5_least_65 (by decide) ?_
            refine lv_istore_n (lv' := [(2, .int i2_7), (5, .int r_12), (4, .int v_11), (3, .int i3_6), (0, .ref Ay), (1, .int p0)]) hx hb dX5_least_70 rfl hl (by decide) rfl (fun ls hl => ?_)
            refine lv_iload hx hb dX5_least_71 (lv_at hl 1 rfl) ?_
            refine lv_if_eq (tgt := 81) hx hb dX5_least_73 (by decide) (fun c_16 => ?_) (fun c_16 => ?_)
            · have hw := hw.1 c_16
              refine lv_iload_n hx hb dX5_least_81 rfl (lv_at hl 3 rfl) ?_
              refine lv_istore_n (lv' := [(3, .int i3_6), (2, .int i2_7), (5, .int r_12), (4, .int v_11), (0, .ref Ay), (1, .int p0)]) hx hb dX5_least_82 rfl hl (by decide) rfl (fun ls hl => ?_)
              refine lv_goto (tgt := 36) hx hb dX5_least_83 (by decide) ?_
              exact ihI36_10 _ (by rw [← hNI36_10]; exact hw.2) i3_6 i2_7 trm_13 who_14 rfl hw.1 _ _ _ hP hD hS (lv_sub hl [0, 1, 4, 5] rfl)
            · have hw := hw.2 c_16
              refine lv_iload hx hb dX5_least_76 (lv_at hl 2 rfl) ?_
              refine lv_goto (tgt := 82) hx hb dX5_least_78 (by decide) ?_
              refine lv_istore_n (lv' := [(3, .int v_11), (2, .int i2_7), (5, .int r_12), (4, .int v_11), (0, .ref Ay), (1, .int p0)]) hx hb dX5_least_82 rfl hl (by decide) rfl (fun ls hl => ?_)
              refine lv_goto (tgt := 36) hx hb dX5_least_83 (by decide) ?_
              exact ihI36_10 _ (by rw [← hNI36_10]; exact hw.2) v_11 i2_7 trm_13 who_14 rfl hw.1 _ _ _ hP hD hS (lv_sub hl [0, 1, 4, 5] rfl)
    · have hw := hw.2 c_19
      refine lv_iconst (v := 0) hx hb dX5_least_28 (by decide) ?_
      exact hret _ (t_1, trm, who) _ _ _ _ hw hP hD hS dX5_least_29
  clear hR
  refine lv_icmp_lt (tgt := 13) hx hb dX5_least_3 (by decide) (fun c_4 => ?_) (fun c_4 => ?_)
  · have hw := hw.1 c_4
    refine lv_iconst (v := 1) hx hb dX5_least_13 (by decide) ?_
    refine lv_goto (tgt := 18) hx hb dX5_least_14 (by decide) ?_
    exact hJ18_2 1 hw _ _ _ hP hD hS (lv_sub hl [0, 1] rfl)
  · have hw := hw.2 c_4
    refine lv_iload_n hx hb dX5_least_6 rfl (lv_at hl 1 rfl) ?_
    refine lv_sipush (v := 1000) hx hb dX5_least_7 (by decide) ?_
    refine lv_icmp_le (tgt := 17) hx hb dX5_least_10 (by decide) (fun c_3 => ?_) (fun c_3 => ?_)
    · have hw := hw.1 c_3
      refine lv_iconst (v := 0) hx hb dX5_least_17 (by decide) ?_
      exact hJ18_2 0 hw _ _ _ hP hD hS (lv_sub hl [0, 1] rfl)
    · have hw := hw.2 c_3
      refine lv_iconst (v := 1) hx hb dX5_least_13 (by decide) ?_
      refine lv_goto (tgt := 18) hx hb dX5_least_14 (by decide) ?_
      exact hJ18_2 1 hw _ _ _ hP hD hS (lv_sub hl [0, 1] rfl)
set_option maxHeartbeats 4000000 in
set_option maxRecDepth 100000 in
theorem M_X5_noPart (l : Launch) (G : va_G) (cI cJ : ClassId) (p0 : Int32) (p1 : Int32) (Q : Int32 → Prop) (hw : w_X5_noPart p0 p1 Q) : Ki l yX5_noPart wsX5_noPart rm_X5_noPart G cI cJ [.int p0, .int p1] (w0 cI cJ) (fun (r : Int32) (u : Unit) => wB r ∧ Q r) (fun u => (w0 cI cJ)) := by
  refine kz_intro (cc := cX5_noPart) (maxL := 2) rfl rfl (by decide) rfl (Nat.le_of_ble_eq_true rfl) ?_
  intro p e s m args below meth c A Z ls hx hb hml hts hown hP hK hD hS hA hl hret
  have hl : lv_has ls 2 [(0, .int p0), (1, .int p1)] := hl
  unfold w_X5_noPart at hw
  refine lv_iload_n hx hb dX5_noPart_0 rfl (lv_at hl 0 rfl) ?_
  refine lv_if_lt (tgt := 16) hx hb dX5_noPart_1 (by decide) (fun c_3 => ?_) (fun c_3 => ?_)
  · have hw := hw.1 c_3
    refine lv_iconst (v := 1) hx hb dX5_noPart_16 (by decide) ?_
    refine lv_goto (tgt := 21) hx hb dX5_noPart_17 (by decide) ?_
    exact hret _ () _ _ _ _ (Or.inr rfl) hw hP hD hS dX5_noPart_21
  · have hw := hw.2 c_3
    refine lv_iload_n hx hb dX5_noPart_4 rfl (lv_at hl 1 rfl) ?_
    refine lv_iconst (v := 1) hx hb dX5_noPart_5 (by decide) ?_
    refine lv_icmp_lt (tgt := 16) hx hb dX5_noPart_6 (by decide) (fun c_2 => ?_) (fun c_2 => ?_)
    · have hw := hw.1 c_2
      refine lv_iconst (v := 1) hx hb dX5_noPart_16 (by decide) ?_
      refine lv_goto (tgt := 21) hx hb dX5_noPart_17 (by decide) ?_
      exact hret _ () _ _ _ _ (Or.inr rfl) hw hP hD hS dX5_noPart_21
    · have hw := hw.2 c_2
      refine lv_iload_n hx hb dX5_noPart_9 rfl (lv_at hl 1 rfl) ?_
      refine lv_sipush (v := 1000) hx hb dX5_noPart_10 (by decide) ?_
      refine lv_icmp_le (tgt := 20) hx hb dX5_noPart_13 (by decide) (fun c_1 => ?_) (fun c_1 => ?_)
      · have hw := hw.1 c_1
        refine lv_iconst (v := 0) hx hb dX5_noPart_20 (by decide) ?_
        exact hret _ () _ _ _ _ (Or.inl rfl) hw hP hD hS dX5_noPart_21
      · have hw := hw.2 c_1
        refine lv_iconst (v := 1) hx hb dX5_noPart_16 (by decide) ?_
        refine lv_goto (tgt := 21) hx hb dX5_noPart_17 (by decide) ?_
        exact hret _ () _ _ _ _ (Or.inr rfl) hw hP hD hS dX5_noPart_21
theorem fX5_budget_46 : Cond.fieldLink RX5 46 "PrivateCountsModel" "thrown" "I" ∈ wsX5_budget := by decide +kernel
theorem uX5_budget_X5 : ∀ w ∈ u_ws RX5 TX5 16, w ∈ wsX5_budget := by decide +kernel
theorem fX5_budget_152 : Cond.fieldLink RX5 152 "PrivateCountsModel" "answered" "I" ∈ wsX5_budget := by decide +kernel
theorem fX5_budget_155 : Cond.fieldLink RX5 155 "PrivateCountsModel" "tooLittle" "I" ∈ wsX5_budget := by decide +kernel
theorem fX5_budget_158 : Cond.fieldLink RX5 158 "PrivateCountsModel" "tooMuch" "I" ∈ wsX5_budget := by decide +kernel
set_option maxHeartbeats 4000000 in
set_option maxRecDepth 100000 in
theorem M_X5_budget (l : Launch) (G : va_G) (cI cJ : ClassId) (Ay Bmr Bfg Bln Btp Bbl Btr Bwh : Nat) (mrow : Nat → Int32) (mrs : Int32) (ma : Int32) (mb : Int32) (mlo : Int32) (mhi : Int32) (man : Int32) (mtl : Int32) (mtm : Int32) (fig : Nat → Int64) (len : Nat → Int32) (top : Nat → Int64) (bel : Nat → Int64) (thr : Int32) (trm : Nat → Int32) (who : Nat → Int32) (p0 : Int32) (p1 : Int32) (Q : Int32 → Int32 → Int32 → (Nat → Int64) → (Nat → Int32) → (Nat → Int64) → (Nat → Int64) → Int32 → Prop) (hw : w_X5_budget man mtl mtm fig len top bel thr p0 p1 Q) : Kv l yX5_budget wsX5_budget rm_X5_budget G cI cJ [.ref Ay, .int p0, .int p1] (wX5 cI cJ Ay Bmr Bfg Bln Btp Bbl Btr Bwh mrow mrs ma mb mlo mhi man mtl mtm fig len top bel thr trm who) (fun (u : (Int32) × (Int32) × (Int32) × (Nat → Int64) × (Nat → Int32) × (Nat → Int64) × (Nat → Int64) × (Int32)) => Q u.1 u.2.1 u.2.2.1 u.2.2.2.1 u.2.2.2.2.1 u.2.2.2.2.2.1 u.2.2.2.2.2.2.1 u.2.2.2.2.2.2.2) (fun u => (wX5 cI cJ Ay Bmr Bfg Bln Btp Bbl Btr Bwh mrow mrs ma mb mlo mhi u.1 u.2.1 u.2.2.1 u.2.2.2.1 u.2.2.2.2.1 u.2.2.2.2.2.1 u.2.2.2.2.2.2.1 u.2.2.2.2.2.2.2 trm who)) := by
  refine kv_intro (cc := cX5_budget) (maxL := 3) rfl rfl (by decide) rfl (Nat.le_of_ble_eq_true rfl) ?_
  intro p e s m args below meth c A Z ls hx hb hml hts hown hP hK hD hS hA hl hret
  have hl : lv_has ls 3 [(0, .ref Ay), (1, .int p0), (2, .int p1)] := hl
  unfold w_X5_budget at hw
  refine lv_aload_n hx hb dX5_budget_0 rfl (lv_at hl 0 rfl) ?_
  refine lv_iload_n hx hb dX5_budget_1 rfl (lv_at hl 1 rfl) ?_
  refine lv_iload_n hx hb dX5_budget_2 rfl (lv_at hl 2 rfl) ?_
  refine k_Si (M_X5_noPart l G cI cJ p0 p1 _ hw) ⟨hx, hb, hml, hown, hts⟩ (va_cwS 2 hts gX5_budget_X5_noPart rfl rfl rfl (by decide +kernel) ⟨Nat.le_of_ble_eq_true rfl, Nat.le_of_ble_eq_true rfl⟩) hK hP hD hS hA [] [0, 1, 2, 3, 4, 5, 6, 7] [0, 1, 2, 3, 4, 5, 6, 7] (wr := [(Ay, .inr (5, [.ref Bmr, .int mrs, .int ma, .int mb, .int mlo, .int mhi, .int man, .int mtl, .int mtm, .ref Bfg, .ref Bln, .ref Btp, .ref Bbl, .int thr, .ref Btr, .ref Bwh])), (Bmr, .inl (cI, 60, .inl mrow)), (Bfg, .inl (cJ, 4608, .inr (.inl fig))), (Bln, .inl (cI, 18, .inl len)), (Btp, .inl (cJ, 520, .inr (.inl top))), (Bbl, .inl (cJ, 520, .inr (.inl bel))), (Btr, .inl (cI, 10, .inl trm)), (Bwh, .inl (cI, 10, .inl who))]) (wn := fun u : Unit => (wX5 cI cJ Ay Bmr Bfg Bln Btp Bbl Btr Bwh mrow mrs ma mb mlo mhi man mtl mtm fig len top bel thr trm who)) rfl rfl (by decide) (by decide) (by decide) (by decide) (fun _ => rfl) (rest := [.ref Ay]) rfl hl.1 rfl (Nat.le_of_ble_eq_true rfl) (Nat.zero_le _) (Nat.zero_le _) dX5_budget_3 (fun r_1 u H locs hw hP hD hS => ?_)
  obtain ⟨hzr_1, hw⟩ := hw
  obtain ⟨J14_3, hw, hR⟩ := hw
  have hJ14_3 : ∀ (t_2 : Int32) (_ : J14_3 t_2) (H : Heap) (locs : List Loc) (ls : Array Slot), va_P G vwCl (wX5 cI cJ Ay Bmr Bfg Bln Btp Bbl Btr Bwh mrow mrs ma mb mlo mhi man mtl mtm fig len top bel thr trm who) H → va_D A (wX5 cI cJ Ay Bmr Bfg Bln Btp Bbl Btr Bwh mrow mrs ma mb mlo mhi man mtl mtm fig len top bel thr trm who) → va_S A s.heap H locs → lv_has ls 3 [(0, .ref Ay), (1, .int p0), (2, .int p1)] → W p l e rm_X5_budget s m args below meth c H locs 0 0 Z (F0 m 14 ls [.int t_2, .ref Ay]) := by
    intro t_2 hw H locs ls hP hD hS hl
    have hw := hR _ hw
    refine k_put hx hb hts uX5_budget_X5 tyX5 tyX5_ok nmX5 hown hK hP hD hS 0 5 rfl rfl 13 (by decide) fX5_budget_46 rfl rfl rfl (Nat.le_of_ble_eq_true rfl) (w' := (wX5 cI cJ Ay Bmr Bfg Bln Btp Bbl Btr Bwh mrow mrs ma mb mlo mhi man mtl mtm fig len top bel t_2 trm who)) rfl dX5_budget_14 (fun H locs hP hD hS => ?_)
    refine lv_aload_n hx hb dX5_budget_17 rfl (lv_at hl 0 rfl) ?_
    refine k_get hx hb hts uX5_budget_X5 hown hK hP 0 5 rfl rfl 13 (by decide) fX5_budget_46 (.int t_2) rfl dX5_budget_18 ?_
    refine lv_if_ne (tgt := 53) hx hb dX5_budget_21 (by decide) (fun c_13 => ?_) (fun c_13 => ?_)
    · have hw := hw.1 c_13
      exact hret (man, mtl, mtm, fig, len, top, bel, t_2) _ _ _ _ hw hP hD hS dX5_budget_53
    · have hw := hw.2 c_13
      refine lv_aload_n hx hb dX5_budget_24 rfl (lv_at hl 0 rfl) ?_
      refine lv_iconst (v := 0) hx hb dX5_budget_25 (by decide) ?_
      refine lv_iload_n hx hb dX5_budget_26 rfl (lv_at hl 1 rfl) ?_
      refine lv_iload_n hx hb dX5_budget_27 rfl (lv_at hl 2 rfl) ?_
      refine k_Vv (M_X5_set l G cI cJ Ay Bmr Bfg Bln Btp Bbl Btr Bwh mrow mrs ma mb mlo mhi man mtl mtm fig len top bel t_2 trm who (0 : Int32) p0 p1 _ hw) ⟨hx, hb, hml, hown, hts⟩ (cwV 3 hts gX5_budget_X5_set rfl rfl rfl (by decide +kernel) ⟨Nat.le_of_ble_eq_true rfl, Nat.le_of_ble_eq_true rfl⟩) hK hP hD hS hA [0, 1, 2, 3, 4, 5, 6, 7] [] [0, 1, 2, 3, 4, 5, 6, 7] (wr := []) (wn := fun u : (Nat → Int64) × (Nat → Int32) × (Nat → Int64) × (Nat → Int64) => (wX5 cI cJ Ay Bmr Bfg Bln Btp Bbl Btr Bwh mrow mrs ma mb mlo mhi man mtl mtm u.1 u.2.1 u.2.2.1 u.2.2.2 t_2 trm who)) rfl rfl (by decide) (by decide) (by decide) (by decide) (fun _ => rfl) (rest := []) (q0 := 0) rfl rfl rfl hl.1 rfl (Nat.le_of_ble_eq_true rfl) (Nat.zero_le _) (Nat.zero_le _) dX5_budget_28 (fun u H locs hw hP hD hS => ?_)
      obtain ⟨fig_5, len_6, top_7, bel_8⟩ := u
      have hP : va_P G vwCl (wX5 cI cJ Ay Bmr Bfg Bln Btp Bbl Btr Bwh mrow mrs ma mb mlo mhi man mtl mtm fig_5 len_6 top_7 bel_8 t_2 trm who) H := hP
      have hD : va_D A (wX5 cI cJ Ay Bmr Bfg Bln Btp Bbl Btr Bwh mrow mrs ma mb mlo mhi man mtl mtm fig_5 len_6 top_7 bel_8 t_2 trm who) := hD
      refine lv_aload_n hx hb dX5_budget_31 rfl (lv_at hl 0 rfl) ?_
      refine lv_iconst (v := 1) hx hb dX5_budget_32 (by decide) ?_
      refine lv_iconst (v := 0) hx hb dX5_budget_33 (by decide) ?_
      refine lv_iconst (v := 1) hx hb dX5_budget_34 (by decide) ?_
      refine k_Vv (M_X5_set l G cI cJ Ay Bmr Bfg Bln Btp Bbl Btr Bwh mrow mrs ma mb mlo mhi man mtl mtm fig_5 len_6 top_7 bel_8 t_2 trm who (1 : Int32) (0 : Int32) (1 : Int32) _ hw) ⟨hx, hb, hml, hown, hts⟩ (cwV 3 hts gX5_budget_X5_set rfl rfl rfl (by decide +kernel) ⟨Nat.le_of_ble_eq_true rfl, Nat.le_of_ble_eq_true rfl⟩) hK hP hD hS hA [0, 1, 2, 3, 4, 5, 6, 7] [] [0, 1, 2, 3, 4, 5, 6, 7] (wr := []) (wn := fun u : (Nat → Int64) × (Nat → Int32) × (Nat → Int64) × (Nat → Int64) => (wX5 cI cJ Ay Bmr Bfg Bln Btp Bbl Btr Bwh mrow mrs ma mb mlo mhi man mtl mtm u.1 u.2.1 u.2.2.1 u.2.2.2 t_2 trm who)) rfl rfl (by decide) (by decide) (by decide) (by decide) (fun _ => rfl) (rest := []) (q0 := 0) rfl rfl rfl hl.1 rfl (Nat.le_of_ble_eq_true rfl) (Nat.zero_le _) (Nat.zero_le _) dX5_budget_35 (fun u H locs hw hP hD hS => ?_)
      obtain ⟨fig_9, len_10, top_11, bel_12⟩ := u
      have hP : va_P G vwCl (wX5 cI cJ Ay Bmr Bfg Bln Btp Bbl Btr Bwh mrow mrs ma mb mlo mhi man mtl mtm fig_9 len_10 top_11 bel_12 t_2 trm who) H := hP
      have hD : va_D A (wX5 cI cJ Ay Bmr Bfg Bln Btp Bbl Btr Bwh mrow mrs ma mb mlo mhi man mtl mtm fig_9 len_10 top_11 bel_12 t_2 trm who) := hD
      refine lv_aload_n hx hb dX5_budget_38 rfl (lv_at hl 0 rfl) ?_
      refine lv_iconst (v := 0) hx hb dX5_budget_39 (by decide) ?_
      refine k_put hx hb hts uX5_budget_X5 tyX5 tyX5_ok nmX5 hown hK hP hD hS 0 5 rfl rfl 6 (by decide) fX5_budget_152 rfl rfl rfl (Nat.le_of_ble_eq_true rfl) (w' := (wX5 cI cJ Ay Bmr Bfg Bln Btp Bbl Btr Bwh mrow mrs ma mb mlo mhi 0 mtl mtm fig_9 len_10 top_11 bel_12 t_2 trm who)) rfl dX5_budget_40 (fun H locs hP hD hS => ?_)
      refine lv_aload_n hx hb dX5_budget_43 rfl (lv_at hl 0 rfl) ?_
      refine lv_iconst (v := 0) hx hb dX5_budget_44 (by decide) ?_
      refine k_put hx hb hts uX5_budget_X5 tyX5 tyX5_ok nmX5 hown hK hP hD hS 0 5 rfl rfl 7 (by decide) fX5_budget_155 rfl rfl rfl (Nat.le_of_ble_eq_true rfl) (w' := (wX5 cI cJ Ay Bmr Bfg Bln Btp Bbl Btr Bwh mrow mrs ma mb mlo mhi 0 0 mtm fig_9 len_10 top_11 bel_12 t_2 trm who)) rfl dX5_budget_45 (fun H locs hP hD hS => ?_)
      refine lv_aload_n hx hb dX5_budget_48 rfl (lv_at hl 0 rfl) ?_
      refine lv_iconst (v := 0) hx hb dX5_budget_49 (by decide) ?_
      refine k_put hx hb hts uX5_budget_X5 tyX5 tyX5_ok nmX5 hown hK hP hD hS 0 5 rfl rfl 8 (by decide) fX5_budget_158 rfl rfl rfl (Nat.le_of_ble_eq_true rfl) (w' := (wX5 cI cJ Ay Bmr Bfg Bln Btp Bbl Btr Bwh mrow mrs ma mb mlo mhi 0 0 0 fig_9 len_10 top_11 bel_12 t_2 trm who)) rfl dX5_budget_50 (fun H locs hP hD hS => ?_)
      exact hret (0, 0, 0, fig_9, len_10, top_11, bel_12, t_2) _ _ _ _ hw hP hD hS dX5_budget_53
  clear hR
  refine lv_if_eq (tgt := 13) hx hb dX5_budget_6 (by decide) (fun c_4 => ?_) (fun c_4 => ?_)
  · have hw := hw.1 c_4
    refine lv_iconst (v := 0) hx hb dX5_budget_13 (by decide) ?_
    exact hJ14_3 0 hw _ _ _ hP hD hS (lv_sub hl [0, 1, 2] rfl)
  · have hw := hw.2 c_4
    refine lv_iconst (v := 1) hx hb dX5_budget_9 (by decide) ?_
    refine lv_goto (tgt := 14) hx hb dX5_budget_10 (by decide) ?_
    exact hJ14_3 1 hw _ _ _ hP hD hS (lv_sub hl [0, 1, 2] rfl)
theorem fX5_raise_46 : Cond.fieldLink RX5 46 "PrivateCountsModel" "thrown" "I" ∈ wsX5_raise := by decide +kernel
theorem uX5_raise_X5 : ∀ w ∈ u_ws RX5 TX5 16, w ∈ wsX5_raise := by decide +kernel
set_option maxHeartbeats 4000000 in
set_option maxRecDepth 100000 in
theorem M_X5_raise (l : Launch) (G : va_G) (cI cJ : ClassId) (Ay Bmr Bfg Bln Btp Bbl Btr Bwh : Nat) (mrow : Nat → Int32) (mrs : Int32) (ma : Int32) (mb : Int32) (mlo : Int32) (mhi : Int32) (man : Int32) (mtl : Int32) (mtm : Int32) (fig : Nat → Int64) (len : Nat → Int32) (top : Nat → Int64) (bel : Nat → Int64) (thr : Int32) (trm : Nat → Int32) (who : Nat → Int32) (p0 : Int32) (p1 : Int32) (Q : (Nat → Int64) → (Nat → Int32) → (Nat → Int64) → (Nat → Int64) → Int32 → Prop) (hw : w_X5_raise fig len top bel thr p0 p1 Q) : Kv l yX5_raise wsX5_raise rm_X5_raise G cI cJ [.ref Ay, .int p0, .int p1] (wX5 cI cJ Ay Bmr Bfg Bln Btp Bbl Btr Bwh mrow mrs ma mb mlo mhi man mtl mtm fig len top bel thr trm who) (fun (u : (Nat → Int64) × (Nat → Int32) × (Nat → Int64) × (Nat → Int64) × (Int32)) => Q u.1 u.2.1 u.2.2.1 u.2.2.2.1 u.2.2.2.2) (fun u => (wX5 cI cJ Ay Bmr Bfg Bln Btp Bbl Btr Bwh mrow mrs ma mb mlo mhi man mtl mtm u.1 u.2.1 u.2.2.1 u.2.2.2.1 u.2.2.2.2 trm who)) := by
  refine kv_intro (cc := cX5_raise) (maxL := 3) rfl rfl (by decide) rfl (Nat.le_of_ble_eq_true rfl) ?_
  intro p e s m args below meth c A Z ls hx hb hml hts hown hP hK hD hS hA hl hret
  have hl : lv_has ls 3 [(0, .ref Ay), (1, .int p0), (2, .int p1)] := hl
  unfold w_X5_raise at hw
  refine lv_aload_n hx hb dX5_raise_0 rfl (lv_at hl 0 rfl) ?_
  refine lv_iload_n hx hb dX5_raise_1 rfl (lv_at hl 1 rfl) ?_
  refine lv_iload_n hx hb dX5_raise_2 rfl (lv_at hl 2 rfl) ?_
  refine k_Si (M_X5_noPart l G cI cJ p0 p1 _ hw) ⟨hx, hb, hml, hown, hts⟩ (va_cwS 2 hts gX5_raise_X5_noPart rfl rfl rfl (by decide +kernel) ⟨Nat.le_of_ble_eq_true rfl, Nat.le_of_ble_eq_true rfl⟩) hK hP hD hS hA [] [0, 1, 2, 3, 4, 5, 6, 7] [0, 1, 2, 3, 4, 5, 6, 7] (wr := [(Ay, .inr (5, [.ref Bmr, .int mrs, .int ma, .int mb, .int mlo, .int mhi, .int man, .int mtl, .int mtm, .ref Bfg, .ref Bln, .ref Btp, .ref Bbl, .int thr, .ref Btr, .ref Bwh])), (Bmr, .inl (cI, 60, .inl mrow)), (Bfg, .inl (cJ, 4608, .inr (.inl fig))), (Bln, .inl (cI, 18, .inl len)), (Btp, .inl (cJ, 520, .inr (.inl top))), (Bbl, .inl (cJ, 520, .inr (.inl bel))), (Btr, .inl (cI, 10, .inl trm)), (Bwh, .inl (cI, 10, .inl who))]) (wn := fun u : Unit => (wX5 cI cJ Ay Bmr Bfg Bln Btp Bbl Btr Bwh mrow mrs ma mb mlo mhi man mtl mtm fig len top bel thr trm who)) rfl rfl (by decide) (by decide) (by decide) (by decide) (fun _ => rfl) (rest := [.ref Ay]) rfl hl.1 rfl (Nat.le_of_ble_eq_true rfl) (Nat.zero_le _) (Nat.zero_le _) dX5_raise_3 (fun r_1 u H locs hw hP hD hS => ?_)
  obtain ⟨hzr_1, hw⟩ := hw
  obtain ⟨J14_3, hw, hR⟩ := hw
  have hJ14_3 : ∀ (t_2 : Int32) (_ : J14_3 t_2) (H : Heap) (locs : List Loc) (ls : Array Slot), va_P G vwCl (wX5 cI cJ Ay Bmr Bfg Bln Btp Bbl Btr Bwh mrow mrs ma mb mlo mhi man mtl mtm fig len top bel thr trm who) H → va_D A (wX5 cI cJ Ay Bmr Bfg Bln Btp Bbl Btr Bwh mrow mrs ma mb mlo mhi man mtl mtm fig len top bel thr trm who) → va_S A s.heap H locs → lv_has ls 3 [(0, .ref Ay), (1, .int p0), (2, .int p1)] → W p l e rm_X5_raise s m args below meth c H locs 0 0 Z (F0 m 14 ls [.int t_2, .ref Ay]) := by
    intro t_2 hw H locs ls hP hD hS hl
    have hw := hR _ hw
    refine k_put hx hb hts uX5_raise_X5 tyX5 tyX5_ok nmX5 hown hK hP hD hS 0 5 rfl rfl 13 (by decide) fX5_raise_46 rfl rfl rfl (Nat.le_of_ble_eq_true rfl) (w' := (wX5 cI cJ Ay Bmr Bfg Bln Btp Bbl Btr Bwh mrow mrs ma mb mlo mhi man mtl mtm fig len top bel t_2 trm who)) rfl dX5_raise_14 (fun H locs hP hD hS => ?_)
    refine lv_aload_n hx hb dX5_raise_17 rfl (lv_at hl 0 rfl) ?_
    refine k_get hx hb hts uX5_raise_X5 hown hK hP 0 5 rfl rfl 13 (by decide) fX5_raise_46 (.int t_2) rfl dX5_raise_18 ?_
    refine lv_if_ne (tgt := 52) hx hb dX5_raise_21 (by decide) (fun c_17 => ?_) (fun c_17 => ?_)
    · have hw := hw.1 c_17
      exact hret (fig, len, top, bel, t_2) _ _ _ _ hw hP hD hS dX5_raise_52
    · have hw := hw.2 c_17
      refine lv_aload_n hx hb dX5_raise_24 rfl (lv_at hl 0 rfl) ?_
      refine lv_iconst (v := 2) hx hb dX5_raise_25 (by decide) ?_
      refine lv_iload_n hx hb dX5_raise_26 rfl (lv_at hl 1 rfl) ?_
      refine lv_iload_n hx hb dX5_raise_27 rfl (lv_at hl 2 rfl) ?_
      refine k_Vv (M_X5_set l G cI cJ Ay Bmr Bfg Bln Btp Bbl Btr Bwh mrow mrs ma mb mlo mhi man mtl mtm fig len top bel t_2 trm who (2 : Int32) p0 p1 _ hw) ⟨hx, hb, hml, hown, hts⟩ (cwV 3 hts gX5_raise_X5_set rfl rfl rfl (by decide +kernel) ⟨Nat.le_of_ble_eq_true rfl, Nat.le_of_ble_eq_true rfl⟩) hK hP hD hS hA [0, 1, 2, 3, 4, 5, 6, 7] [] [0, 1, 2, 3, 4, 5, 6, 7] (wr := []) (wn := fun u : (Nat → Int64) × (Nat → Int32) × (Nat → Int64) × (Nat → Int64) => (wX5 cI cJ Ay Bmr Bfg Bln Btp Bbl Btr Bwh mrow mrs ma mb mlo mhi man mtl mtm u.1 u.2.1 u.2.2.1 u.2.2.2 t_2 trm who)) rfl rfl (by decide) (by decide) (by decide) (by decide) (fun _ => rfl) (rest := []) (q0 := 0) rfl rfl rfl hl.1 rfl (Nat.le_of_ble_eq_true rfl) (Nat.zero_le _) (Nat.zero_le _) dX5_raise_28 (fun u H locs hw hP hD hS => ?_)
      obtain ⟨fig_5, len_6, top_7, bel_8⟩ := u
      have hP : va_P G vwCl (wX5 cI cJ Ay Bmr Bfg Bln Btp Bbl Btr Bwh mrow mrs ma mb mlo mhi man mtl mtm fig_5 len_6 top_7 bel_8 t_2 trm who) H := hP
      have hD : va_D A (wX5 cI cJ Ay Bmr Bfg Bln Btp Bbl Btr Bwh mrow mrs ma mb mlo mhi man mtl mtm fig_5 len_6 top_7 bel_8 t_2 trm who) := hD
      refine lv_aload_n hx hb dX5_raise_31 rfl (lv_at hl 0 rfl) ?_
      refine lv_iconst (v := 3) hx hb dX5_raise_32 (by decide) ?_
      refine lv_iconst (v := 0) hx hb dX5_raise_33 (by decide) ?_
      refine lv_iconst (v := 2) hx hb dX5_raise_34 (by decide) ?_
      refine k_Vv (M_X5_add0 l G cI cJ Ay Bmr Bfg Bln Btp Bbl Btr Bwh mrow mrs ma mb mlo mhi man mtl mtm fig_5 len_6 top_7 bel_8 t_2 trm who (3 : Int32) (0 : Int32) (2 : Int32) _ hw) ⟨hx, hb, hml, hown, hts⟩ (cwV 3 hts gX5_raise_X5_add0 rfl rfl rfl (by decide +kernel) ⟨Nat.le_of_ble_eq_true rfl, Nat.le_of_ble_eq_true rfl⟩) hK hP hD hS hA [0, 1, 2, 3, 4, 5, 6, 7] [] [0, 1, 2, 3, 4, 5, 6, 7] (wr := []) (wn := fun u : (Nat → Int64) × (Nat → Int32) × (Nat → Int64) × (Nat → Int64) => (wX5 cI cJ Ay Bmr Bfg Bln Btp Bbl Btr Bwh mrow mrs ma mb mlo mhi man mtl mtm u.1 u.2.1 u.2.2.1 u.2.2.2 t_2 trm who)) rfl rfl (by decide) (by decide) (by decide) (by decide) (fun _ => rfl) (rest := []) (q0 := 0) rfl rfl rfl hl.1 rfl (Nat.le_of_ble_eq_true rfl) (Nat.zero_le _) (Nat.zero_le _) dX5_raise_35 (fun u H locs hw hP hD hS => ?_)
      obtain ⟨fig_9, len_10, top_11, bel_12⟩ := u
      have hP : va_P G vwCl (wX5 cI cJ Ay Bmr Bfg Bln Btp Bbl Btr Bwh mrow mrs ma mb mlo mhi man mtl mtm fig_9 len_10 top_11 bel_12 t_2 trm who) H := hP
      have hD : va_D A (wX5 cI cJ Ay Bmr Bfg Bln Btp Bbl Btr Bwh mrow mrs ma mb mlo mhi man mtl mtm fig_9 len_10 top_11 bel_12 t_2 trm who) := hD
      refine lv_aload_n hx hb dX5_raise_38 rfl (lv_at hl 0 rfl) ?_
      refine lv_iconst (v := 0) hx hb dX5_raise_39 (by decide) ?_
      refine lv_bipush (v := 6) hx hb dX5_raise_40 (by decide) ?_
      refine k_Vv (M_X5_copy l G cI cJ Ay Bmr Bfg Bln Btp Bbl Btr Bwh mrow mrs ma mb mlo mhi man mtl mtm fig_9 len_10 top_11 bel_12 t_2 trm who (0 : Int32) (6 : Int32) _ hw) ⟨hx, hb, hml, hown, hts⟩ (cwV 2 hts gX5_raise_X5_copy rfl rfl rfl (by decide +kernel) ⟨Nat.le_of_ble_eq_true rfl, Nat.le_of_ble_eq_true rfl⟩) hK hP hD hS hA [0, 1, 2, 3, 4, 5, 6, 7] [] [0, 1, 2, 3, 4, 5, 6, 7] (wr := []) (wn := fun u : (Nat → Int64) × (Nat → Int32) => (wX5 cI cJ Ay Bmr Bfg Bln Btp Bbl Btr Bwh mrow mrs ma mb mlo mhi man mtl mtm u.1 u.2 top_11 bel_12 t_2 trm who)) rfl rfl (by decide) (by decide) (by decide) (by decide) (fun _ => rfl) (rest := []) (q0 := 0) rfl rfl rfl hl.1 rfl (Nat.le_of_ble_eq_true rfl) (Nat.zero_le _) (Nat.zero_le _) dX5_raise_42 (fun u H locs hw hP hD hS => ?_)
      obtain ⟨fig_13, len_14⟩ := u
      have hP : va_P G vwCl (wX5 cI cJ Ay Bmr Bfg Bln Btp Bbl Btr Bwh mrow mrs ma mb mlo mhi man mtl mtm fig_13 len_14 top_11 bel_12 t_2 trm who) H := hP
      have hD : va_D A (wX5 cI cJ Ay Bmr Bfg Bln Btp Bbl Btr Bwh mrow mrs ma mb mlo mhi man mtl mtm fig_13 len_14 top_11 bel_12 t_2 trm who) := hD
      refine lv_aload_n hx hb dX5_raise_45 rfl (lv_at hl 0 rfl) ?_
      refine lv_iconst (v := 1) hx hb dX5_raise_46 (by decide) ?_
      refine lv_bipush (v := 7) hx hb dX5_raise_47 (by decide) ?_
      refine k_Vv (M_X5_copy l G cI cJ Ay Bmr Bfg Bln Btp Bbl Btr Bwh mrow mrs ma mb mlo mhi man mtl mtm fig_13 len_14 top_11 bel_12 t_2 trm who (1 : Int32) (7 : Int32) _ hw) ⟨hx, hb, hml, hown, hts⟩ (cwV 2 hts gX5_raise_X5_copy rfl rfl rfl (by decide +kernel) ⟨Nat.le_of_ble_eq_true rfl, Nat.le_of_ble_eq_true rfl⟩) hK hP hD hS hA [0, 1, 2, 3, 4, 5, 6, 7] [] [0, 1, 2, 3, 4, 5, 6, 7] (wr := []) (wn := fun u : (Nat → Int64) × (Nat → Int32) => (wX5 cI cJ Ay Bmr Bfg Bln Btp Bbl Btr Bwh mrow mrs ma mb mlo mhi man mtl mtm u.1 u.2 top_11 bel_12 t_2 trm who)) rfl rfl (by decide) (by decide) (by decide) (by decide) (fun _ => rfl) (rest := []) (q0 := 0) rfl rfl rfl hl.1 rfl (Nat.le_of_ble_eq_true rfl) (Nat.zero_le _) (Nat.zero_le _) dX5_raise_49 (fun u H locs hw hP hD hS => ?_)
      obtain ⟨fig_15, len_16⟩ := u
      have hP : va_P G vwCl (wX5 cI cJ Ay Bmr Bfg Bln Btp Bbl Btr Bwh mrow mrs ma mb mlo mhi man mtl mtm fig_15 len_16 top_11 bel_12 t_2 trm who) H := hP
      have hD : va_D A (wX5 cI cJ Ay Bmr Bfg Bln Btp Bbl Btr Bwh mrow mrs ma mb mlo mhi man mtl mtm fig_15 len_16 top_11 bel_12 t_2 trm who) := hD
      exact hret (fig_15, len_16, top_11, bel_12, t_2) _ _ _ _ hw hP hD hS dX5_raise_52
  clear hR
  refine lv_if_eq (tgt := 13) hx hb dX5_raise_6 (by decide) (fun c_4 => ?_) (fun c_4 => ?_)
  · have hw := hw.1 c_4
    refine lv_iconst (v := 0) hx hb dX5_raise_13 (by decide) ?_
    exact hJ14_3 0 hw _ _ _ hP hD hS (lv_sub hl [0, 1, 2] rfl)
  · have hw := hw.2 c_4
    refine lv_iconst (v := 1) hx hb dX5_raise_9 (by decide) ?_
    refine lv_goto (tgt := 14) hx hb dX5_raise_10 (by decide) ?_
    exact hJ14_3 1 hw _ _ _ hP hD hS (lv_sub hl [0, 1, 2] rfl)
theorem fX5_ask_46 : Cond.fieldLink RX5 46 "PrivateCountsModel" "thrown" "I" ∈ wsX5_ask := by decide +kernel
theorem uX5_ask_X5 : ∀ w ∈ u_ws RX5 TX5 16, w ∈ wsX5_ask := by decide +kernel
theorem fX5_ask_152 : Cond.fieldLink RX5 152 "PrivateCountsModel" "answered" "I" ∈ wsX5_ask := by decide +kernel
theorem fX5_ask_104 : Cond.fieldLink RX5 104 "PrivateCountsModel" "low" "I" ∈ wsX5_ask := by decide +kernel
theorem fX5_ask_20 : Cond.fieldLink RX5 20 "PrivateCountsModel" "high" "I" ∈ wsX5_ask := by decide +kernel
theorem fX5_ask_158 : Cond.fieldLink RX5 158 "PrivateCountsModel" "tooMuch" "I" ∈ wsX5_ask := by decide +kernel
theorem fX5_ask_164 : Cond.constant RX5 164 (-2147483648) ∈ wsX5_ask := by decide +kernel
theorem fX5_ask_155 : Cond.fieldLink RX5 155 "PrivateCountsModel" "tooLittle" "I" ∈ wsX5_ask := by decide +kernel
set_option maxHeartbeats 4000000 in
set_option maxRecDepth 100000 in
theorem M_X5_ask (l : Launch) (G : va_G) (cI cJ : ClassId) (Ay Bmr Bfg Bln Btp Bbl Btr Bwh : Nat) (mrow : Nat → Int32) (mrs : Int32) (ma : Int32) (mb : Int32) (mlo : Int32) (mhi : Int32) (man : Int32) (mtl : Int32) (mtm : Int32) (fig : Nat → Int64) (len : Nat → Int32) (top : Nat → Int64) (bel : Nat → Int64) (thr : Int32) (trm : Nat → Int32) (who : Nat → Int32) (p0 : Int32) (p1 : Int32) (p2 : Int32) (p3 : Int32) (p4 : Int64) (Q : Int32 → Int32 → Int32 → Int32 → (Nat → Int64) → (Nat → Int32) → (Nat → Int64) → (Nat → Int64) → Int32 → (Nat → Int32) → (Nat → Int32) → Prop) (hw : w_X5_ask mrow mrs ma mb mlo mhi man mtl mtm fig len top bel thr trm who p0 p1 p2 p3 p4 Q) : Ki l yX5_ask wsX5_ask rm_X5_ask G cI cJ [.ref Ay, .int p0, .int p1, .int p2, .int p3, .long p4] (wX5 cI cJ Ay Bmr Bfg Bln Btp Bbl Btr Bwh mrow mrs ma mb mlo mhi man mtl mtm fig len top bel thr trm who) (fun (r : Int32) (u : (Int32) × (Int32) × (Int32) × (Nat → Int64) × (Nat → Int32) × (Nat → Int64) × (Nat → Int64) × (Int32) × (Nat → Int32) × (Nat → Int32)) => Q r u.1 u.2.1 u.2.2.1 u.2.2.2.1 u.2.2.2.2.1 u.2.2.2.2.2.1 u.2.2.2.2.2.2.1 u.2.2.2.2.2.2.2.1 u.2.2.2.2.2.2.2.2.1 u.2.2.2.2.2.2.2.2.2) (fun u => (wX5 cI cJ Ay Bmr Bfg Bln Btp Bbl Btr Bwh mrow mrs ma mb mlo mhi u.1 u.2.1 u.2.2.1 u.2.2.2.1 u.2.2.2.2.1 u.2.2.2.2.2.1 u.2.2.2.2.2.2.1 u.2.2.2.2.2.2.2.1 u.2.2.2.2.2.2.2.2.1 u.2.2.2.2.2.2.2.2.2)) := by
  refine ki_intro (cc := cX5_ask) (maxL := 8) rfl rfl (by decide) rfl (Nat.le_of_ble_eq_true rfl) ?_
  intro p e s m args below meth c A Z ls hx hb hml hts hown hP hK hD hS hA hl hret
  have hl : lv_has ls 8 [(0, .ref Ay), (1, .int p0), (2, .int p1), (3, .int p2), (4, .int p3), (5, .long p4)] := hl
  unfold w_X5_ask at hw
  refine lv_aload_n hx hb dX5_ask_0 rfl (lv_at hl 0 rfl) ?_
  refine lv_iload_n hx hb dX5_ask_1 rfl (lv_at hl 3 rfl) ?_
  refine lv_iload hx hb dX5_ask_2 (lv_at hl 4 rfl) ?_
  refine k_Si (M_X5_noCost l G cI cJ p2 p3 _ hw) ⟨hx, hb, hml, hown, hts⟩ (va_cwS 2 hts gX5_ask_X5_noCost rfl rfl rfl (by decide +kernel) ⟨Nat.le_of_ble_eq_true rfl, Nat.le_of_ble_eq_true rfl⟩) hK hP hD hS hA [] [0, 1, 2, 3, 4, 5, 6, 7] [0, 1, 2, 3, 4, 5, 6, 7] (wr := [(Ay, .inr (5, [.ref Bmr, .int mrs, .int ma, .int mb, .int mlo, .int mhi, .int man, .int mtl, .int mtm, .ref Bfg, .ref Bln, .ref Btp, .ref Bbl, .int thr, .ref Btr, .ref Bwh])), (Bmr, .inl (cI, 60, .inl mrow)), (Bfg, .inl (cJ, 4608, .inr (.inl fig))), (Bln, .inl (cI, 18, .inl len)), (Btp, .inl (cJ, 520, .inr (.inl top))), (Bbl, .inl (cJ, 520, .inr (.inl bel))), (Btr, .inl (cI, 10, .inl trm)), (Bwh, .inl (cI, 10, .inl who))]) (wn := fun u : Unit => (wX5 cI cJ Ay Bmr Bfg Bln Btp Bbl Btr Bwh mrow mrs ma mb mlo mhi man mtl mtm fig len top bel thr trm who)) rfl rfl (by decide) (by decide) (by decide) (by decide) (fun _ => rfl) (rest := [.ref Ay]) rfl hl.1 rfl (Nat.le_of_ble_eq_true rfl) (Nat.zero_le _) (Nat.zero_le _) dX5_ask_4 (fun r_1 u H locs hw hP hD hS => ?_)
  obtain ⟨hzr_1, hw⟩ := hw
  obtain ⟨J24_3, hw, hR⟩ := hw
  have hJ24_3 : ∀ (t_2 : Int32) (_ : J24_3 t_2) (H : Heap) (locs : List Loc) (ls : Array Slot), va_P G vwCl (wX5 cI cJ Ay Bmr Bfg Bln Btp Bbl Btr Bwh mrow mrs ma mb mlo mhi man mtl mtm fig len top bel thr trm who) H → va_D A (wX5 cI cJ Ay Bmr Bfg Bln Btp Bbl Btr Bwh mrow mrs ma mb mlo mhi man mtl mtm fig len top bel thr trm who) → va_S A s.heap H locs → lv_has ls 8 [(0, .ref Ay), (1, .int p0), (2, .int p1), (3, .int p2), (4, .int p3), (5, .long p4)] → W p l e rm_X5_ask s m args below meth c H locs 0 0 Z (F0 m 24 ls [.int t_2, .ref Ay]) := by
    intro t_2 hw H locs ls hP hD hS hl
    have hw := hR _ hw
    refine k_put hx hb hts uX5_ask_X5 tyX5 tyX5_ok nmX5 hown hK hP hD hS 0 5 rfl rfl 13 (by decide) fX5_ask_46 rfl rfl rfl (Nat.le_of_ble_eq_true rfl) (w' := (wX5 cI cJ Ay Bmr Bfg Bln Btp Bbl Btr Bwh mrow mrs ma mb mlo mhi man mtl mtm fig len top bel t_2 trm who)) rfl dX5_ask_24 (fun H locs hP hD hS => ?_)
    refine lv_aload_n hx hb dX5_ask_27 rfl (lv_at hl 0 rfl) ?_
    refine k_get hx hb hts uX5_ask_X5 hown hK hP 0 5 rfl rfl 13 (by decide) fX5_ask_46 (.int t_2) rfl dX5_ask_28 ?_
    refine lv_if_le (tgt := 36) hx hb dX5_ask_31 (by decide) (fun c_37 => ?_) (fun c_37 => ?_)
    · have hw := hw.1 c_37
      refine lv_aload_n hx hb dX5_ask_36 rfl (lv_at hl 0 rfl) ?_
      refine lv_iload_n hx hb dX5_ask_37 rfl (lv_at hl 3 rfl) ?_
      refine lv_iload hx hb dX5_ask_38 (lv_at hl 4 rfl) ?_
      refine k_Vi (M_X5_enough l G cI cJ Ay Bmr Bfg Bln Btp Bbl Btr Bwh mrow mrs ma mb mlo mhi man mtl mtm fig len top bel t_2 trm who p2 p3 _ hw) ⟨hx, hb, hml, hown, hts⟩ (cwV 2 hts gX5_ask_X5_enough rfl rfl rfl (by decide +kernel) ⟨Nat.le_of_ble_eq_true rfl, Nat.le_of_ble_eq_true rfl⟩) hK hP hD hS hA [0, 1, 2, 3, 4, 5, 6, 7] [] [0, 1, 2, 3, 4, 5, 6, 7] (wr := []) (wn := fun u : (Nat → Int32) × (Nat → Int32) => (wX5 cI cJ Ay Bmr Bfg Bln Btp Bbl Btr Bwh mrow mrs ma mb mlo mhi man mtl mtm fig len top bel t_2 u.1 u.2)) rfl rfl (by decide) (by decide) (by decide) (by decide) (fun _ => rfl) (rest := []) (q0 := 0) rfl rfl rfl hl.1 rfl (Nat.le_of_ble_eq_true rfl) (Nat.zero_le _) (Nat.zero_le _) dX5_ask_40 (fun r_7 u H locs hw hP hD hS => ?_)
      obtain ⟨hzr_7, hw⟩ := hw
      obtain ⟨trm_8, who_9⟩ := u
      have hP : va_P G vwCl (wX5 cI cJ Ay Bmr Bfg Bln Btp Bbl Btr Bwh mrow mrs ma mb mlo mhi man mtl mtm fig len top bel t_2 trm_8 who_9) H := hP
      have hD : va_D A (wX5 cI cJ Ay Bmr Bfg Bln Btp Bbl Btr Bwh mrow mrs ma mb mlo mhi man mtl mtm fig len top bel t_2 trm_8 who_9) := hD
      refine lv_if_ne (tgt := 59) hx hb dX5_ask_43 (by decide) (fun c_36 => ?_) (fun c_36 => ?_)
      · have hw := hw.1 c_36
        refine lv_aload_n hx hb dX5_ask_59 rfl (lv_at hl 0 rfl) ?_
        refine lv_iconst (v := 2) hx hb dX5_ask_60 (by decide) ?_
        refine lv_iload_n hx hb dX5_ask_61 rfl (lv_at hl 3 rfl) ?_
        refine lv_iload hx hb dX5_ask_62 (lv_at hl 4 rfl) ?_
        refine k_Vv (M_X5_set l G cI cJ Ay Bmr Bfg Bln Btp Bbl Btr Bwh mrow mrs ma mb mlo mhi man mtl mtm fig len top bel t_2 trm_8 who_9 (2 : Int32) p2 p3 _ hw) ⟨hx, hb, hml, hown, hts⟩ (cwV 3 hts gX5_ask_X5_set rfl rfl rfl (by decide +kernel) ⟨Nat.le_of_ble_eq_true rfl, Nat.le_of_ble_eq_true rfl⟩) hK hP hD hS hA [0, 1, 2, 3, 4, 5, 6, 7] [] [0, 1, 2, 3, 4, 5, 6, 7] (wr := []) (wn := fun u : (Nat → Int64) × (Nat → Int32) × (Nat → Int64) × (Nat → Int64) => (wX5 cI cJ Ay Bmr Bfg Bln Btp Bbl Btr Bwh mrow mrs ma mb mlo mhi man mtl mtm u.1 u.2.1 u.2.2.1 u.2.2.2 t_2 trm_8 who_9)) rfl rfl (by decide) (by decide) (by decide) (by decide) (fun _ => rfl) (rest := []) (q0 := 0) rfl rfl rfl hl.1 rfl (Nat.le_of_ble_eq_true rfl) (Nat.zero_le _) (Nat.zero_le _) dX5_ask_64 (fun u H locs hw hP hD hS => ?_)
        obtain ⟨fig_10, len_11, top_12, bel_13⟩ := u
        have hP : va_P G vwCl (wX5 cI cJ Ay Bmr Bfg Bln Btp Bbl Btr Bwh mrow mrs ma mb mlo mhi man mtl mtm fig_10 len_11 top_12 bel_13 t_2 trm_8 who_9) H := hP
        have hD : va_D A (wX5 cI cJ Ay Bmr Bfg Bln Btp Bbl Btr Bwh mrow mrs ma mb mlo mhi man mtl mtm fig_10 len_11 top_12 bel_13 t_2 trm_8 who_9) := hD
        refine lv_aload_n hx hb dX5_ask_67 rfl (lv_at hl 0 rfl) ?_
        refine lv_iconst (v := 3) hx hb dX5_ask_68 (by decide) ?_
        refine lv_iconst (v := 1) hx hb dX5_ask_69 (by decide) ?_
        refine lv_iconst (v := 2) hx hb dX5_ask_70 (by decide) ?_
        refine k_Vv (M_X5_add0 l G cI cJ Ay Bmr Bfg Bln Btp Bbl Btr Bwh mrow mrs ma mb mlo mhi man mtl mtm fig_10 len_11 top_12 bel_13 t_2 trm_8 who_9 (3 : Int32) (1 : Int32) (2 : Int32) _ hw) ⟨hx, hb, hml, hown, hts⟩ (cwV 3 hts gX5_ask_X5_add0 rfl rfl rfl (by decide +kernel) ⟨Nat.le_of_ble_eq_true rfl, Nat.le_of_ble_eq_true rfl⟩) hK hP hD hS hA [0, 1, 2, 3, 4, 5, 6, 7] [] [0, 1, 2, 3, 4, 5, 6, 7] (wr := []) (wn := fun u : (Nat → Int64) × (Nat → Int32) × (Nat → Int64) × (Nat → Int64) => (wX5 cI cJ Ay Bmr Bfg Bln Btp Bbl Btr Bwh mrow mrs ma mb mlo mhi man mtl mtm u.1 u.2.1 u.2.2.1 u.2.2.2 t_2 trm_8 who_9)) rfl rfl (by decide) (by decide) (by decide) (by decide) (fun _ => rfl) (rest := []) (q0 := 0) rfl rfl rfl hl.1 rfl (Nat.le_of_ble_eq_true rfl) (Nat.zero_le _) (Nat.zero_le _) dX5_ask_71 (fun u H locs hw hP hD hS => ?_)
        obtain ⟨fig_14, len_15, top_16, bel_17⟩ := u
        have hP : va_P G vwCl (wX5 cI cJ Ay Bmr Bfg Bln Btp Bbl Btr Bwh mrow mrs ma mb mlo mhi man mtl mtm fig_14 len_15 top_16 bel_17 t_2 trm_8 who_9) H := hP
        have hD : va_D A (wX5 cI cJ Ay Bmr Bfg Bln Btp Bbl Btr Bwh mrow mrs ma mb mlo mhi man mtl mtm fig_14 len_15 top_16 bel_17 t_2 trm_8 who_9) := hD
        refine lv_aload_n hx hb dX5_ask_74 rfl (lv_at hl 0 rfl) ?_
        refine lv_iconst (v := 3) hx hb dX5_ask_75 (by decide) ?_
        refine lv_iconst (v := 0) hx hb dX5_ask_76 (by decide) ?_
        refine k_Vi (M_X5_isMore l G cI cJ Ay Bmr Bfg Bln Btp Bbl Btr Bwh mrow mrs ma mb mlo mhi man mtl mtm fig_14 len_15 top_16 bel_17 t_2 trm_8 who_9 (3 : Int32) (0 : Int32) _ hw) ⟨hx, hb, hml, hown, hts⟩ (cwV 2 hts gX5_ask_X5_isMore rfl rfl rfl (by decide +kernel) ⟨Nat.le_of_ble_eq_true rfl, Nat.le_of_ble_eq_true rfl⟩) hK hP hD hS hA [0, 1, 2, 3, 4, 5, 6, 7] [] [0, 1, 2, 3, 4, 5, 6, 7] (wr := []) (wn := fun u : (Nat → Int64) × (Nat → Int32) × (Nat → Int64) => (wX5 cI cJ Ay Bmr Bfg Bln Btp Bbl Btr Bwh mrow mrs ma mb mlo mhi man mtl mtm u.1 u.2.1 u.2.2 bel_17 t_2 trm_8 who_9)) rfl rfl (by decide) (by decide) (by decide) (by decide) (fun _ => rfl) (rest := []) (q0 := 0) rfl rfl rfl hl.1 rfl (Nat.le_of_ble_eq_true rfl) (Nat.zero_le _) (Nat.zero_le _) dX5_ask_77 (fun r_18 u H locs hw hP hD hS => ?_)
        obtain ⟨hzr_18, hw⟩ := hw
        obtain ⟨fig_19, len_20, top_21⟩ := u
        have hP : va_P G vwCl (wX5 cI cJ Ay Bmr Bfg Bln Btp Bbl Btr Bwh mrow mrs ma mb mlo mhi man mtl mtm fig_19 len_20 top_21 bel_17 t_2 trm_8 who_9) H := hP
        have hD : va_D A (wX5 cI cJ Ay Bmr Bfg Bln Btp Bbl Btr Bwh mrow mrs ma mb mlo mhi man mtl mtm fig_19 len_20 top_21 bel_17 t_2 trm_8 who_9) := hD
        refine lv_if_eq (tgt := 96) hx hb dX5_ask_80 (by decide) (fun c_34 => ?_) (fun c_34 => ?_)
        · have hw := hw.1 c_34
          refine lv_aload_n hx hb dX5_ask_96 rfl (lv_at hl 0 rfl) ?_
          refine lv_iconst (v := 2) hx hb dX5_ask_97 (by decide) ?_
          refine lv_bipush (v := 6) hx hb dX5_ask_98 (by decide) ?_
          refine k_Vv (M_X5_copy l G cI cJ Ay Bmr Bfg Bln Btp Bbl Btr Bwh mrow mrs ma mb mlo mhi man mtl mtm fig_19 len_20 top_21 bel_17 t_2 trm_8 who_9 (2 : Int32) (6 : Int32) _ hw) ⟨hx, hb, hml, hown, hts⟩ (cwV 2 hts gX5_ask_X5_copy rfl rfl rfl (by decide +kernel) ⟨Nat.le_of_ble_eq_true rfl, Nat.le_of_ble_eq_true rfl⟩) hK hP hD hS hA [0, 1, 2, 3, 4, 5, 6, 7] [] [0, 1, 2, 3, 4, 5, 6, 7] (wr := []) (wn := fun u : (Nat → Int64) × (Nat → Int32) => (wX5 cI cJ Ay Bmr Bfg Bln Btp Bbl Btr Bwh mrow mrs ma mb mlo mhi man mtl mtm u.1 u.2 top_21 bel_17 t_2 trm_8 who_9)) rfl rfl (by decide) (by decide) (by decide) (by decide) (fun _ => rfl) (rest := []) (q0 := 0) rfl rfl rfl hl.1 rfl (Nat.le_of_ble_eq_true rfl) (Nat.zero_le _) (Nat.zero_le _) dX5_ask_100 (fun u H locs hw hP hD hS => ?_)
          obtain ⟨fig_22, len_23⟩ := u
          have hP : va_P G vwCl (wX5 cI cJ Ay Bmr Bfg Bln Btp Bbl Btr Bwh mrow mrs ma mb mlo mhi man mtl mtm fig_22 len_23 top_21 bel_17 t_2 trm_8 who_9) H := hP
          have hD : va_D A (wX5 cI cJ Ay Bmr Bfg Bln Btp Bbl Btr Bwh mrow mrs ma mb mlo mhi man mtl mtm fig_22 len_23 top_21 bel_17 t_2 trm_8 who_9) := hD
          refine lv_aload_n hx hb dX5_ask_103 rfl (lv_at hl 0 rfl) ?_
          refine lv_iconst (v := 3) hx hb dX5_ask_104 (by decide) ?_
          refine lv_bipush (v := 7) hx hb dX5_ask_105 (by decide) ?_
          refine k_Vv (M_X5_copy l G cI cJ Ay Bmr Bfg Bln Btp Bbl Btr Bwh mrow mrs ma mb mlo mhi man mtl mtm fig_22 len_23 top_21 bel_17 t_2 trm_8 who_9 (3 : Int32) (7 : Int32) _ hw) ⟨hx, hb, hml, hown, hts⟩ (cwV 2 hts gX5_ask_X5_copy rfl rfl rfl (by decide +kernel) ⟨Nat.le_of_ble_eq_true rfl, Nat.le_of_ble_eq_true rfl⟩) hK hP hD hS hA [0, 1, 2, 3, 4, 5, 6, 7] [] [0, 1, 2, 3, 4, 5, 6, 7] (wr := []) (wn := fun u : (Nat → Int64) × (Nat → Int32) => (wX5 cI cJ Ay Bmr Bfg Bln Btp Bbl Btr Bwh mrow mrs ma mb mlo mhi man mtl mtm u.1 u.2 top_21 bel_17 t_2 trm_8 who_9)) rfl rfl (by decide) (by decide) (by decide) (by decide) (fun _ => rfl) (rest := []) (q0 := 0) rfl rfl rfl hl.1 rfl (Nat.le_of_ble_eq_true rfl) (Nat.zero_le _) (Nat.zero_le _) dX5_ask_107 (fun u H locs hw hP hD hS => ?_)
          obtain ⟨fig_24, len_25⟩ := u
          have hP : va_P G vwCl (wX5 cI cJ Ay Bmr Bfg Bln Btp Bbl Btr Bwh mrow mrs ma mb mlo mhi man mtl mtm fig_24 len_25 top_21 bel_17 t_2 trm_8 who_9) H := hP
          have hD : va_D A (wX5 cI cJ Ay Bmr Bfg Bln Btp Bbl Btr Bwh mrow mrs ma mb mlo mhi man mtl mtm fig_24 len_25 top_21 bel_17 t_2 trm_8 who_9) := hD
          refine lv_aload_n hx hb dX5_ask_110 rfl (lv_at hl 0 rfl) ?_
          refine lv_dup hx hb dX5_ask_111 rfl ?_
          refine k_get hx hb hts uX5_ask_X5 hown hK hP 0 5 rfl rfl 6 (by decide) fX5_ask_152 (.int man) rfl dX5_ask_112 ?_
          refine lv_iconst (v := 1) hx hb dX5_ask_115 (by decide) ?_
          refine lv_iadd hx hb dX5_ask_116 ?_
          refine lv_topi (fun man_26 eman_26 => ?_)
          have hw := hw man_26 eman_26
          refine k_put hx hb hts uX5_ask_X5 tyX5 tyX5_ok nmX5 hown hK hP hD hS 0 5 rfl rfl 6 (by decide) fX5_ask_152 rfl rfl rfl (Nat.le_of_ble_eq_true rfl) (w' := (wX5 cI cJ Ay Bmr Bfg Bln Btp Bbl Btr Bwh mrow mrs ma mb mlo mhi man_26 mtl mtm fig_24 len_25 top_21 bel_17 t_2 trm_8 who_9)) rfl dX5_ask_117 (fun H locs hP hD hS => ?_)
          refine lv_aload_n hx hb dX5_ask_120 rfl (lv_at hl 0 rfl) ?_
          refine lv_iload_n hx hb dX5_ask_121 rfl (lv_at hl 1 rfl) ?_
          refine lv_iload_n hx hb dX5_ask_122 rfl (lv_at hl 2 rfl) ?_
          refine k_Vi (M_X5_countRows l G cI cJ Ay Bmr Bfg Bln Btp Bbl Btr Bwh mrow mrs ma mb mlo mhi man_26 mtl mtm fig_24 len_25 top_21 bel_17 t_2 trm_8 who_9 p0 p1 _ hw) ⟨hx, hb, hml, hown, hts⟩ (cwV 2 hts gX5_ask_X5_countRows rfl rfl rfl (by decide +kernel) ⟨Nat.le_of_ble_eq_true rfl, Nat.le_of_ble_eq_true rfl⟩) hK hP hD hS hA [0, 1, 2, 3, 4, 5, 6, 7] [] [0, 1, 2, 3, 4, 5, 6, 7] (wr := []) (wn := fun u : Unit => (wX5 cI cJ Ay Bmr Bfg Bln Btp Bbl Btr Bwh mrow mrs ma mb mlo mhi man_26 mtl mtm fig_24 len_25 top_21 bel_17 t_2 trm_8 who_9)) rfl rfl (by decide) (by decide) (by decide) (by decide) (fun _ => rfl) (rest := []) (q0 := 0) rfl rfl rfl hl.1 rfl (Nat.le_of_ble_eq_true rfl) (Nat.zero_le _) (Nat.zero_le _) dX5_ask_123 (fun r_27 u H locs hw hP hD hS => ?_)
          refine lv_istore (lv' := [(7, .int r_27), (0, .ref Ay), (1, .int p0), (2, .int p1), (3, .int p2), (4, .int p3), (5, .long p4)]) hx hb dX5_ask_126 hl (by decide) rfl (fun ls hl => ?_)
          refine lv_aload_n hx hb dX5_ask_128 rfl (lv_at hl 1 rfl) ?_
          refine lv_iload hx hb dX5_ask_129 (lv_at hl 0 rfl) ?_
          refine lv_aload_n hx hb dX5_ask_131 rfl (lv_at hl 1 rfl) ?_
          refine k_get hx hb hts uX5_ask_X5 hown hK hP 0 5 rfl rfl 4 (by decide) fX5_ask_104 (.int mlo) rfl dX5_ask_132 ?_
          refine lv_icmp_ge (tgt := 145) hx hb dX5_ask_135 (by decide) (fun c_32 => ?_) (fun c_32 => ?_)
          · have hw := hw.1 c_32
            refine lv_iload hx hb dX5_ask_145 (lv_at hl 0 rfl) ?_
            refine lv_aload_n hx hb dX5_ask_147 rfl (lv_at hl 1 rfl) ?_
            refine k_get hx hb hts uX5_ask_X5 hown hK hP 0 5 rfl rfl 5 (by decide) fX5_ask_20 (.int mhi) rfl dX5_ask_148 ?_
            refine lv_icmp_le (tgt := 161) hx hb dX5_ask_151 (by decide) (fun c_30 => ?_) (fun c_30 => ?_)
            · have hw := hw.1 c_30
              refine lv_iload hx hb dX5_ask_161 (lv_at hl 0 rfl) ?_
              refine lv_lload hx hb dX5_ask_163 (lv_at hl 6 rfl) ?_
              refine k_Vi (M_X5_drawn l G cI cJ Ay Bmr Bfg Bln Btp Bbl Btr Bwh mrow mrs ma mb mlo mhi man_26 mtl mtm fig_24 len_25 top_21 bel_17 t_2 trm_8 who_9 r_27 p4 _ hw) ⟨hx, hb, hml, hown, hts⟩ (cwV 2 hts gX5_ask_X5_drawn rfl rfl rfl (by decide +kernel) ⟨Nat.le_of_ble_eq_true rfl, Nat.le_of_ble_eq_true rfl⟩) hK hP hD hS hA [0, 1, 2, 3, 4, 5, 6, 7] [] [0, 1, 2, 3, 4, 5, 6, 7] (wr := []) (wn := fun u : Unit => (wX5 cI cJ Ay Bmr Bfg Bln Btp Bbl Btr Bwh mrow mrs ma mb mlo mhi man_26 mtl mtm fig_24 len_25 top_21 bel_17 t_2 trm_8 who_9)) rfl rfl (by decide) (by decide) (by decide) (by decide) (fun _ => rfl) (rest := []) (q0 := 0) rfl rfl rfl hl.1 rfl (Nat.le_of_ble_eq_true rfl) (Nat.zero_le _) (Nat.zero_le _) dX5_ask_165 (fun r_28 u H locs hw hP hD hS => ?_)
              exact hret _ (man_26, mtl, mtm, fig_24, len_25, top_21, bel_17, t_2, trm_8, who_9) _ _ _ _ hw hP hD hS dX5_ask_168
            · have hw := hw.2 c_30
              refine lv_aload_n hx hb dX5_ask_154 rfl (lv_at hl 1 rfl) ?_
              refine k_get hx hb hts uX5_ask_X5 hown hK hP 0 5 rfl rfl 5 (by decide) fX5_ask_20 (.int mhi) rfl dX5_ask_155 ?_
              refine lv_goto (tgt := 163) hx hb dX5_ask_158 (by decide) ?_
              refine lv_lload hx hb dX5_ask_163 (lv_at hl 6 rfl) ?_
              refine k_Vi (M_X5_drawn l G cI cJ Ay Bmr Bfg Bln Btp Bbl Btr Bwh mrow mrs ma mb mlo mhi man_26 mtl mtm fig_24 len_25 top_21 bel_17 t_2 trm_8 who_9 mhi p4 _ hw) ⟨hx, hb, hml, hown, hts⟩ (cwV 2 hts gX5_ask_X5_drawn rfl rfl rfl (by decide +kernel) ⟨Nat.le_of_ble_eq_true rfl, Nat.le_of_ble_eq_true rfl⟩) hK hP hD hS hA [0, 1, 2, 3, 4, 5, 6, 7] [] [0, 1, 2, 3, 4, 5, 6, 7] (wr := []) (wn := fun u : Unit => (wX5 cI cJ Ay Bmr Bfg Bln Btp Bbl Btr Bwh mrow mrs ma mb mlo mhi man_26 mtl mtm fig_24 len_25 top_21 bel_17 t_2 trm_8 who_9)) rfl rfl (by decide) (by decide) (by decide) (by decide) (fun _ => rfl) (rest := []) (q0 := 0) rfl rfl rfl hl.1 rfl (Nat.le_of_ble_eq_true rfl) (Nat.zero_le _) (Nat.zero_le _) dX5_ask_165 (fun r_29 u H locs hw hP hD hS => ?_)
              exact hret _ (man_26, mtl, mtm, fig_24, len_25, top_21, bel_17, t_2, trm_8, who_9) _ _ _ _ hw hP hD hS dX5_ask_168
          · have hw := hw.2 c_32
            refine lv_aload_n hx hb dX5_ask_138 rfl (lv_at hl 1 rfl) ?_
            refine k_get hx hb hts uX5_ask_X5 hown hK hP 0 5 rfl rfl 4 (by decide) fX5_ask_104 (.int mlo) rfl dX5_ask_139 ?_
            refine lv_goto (tgt := 163) hx hb dX5_ask_142 (by decide) ?_
            refine lv_lload hx hb dX5_ask_163 (lv_at hl 6 rfl) ?_
            refine k_Vi (M_X5_drawn l G cI cJ Ay Bmr Bfg Bln Btp Bbl Btr Bwh mrow mrs ma mb mlo mhi man_26 mtl mtm fig_24 len_25 top_21 bel_17 t_2 trm_8 who_9 mlo p4 _ hw) ⟨hx, hb, hml, hown, hts⟩ (cwV 2 hts gX5_ask_X5_drawn rfl rfl rfl (by decide +kernel) ⟨Nat.le_of_ble_eq_true rfl, Nat.le_of_ble_eq_true rfl⟩) hK hP hD hS hA [0, 1, 2, 3, 4, 5, 6, 7] [] [0, 1, 2, 3, 4, 5, 6, 7] (wr := []) (wn := fun u : Unit => (wX5 cI cJ Ay Bmr Bfg Bln Btp Bbl Btr Bwh mrow mrs ma mb mlo mhi man_26 mtl mtm fig_24 len_25 top_21 bel_17 t_2 trm_8 who_9)) rfl rfl (by decide) (by decide) (by decide) (by decide) (fun _ => rfl) (rest := []) (q0 := 0) rfl rfl rfl hl.1 rfl (Nat.le_of_ble_eq_true rfl) (Nat.zero_le _) (Nat.zero_le _) dX5_ask_165 (fun r_31 u H locs hw hP hD hS => ?_)
            exact hret _ (man_26, mtl, mtm, fig_24, len_25, top_21, bel_17, t_2, trm_8, who_9) _ _ _ _ hw hP hD hS dX5_ask_168
        · have hw := hw.2 c_34
          refine lv_aload_n hx hb dX5_ask_83 rfl (lv_at hl 0 rfl) ?_
          refine lv_dup hx hb dX5_ask_84 rfl ?_
          refine k_get hx hb hts uX5_ask_X5 hown hK hP 0 5 rfl rfl 8 (by decide) fX5_ask_158 (.int mtm) rfl dX5_ask_85 ?_
          refine lv_iconst (v := 1) hx hb dX5_ask_88 (by decide) ?_
          refine lv_iadd hx hb dX5_ask_89 ?_
          refine lv_topi (fun mtm_33 emtm_33 => ?_)
          have hw := hw mtm_33 emtm_33
          refine k_put hx hb hts uX5_ask_X5 tyX5 tyX5_ok nmX5 hown hK hP hD hS 0 5 rfl rfl 8 (by decide) fX5_ask_158 rfl rfl rfl (Nat.le_of_ble_eq_true rfl) (w' := (wX5 cI cJ Ay Bmr Bfg Bln Btp Bbl Btr Bwh mrow mrs ma mb mlo mhi man mtl mtm_33 fig_19 len_20 top_21 bel_17 t_2 trm_8 who_9)) rfl dX5_ask_90 (fun H locs hP hD hS => ?_)
          refine lv_ldc (v := (-2147483648)) hx hb hown (hts _ fX5_ask_164) dX5_ask_93 ?_
          exact hret _ (man, mtl, mtm_33, fig_19, len_20, top_21, bel_17, t_2, trm_8, who_9) _ _ _ _ hw hP hD hS dX5_ask_95
      · have hw := hw.2 c_36
        refine lv_aload_n hx hb dX5_ask_46 rfl (lv_at hl 0 rfl) ?_
        refine lv_dup hx hb dX5_ask_47 rfl ?_
        refine k_get hx hb hts uX5_ask_X5 hown hK hP 0 5 rfl rfl 7 (by decide) fX5_ask_155 (.int mtl) rfl dX5_ask_48 ?_
        refine lv_iconst (v := 1) hx hb dX5_ask_51 (by decide) ?_
        refine lv_iadd hx hb dX5_ask_52 ?_
        refine lv_topi (fun mtl_35 emtl_35 => ?_)
        have hw := hw mtl_35 emtl_35
        refine k_put hx hb hts uX5_ask_X5 tyX5 tyX5_ok nmX5 hown hK hP hD hS 0 5 rfl rfl 7 (by decide) fX5_ask_155 rfl rfl rfl (Nat.le_of_ble_eq_true rfl) (w' := (wX5 cI cJ Ay Bmr Bfg Bln Btp Bbl Btr Bwh mrow mrs ma mb mlo mhi man mtl_35 mtm fig len top bel t_2 trm_8 who_9)) rfl dX5_ask_53 (fun H locs hP hD hS => ?_)
        refine lv_ldc (v := (-2147483648)) hx hb hown (hts _ fX5_ask_164) dX5_ask_56 ?_
        exact hret _ (man, mtl_35, mtm, fig, len, top, bel, t_2, trm_8, who_9) _ _ _ _ hw hP hD hS dX5_ask_58
    · have hw := hw.2 c_37
      refine lv_iconst (v := 0) hx hb dX5_ask_34 (by decide) ?_
      exact hret _ (man, mtl, mtm, fig, len, top, bel, t_2, trm, who) _ _ _ _ hw hP hD hS dX5_ask_35
  clear hR
  refine lv_if_ne (tgt := 19) hx hb dX5_ask_7 (by decide) (fun c_6 => ?_) (fun c_6 => ?_)
  · have hw := hw.1 c_6
    refine lv_iconst (v := 1) hx hb dX5_ask_19 (by decide) ?_
    refine lv_goto (tgt := 24) hx hb dX5_ask_20 (by decide) ?_
    exact hJ24_3 1 hw _ _ _ hP hD hS (lv_sub hl [0, 1, 2, 3, 4, 5] rfl)
  · have hw := hw.2 c_6
    refine lv_aload_n hx hb dX5_ask_10 rfl (lv_at hl 0 rfl) ?_
    refine lv_lload hx hb dX5_ask_11 (lv_at hl 5 rfl) ?_
    refine k_Vi (M_X5_noCoin l G cI cJ Ay Bmr Bfg Bln Btp Bbl Btr Bwh mrow mrs ma mb mlo mhi man mtl mtm fig len top bel thr trm who p4 _ hw) ⟨hx, hb, hml, hown, hts⟩ (cwV 1 hts gX5_ask_X5_noCoin rfl rfl rfl (by decide +kernel) ⟨Nat.le_of_ble_eq_true rfl, Nat.le_of_ble_eq_true rfl⟩) hK hP hD hS hA [0, 1, 2, 3, 4, 5, 6, 7] [] [0, 1, 2, 3, 4, 5, 6, 7] (wr := []) (wn := fun u : Unit => (wX5 cI cJ Ay Bmr Bfg Bln Btp Bbl Btr Bwh mrow mrs ma mb mlo mhi man mtl mtm fig len top bel thr trm who)) rfl rfl (by decide) (by decide) (by decide) (by decide) (fun _ => rfl) (rest := [.ref Ay]) (q0 := 0) rfl rfl rfl hl.1 rfl (Nat.le_of_ble_eq_true rfl) (Nat.zero_le _) (Nat.zero_le _) dX5_ask_13 (fun r_4 u H locs hw hP hD hS => ?_)
    obtain ⟨hzr_4, hw⟩ := hw
    refine lv_if_eq (tgt := 23) hx hb dX5_ask_16 (by decide) (fun c_5 => ?_) (fun c_5 => ?_)
    · have hw := hw.1 c_5
      refine lv_iconst (v := 0) hx hb dX5_ask_23 (by decide) ?_
      exact hJ24_3 0 hw _ _ _ hP hD hS (lv_sub hl [0, 1, 2, 3, 4, 5] rfl)
    · have hw := hw.2 c_5
      refine lv_iconst (v := 1) hx hb dX5_ask_19 (by decide) ?_
      refine lv_goto (tgt := 24) hx hb dX5_ask_20 (by decide) ?_
      exact hJ24_3 1 hw _ _ _ hP hD hS (lv_sub hl [0, 1, 2, 3, 4, 5] rfl)
theorem fX5_limb_46 : Cond.fieldLink RX5 46 "PrivateCountsModel" "thrown" "I" ∈ wsX5_limb := by decide +kernel
theorem uX5_limb_X5 : ∀ w ∈ u_ws RX5 TX5 16, w ∈ wsX5_limb := by decide +kernel
theorem fX5_limb_27 : Cond.fieldLink RX5 27 "PrivateCountsModel" "length" "[I" ∈ wsX5_limb := by decide +kernel
theorem fX5_limb_23 : Cond.fieldLink RX5 23 "PrivateCountsModel" "figure" "[J" ∈ wsX5_limb := by decide +kernel
set_option maxHeartbeats 4000000 in
set_option maxRecDepth 100000 in
theorem M_X5_limb (l : Launch) (G : va_G) (cI cJ : ClassId) (Ay Bmr Bfg Bln Btp Bbl Btr Bwh : Nat) (mrow : Nat → Int32) (mrs : Int32) (ma : Int32) (mb : Int32) (mlo : Int32) (mhi : Int32) (man : Int32) (mtl : Int32) (mtm : Int32) (fig : Nat → Int64) (len : Nat → Int32) (top : Nat → Int64) (bel : Nat → Int64) (thr : Int32) (trm : Nat → Int32) (who : Nat → Int32) (p0 : Int32) (p1 : Int32) (p2 : Int32) (Q : Int32 → (Nat → Int64) → (Nat → Int32) → (Nat → Int64) → (Nat → Int64) → Int32 → Prop) (hw : w_X5_limb fig len top bel thr p0 p1 p2 Q) : Ki l yX5_limb wsX5_limb rm_X5_limb G cI cJ [.ref Ay, .int p0, .int p1, .int p2] (wX5 cI cJ Ay Bmr Bfg Bln Btp Bbl Btr Bwh mrow mrs ma mb mlo mhi man mtl mtm fig len top bel thr trm who) (fun (r : Int32) (u : (Nat → Int64) × (Nat → Int32) × (Nat → Int64) × (Nat → Int64) × (Int32)) => Q r u.1 u.2.1 u.2.2.1 u.2.2.2.1 u.2.2.2.2) (fun u => (wX5 cI cJ Ay Bmr Bfg Bln Btp Bbl Btr Bwh mrow mrs ma mb mlo mhi man mtl mtm u.1 u.2.1 u.2.2.1 u.2.2.2.1 u.2.2.2.2 trm who)) := by
  refine ki_intro (cc := cX5_limb) (maxL := 5) rfl rfl (by decide) rfl (Nat.le_of_ble_eq_true rfl) ?_
  intro p e s m args below meth c A Z ls hx hb hml hts hown hP hK hD hS hA hl hret
  have hl : lv_has ls 5 [(0, .ref Ay), (1, .int p0), (2, .int p1), (3, .int p2)] := hl
  unfold w_X5_limb at hw
  refine lv_aload_n hx hb dX5_limb_0 rfl (lv_at hl 0 rfl) ?_
  refine lv_iload_n hx hb dX5_limb_1 rfl (lv_at hl 1 rfl) ?_
  obtain ⟨J24_2, hw, hR⟩ := hw
  have hJ24_2 : ∀ (t_1 : Int32) (_ : J24_2 t_1) (H : Heap) (locs : List Loc) (ls : Array Slot), va_P G vwCl (wX5 cI cJ Ay Bmr Bfg Bln Btp Bbl Btr Bwh mrow mrs ma mb mlo mhi man mtl mtm fig len top bel thr trm who) H → va_D A (wX5 cI cJ Ay Bmr Bfg Bln Btp Bbl Btr Bwh mrow mrs ma mb mlo mhi man mtl mtm fig len top bel thr trm who) → va_S A s.heap H locs → lv_has ls 5 [(0, .ref Ay), (1, .int p0), (2, .int p1), (3, .int p2)] → W p l e rm_X5_limb s m args below meth c H locs 0 0 Z (F0 m 24 ls [.int t_1, .ref Ay]) := by
    intro t_1 hw H locs ls hP hD hS hl
    have hw := hR _ hw
    refine k_put hx hb hts uX5_limb_X5 tyX5 tyX5_ok nmX5 hown hK hP hD hS 0 5 rfl rfl 13 (by decide) fX5_limb_46 rfl rfl rfl (Nat.le_of_ble_eq_true rfl) (w' := (wX5 cI cJ Ay Bmr Bfg Bln Btp Bbl Btr Bwh mrow mrs ma mb mlo mhi man mtl mtm fig len top bel t_1 trm who)) rfl dX5_limb_24 (fun H locs hP hD hS => ?_)
    refine lv_aload_n hx hb dX5_limb_27 rfl (lv_at hl 0 rfl) ?_
    refine k_get hx hb hts uX5_limb_X5 hown hK hP 0 5 rfl rfl 13 (by decide) fX5_limb_46 (.int t_1) rfl dX5_limb_28 ?_
    refine lv_if_le (tgt := 36) hx hb dX5_limb_31 (by decide) (fun c_25 => ?_) (fun c_25 => ?_)
    · have hw := hw.1 c_25
      refine lv_iload_n hx hb dX5_limb_36 rfl (lv_at hl 1 rfl) ?_
      refine lv_iconst (v := 2) hx hb dX5_limb_37 (by decide) ?_
      obtain ⟨J48_11, hw, hR⟩ := hw
      have hJ48_11 : ∀ (fig_7 : Nat → Int64) (len_8 : Nat → Int32) (top_9 : Nat → Int64) (bel_10 : Nat → Int64) (_ : J48_11 fig_7 len_8 top_9 bel_10) (H : Heap) (locs : List Loc) (ls : Array Slot), va_P G vwCl (wX5 cI cJ Ay Bmr Bfg Bln Btp Bbl Btr Bwh mrow mrs ma mb mlo mhi man mtl mtm fig_7 len_8 top_9 bel_10 t_1 trm who) H → va_D A (wX5 cI cJ Ay Bmr Bfg Bln Btp Bbl Btr Bwh mrow mrs ma mb mlo mhi man mtl mtm fig_7 len_8 top_9 bel_10 t_1 trm who) → va_S A s.heap H locs → lv_has ls 5 [(0, .ref Ay), (1, .int p0), (2, .int p1), (3, .int p2)] → W p l e rm_X5_limb s m args below meth c H locs 0 0 Z (F0 m 48 ls []) := by
        intro fig_7 len_8 top_9 bel_10 hw H locs ls hP hD hS hl
        have hw := hR _ _ _ _ hw
        refine lv_iconst (v := 2) hx hb dX5_limb_48 (by decide) ?_
        refine lv_iload_n hx hb dX5_limb_49 rfl (lv_at hl 1 rfl) ?_
        refine lv_iconst (v := 2) hx hb dX5_limb_50 (by decide) ?_
        obtain ⟨J59_18, hw, hR⟩ := hw
        have hJ59_18 : ∀ (t_17 : Int32) (_ : J59_18 t_17) (H : Heap) (locs : List Loc) (ls : Array Slot), va_P G vwCl (wX5 cI cJ Ay Bmr Bfg Bln Btp Bbl Btr Bwh mrow mrs ma mb mlo mhi man mtl mtm fig_7 len_8 top_9 bel_10 t_1 trm who) H → va_D A (wX5 cI cJ Ay Bmr Bfg Bln Btp Bbl Btr Bwh mrow mrs ma mb mlo mhi man mtl mtm fig_7 len_8 top_9 bel_10 t_1 trm who) → va_S A s.heap H locs → lv_has ls 5 [(0, .ref Ay), (2, .int p1), (3, .int p2)] → W p l e rm_X5_limb s m args below meth c H locs 0 0 Z (F0 m 59 ls [.int t_17, .int 2]) := by
          intro t_17 hw H locs ls hP hD hS hl
          have hw := hR _ hw
          refine lv_imul hx hb dX5_limb_59 ?_
          refine lv_iload_n hx hb dX5_limb_60 rfl (lv_at hl 1 rfl) ?_
          refine lv_iadd hx hb dX5_limb_61 ?_
          refine lv_topi (fun v_20 ev_20 => ?_)
          have hw := hw v_20 ev_20
          refine lv_istore (lv' := [(4, .int v_20), (0, .ref Ay), (2, .int p1), (3, .int p2)]) hx hb dX5_limb_62 hl (by decide) rfl (fun ls hl => ?_)
          refine lv_iload_n hx hb dX5_limb_64 rfl (lv_at hl 3 rfl) ?_
          refine lv_iconst (v := (-1)) hx hb dX5_limb_65 (by decide) ?_
          refine lv_icmp_ne (tgt := 79) hx hb dX5_limb_66 (by decide) (fun c_24 => ?_) (fun c_24 => ?_)
          · have hw := hw.1 c_24
            refine lv_iload_n hx hb dX5_limb_79 rfl (lv_at hl 3 rfl) ?_
            refine lv_if_lt (tgt := 94) hx hb dX5_limb_80 (by decide) (fun c_23 => ?_) (fun c_23 => ?_)
            · have hw := hw.1 c_23
              refine lv_iconst (v := (-1)) hx hb dX5_limb_94 (by decide) ?_
              refine lv_goto (tgt := 112) hx hb dX5_limb_95 (by decide) ?_
              exact hret _ (fig_7, len_8, top_9, bel_10, t_1) _ _ _ _ hw hP hD hS dX5_limb_112
            · have hw := hw.2 c_23
              refine lv_iload_n hx hb dX5_limb_83 rfl (lv_at hl 3 rfl) ?_
              refine lv_aload_n hx hb dX5_limb_84 rfl (lv_at hl 1 rfl) ?_
              refine k_get hx hb hts uX5_limb_X5 hown hK hP 0 5 rfl rfl 10 (by decide) fX5_limb_27 (.ref Bln) rfl dX5_limb_85 ?_
              refine lv_iload hx hb dX5_limb_88 (lv_at hl 0 rfl) ?_
              obtain ⟨hin, hw⟩ := hw
              refine k_iald hx hb hK hP 3 rfl hin dX5_limb_90 ?_
              refine lv_icmp_lt (tgt := 98) hx hb dX5_limb_91 (by decide) (fun c_22 => ?_) (fun c_22 => ?_)
              · have hw := hw.1 c_22
                refine lv_aload_n hx hb dX5_limb_98 rfl (lv_at hl 1 rfl) ?_
                refine k_get hx hb hts uX5_limb_X5 hown hK hP 0 5 rfl rfl 9 (by decide) fX5_limb_23 (.ref Bfg) rfl dX5_limb_99 ?_
                refine lv_sipush (v := 256) hx hb dX5_limb_102 (by decide) ?_
                refine lv_iload hx hb dX5_limb_105 (lv_at hl 0 rfl) ?_
                refine lv_imul hx hb dX5_limb_107 ?_
                refine lv_iload_n hx hb dX5_limb_108 rfl (lv_at hl 3 rfl) ?_
                refine lv_iadd hx hb dX5_limb_109 ?_
                refine lv_topi (fun v_21 ev_21 => ?_)
                have hw := hw v_21 ev_21
                obtain ⟨hin, hw⟩ := hw
                refine k_lald hx hb hK hP 2 rfl hin dX5_limb_110 ?_
                refine lv_l2i (v := (fig_7 v_21.toNatClampNeg).toInt32) hx hb dX5_limb_111 rfl ?_
                exact hret _ (fig_7, len_8, top_9, bel_10, t_1) _ _ _ _ hw hP hD hS dX5_limb_112
              · have hw := hw.2 c_22
                refine lv_iconst (v := (-1)) hx hb dX5_limb_94 (by decide) ?_
                refine lv_goto (tgt := 112) hx hb dX5_limb_95 (by decide) ?_
                exact hret _ (fig_7, len_8, top_9, bel_10, t_1) _ _ _ _ hw hP hD hS dX5_limb_112
          · have hw := hw.2 c_24
            refine lv_aload_n hx hb dX5_limb_69 rfl (lv_at hl 1 rfl) ?_
            refine k_get hx hb hts uX5_limb_X5 hown hK hP 0 5 rfl rfl 10 (by decide) fX5_limb_27 (.ref Bln) rfl dX5_limb_70 ?_
            refine lv_iload hx hb dX5_limb_73 (lv_at hl 0 rfl) ?_
            obtain ⟨hin, hw⟩ := hw
            refine k_iald hx hb hK hP 3 rfl hin dX5_limb_75 ?_
            refine lv_goto (tgt := 112) hx hb dX5_limb_76 (by decide) ?_
            exact hret _ (fig_7, len_8, top_9, bel_10, t_1) _ _ _ _ hw hP hD hS dX5_limb_112
        clear hR
        refine lv_icmp_ne (tgt := 58) hx hb dX5_limb_51 (by decide) (fun c_19 => ?_) (fun c_19 => ?_)
        · have hw := hw.1 c_19
          refine lv_iload_n hx hb dX5_limb_58 rfl (lv_at hl 1 rfl) ?_
          exact hJ59_18 p0 hw _ _ _ hP hD hS (lv_sub hl [0, 2, 3] rfl)
        · have hw := hw.2 c_19
          refine lv_iconst (v := 3) hx hb dX5_limb_54 (by decide) ?_
          refine lv_goto (tgt := 59) hx hb dX5_limb_55 (by decide) ?_
          exact hJ59_18 3 hw _ _ _ hP hD hS (lv_sub hl [0, 2, 3] rfl)
      clear hR
      refine lv_icmp_ne (tgt := 48) hx hb dX5_limb_38 (by decide) (fun c_16 => ?_) (fun c_16 => ?_)
      · have hw := hw.1 c_16
        exact hJ48_11 fig len top bel hw _ _ _ hP hD hS (lv_sub hl [0, 1, 2, 3] rfl)
      · have hw := hw.2 c_16
        refine lv_aload_n hx hb dX5_limb_41 rfl (lv_at hl 0 rfl) ?_
        refine lv_iconst (v := 3) hx hb dX5_limb_42 (by decide) ?_
        refine lv_iconst (v := 0) hx hb dX5_limb_43 (by decide) ?_
        refine lv_iconst (v := 1) hx hb dX5_limb_44 (by decide) ?_
        refine k_Vv (M_X5_subtract l G cI cJ Ay Bmr Bfg Bln Btp Bbl Btr Bwh mrow mrs ma mb mlo mhi man mtl mtm fig len top bel t_1 trm who (3 : Int32) (0 : Int32) (1 : Int32) _ hw) ⟨hx, hb, hml, hown, hts⟩ (cwV 3 hts gX5_limb_X5_subtract rfl rfl rfl (by decide +kernel) ⟨Nat.le_of_ble_eq_true rfl, Nat.le_of_ble_eq_true rfl⟩) hK hP hD hS hA [0, 1, 2, 3, 4, 5, 6, 7] [] [0, 1, 2, 3, 4, 5, 6, 7] (wr := []) (wn := fun u : (Nat → Int64) × (Nat → Int32) × (Nat → Int64) × (Nat → Int64) => (wX5 cI cJ Ay Bmr Bfg Bln Btp Bbl Btr Bwh mrow mrs ma mb mlo mhi man mtl mtm u.1 u.2.1 u.2.2.1 u.2.2.2 t_1 trm who)) rfl rfl (by decide) (by decide) (by decide) (by decide) (fun _ => rfl) (rest := []) (q0 := 0) rfl rfl rfl hl.1 rfl (Nat.le_of_ble_eq_true rfl) (Nat.zero_le _) (Nat.zero_le _) dX5_limb_45 (fun u H locs hw hP hD hS => ?_)
        obtain ⟨fig_12, len_13, top_14, bel_15⟩ := u
        have hP : va_P G vwCl (wX5 cI cJ Ay Bmr Bfg Bln Btp Bbl Btr Bwh mrow mrs ma mb mlo mhi man mtl mtm fig_12 len_13 top_14 bel_15 t_1 trm who) H := hP
        have hD : va_D A (wX5 cI cJ Ay Bmr Bfg Bln Btp Bbl Btr Bwh mrow mrs ma mb mlo mhi man mtl mtm fig_12 len_13 top_14 bel_15 t_1 trm who) := hD
        exact hJ48_11 fig_12 len_13 top_14 bel_15 hw _ _ _ hP hD hS (lv_sub hl [0, 1, 2, 3] rfl)
    · have hw := hw.2 c_25
      refine lv_iconst (v := 0) hx hb dX5_limb_34 (by decide) ?_
      exact hret _ (fig, len, top, bel, t_1) _ _ _ _ hw hP hD hS dX5_limb_35
  clear hR
  refine lv_if_lt (tgt := 19) hx hb dX5_limb_2 (by decide) (fun c_6 => ?_) (fun c_6 => ?_)
  · have hw := hw.1 c_6
    refine lv_iconst (v := 1) hx hb dX5_limb_19 (by decide) ?_
    refine lv_goto (tgt := 24) hx hb dX5_limb_20 (by decide) ?_
    exact hJ24_2 1 hw _ _ _ hP hD hS (lv_sub hl [0, 1, 2, 3] rfl)
  · have hw := hw.2 c_6
    refine lv_iload_n hx hb dX5_limb_5 rfl (lv_at hl 1 rfl) ?_
    refine lv_iconst (v := 2) hx hb dX5_limb_6 (by decide) ?_
    refine lv_icmp_gt (tgt := 19) hx hb dX5_limb_7 (by decide) (fun c_5 => ?_) (fun c_5 => ?_)
    · have hw := hw.1 c_5
      refine lv_iconst (v := 1) hx hb dX5_limb_19 (by decide) ?_
      refine lv_goto (tgt := 24) hx hb dX5_limb_20 (by decide) ?_
      exact hJ24_2 1 hw _ _ _ hP hD hS (lv_sub hl [0, 1, 2, 3] rfl)
    · have hw := hw.2 c_5
      refine lv_iload_n hx hb dX5_limb_10 rfl (lv_at hl 2 rfl) ?_
      refine lv_if_lt (tgt := 19) hx hb dX5_limb_11 (by decide) (fun c_4 => ?_) (fun c_4 => ?_)
      · have hw := hw.1 c_4
        refine lv_iconst (v := 1) hx hb dX5_limb_19 (by decide) ?_
        refine lv_goto (tgt := 24) hx hb dX5_limb_20 (by decide) ?_
        exact hJ24_2 1 hw _ _ _ hP hD hS (lv_sub hl [0, 1, 2, 3] rfl)
      · have hw := hw.2 c_4
        refine lv_iload_n hx hb dX5_limb_14 rfl (lv_at hl 2 rfl) ?_
        refine lv_iconst (v := 1) hx hb dX5_limb_15 (by decide) ?_
        refine lv_icmp_le (tgt := 23) hx hb dX5_limb_16 (by decide) (fun c_3 => ?_) (fun c_3 => ?_)
        · have hw := hw.1 c_3
          refine lv_iconst (v := 0) hx hb dX5_limb_23 (by decide) ?_
          exact hJ24_2 0 hw _ _ _ hP hD hS (lv_sub hl [0, 1, 2, 3] rfl)
        · have hw := hw.2 c_3
          refine lv_iconst (v := 1) hx hb dX5_limb_19 (by decide) ?_
          refine lv_goto (tgt := 24) hx hb dX5_limb_20 (by decide) ?_
          exact hJ24_2 1 hw _ _ _ hP hD hS (lv_sub hl [0, 1, 2, 3] rfl)
theorem fX5_told_46 : Cond.fieldLink RX5 46 "PrivateCountsModel" "thrown" "I" ∈ wsX5_told := by decide +kernel
theorem uX5_told_X5 : ∀ w ∈ u_ws RX5 TX5 16, w ∈ wsX5_told := by decide +kernel
theorem fX5_told_152 : Cond.fieldLink RX5 152 "PrivateCountsModel" "answered" "I" ∈ wsX5_told := by decide +kernel
theorem fX5_told_155 : Cond.fieldLink RX5 155 "PrivateCountsModel" "tooLittle" "I" ∈ wsX5_told := by decide +kernel
theorem fX5_told_158 : Cond.fieldLink RX5 158 "PrivateCountsModel" "tooMuch" "I" ∈ wsX5_told := by decide +kernel
theorem fX5_told_98 : Cond.fieldLink RX5 98 "PrivateCountsModel" "rows" "I" ∈ wsX5_told := by decide +kernel
theorem fX5_told_104 : Cond.fieldLink RX5 104 "PrivateCountsModel" "low" "I" ∈ wsX5_told := by decide +kernel
theorem fX5_told_20 : Cond.fieldLink RX5 20 "PrivateCountsModel" "high" "I" ∈ wsX5_told := by decide +kernel
theorem fX5_told_13 : Cond.fieldLink RX5 13 "PrivateCountsModel" "a" "I" ∈ wsX5_told := by decide +kernel
theorem fX5_told_17 : Cond.fieldLink RX5 17 "PrivateCountsModel" "b" "I" ∈ wsX5_told := by decide +kernel
set_option maxHeartbeats 4000000 in
set_option maxRecDepth 100000 in
theorem M_X5_told (l : Launch) (G : va_G) (cI cJ : ClassId) (Ay Bmr Bfg Bln Btp Bbl Btr Bwh : Nat) (mrow : Nat → Int32) (mrs : Int32) (ma : Int32) (mb : Int32) (mlo : Int32) (mhi : Int32) (man : Int32) (mtl : Int32) (mtm : Int32) (fig : Nat → Int64) (len : Nat → Int32) (top : Nat → Int64) (bel : Nat → Int64) (thr : Int32) (trm : Nat → Int32) (who : Nat → Int32) (p0 : Int32) (Q : Int32 → Int32 → Prop) (hw : w_X5_told mrs ma mb mlo mhi man mtl mtm thr p0 Q) : Ki l yX5_told wsX5_told rm_X5_told G cI cJ [.ref Ay, .int p0] (wX5 cI cJ Ay Bmr Bfg Bln Btp Bbl Btr Bwh mrow mrs ma mb mlo mhi man mtl mtm fig len top bel thr trm who) (fun (r : Int32) (u : (Int32)) => Q r u) (fun u => (wX5 cI cJ Ay Bmr Bfg Bln Btp Bbl Btr Bwh mrow mrs ma mb mlo mhi man mtl mtm fig len top bel u trm who)) := by
  refine ki_intro (cc := cX5_told) (maxL := 2) rfl rfl (by decide) rfl (Nat.le_of_ble_eq_true rfl) ?_
  intro p e s m args below meth c A Z ls hx hb hml hts hown hP hK hD hS hA hl hret
  have hl : lv_has ls 2 [(0, .ref Ay), (1, .int p0)] := hl
  unfold w_X5_told at hw
  refine lv_aload_n hx hb dX5_told_0 rfl (lv_at hl 0 rfl) ?_
  refine lv_iload_n hx hb dX5_told_1 rfl (lv_at hl 1 rfl) ?_
  obtain ⟨J16_2, hw, hR⟩ := hw
  have hJ16_2 : ∀ (t_1 : Int32) (_ : J16_2 t_1) (H : Heap) (locs : List Loc) (ls : Array Slot), va_P G vwCl (wX5 cI cJ Ay Bmr Bfg Bln Btp Bbl Btr Bwh mrow mrs ma mb mlo mhi man mtl mtm fig len top bel thr trm who) H → va_D A (wX5 cI cJ Ay Bmr Bfg Bln Btp Bbl Btr Bwh mrow mrs ma mb mlo mhi man mtl mtm fig len top bel thr trm who) → va_S A s.heap H locs → lv_has ls 2 [(0, .ref Ay), (1, .int p0)] → W p l e rm_X5_told s m args below meth c H locs 0 0 Z (F0 m 16 ls [.int t_1, .ref Ay]) := by
    intro t_1 hw H locs ls hP hD hS hl
    have hw := hR _ hw
    refine k_put hx hb hts uX5_told_X5 tyX5 tyX5_ok nmX5 hown hK hP hD hS 0 5 rfl rfl 13 (by decide) fX5_told_46 rfl rfl rfl (Nat.le_of_ble_eq_true rfl) (w' := (wX5 cI cJ Ay Bmr Bfg Bln Btp Bbl Btr Bwh mrow mrs ma mb mlo mhi man mtl mtm fig len top bel t_1 trm who)) rfl dX5_told_16 (fun H locs hP hD hS => ?_)
    refine lv_aload_n hx hb dX5_told_19 rfl (lv_at hl 0 rfl) ?_
    refine k_get hx hb hts uX5_told_X5 hown hK hP 0 5 rfl rfl 13 (by decide) fX5_told_46 (.int t_1) rfl dX5_told_20 ?_
    refine lv_if_le (tgt := 28) hx hb dX5_told_23 (by decide) (fun c_12 => ?_) (fun c_12 => ?_)
    · have hw := hw.1 c_12
      refine lv_iload_n hx hb dX5_told_28 rfl (lv_at hl 1 rfl) ?_
      by_cases c_5 : p0 = 0
      · have hw := hw.1 c_5
        refine lv_tableIn (off := 43) (tgt := 72) hx hb dX5_told_29 (by rw [c_5]; decide) (by rw [c_5]; decide) (by rw [c_5]; rfl) (by decide) ?_
        refine lv_aload_n hx hb dX5_told_72 rfl (lv_at hl 0 rfl) ?_
        refine k_get hx hb hts uX5_told_X5 hown hK hP 0 5 rfl rfl 6 (by decide) fX5_told_152 (.int man) rfl dX5_told_73 ?_
        exact hret _ t_1 _ _ _ _ hw hP hD hS dX5_told_76
      have hw := hw.2 c_5
      by_cases c_6 : p0 = 1
      · have hw := hw.1 c_6
        refine lv_tableIn (off := 48) (tgt := 77) hx hb dX5_told_29 (by rw [c_6]; decide) (by rw [c_6]; decide) (by rw [c_6]; rfl) (by decide) ?_
        refine lv_aload_n hx hb dX5_told_77 rfl (lv_at hl 0 rfl) ?_
        refine k_get hx hb hts uX5_told_X5 hown hK hP 0 5 rfl rfl 7 (by decide) fX5_told_155 (.int mtl) rfl dX5_told_78 ?_
        exact hret _ t_1 _ _ _ _ hw hP hD hS dX5_told_81
      have hw := hw.2 c_6
      by_cases c_7 : p0 = 2
      · have hw := hw.1 c_7
        refine lv_tableIn (off := 53) (tgt := 82) hx hb dX5_told_29 (by rw [c_7]; decide) (by rw [c_7]; decide) (by rw [c_7]; rfl) (by decide) ?_
        refine lv_aload_n hx hb dX5_told_82 rfl (lv_at hl 0 rfl) ?_
        refine k_get hx hb hts uX5_told_X5 hown hK hP 0 5 rfl rfl 8 (by decide) fX5_told_158 (.int mtm) rfl dX5_told_83 ?_
        exact hret _ t_1 _ _ _ _ hw hP hD hS dX5_told_86
      have hw := hw.2 c_7
      by_cases c_8 : p0 = 3
      · have hw := hw.1 c_8
        refine lv_tableIn (off := 58) (tgt := 87) hx hb dX5_told_29 (by rw [c_8]; decide) (by rw [c_8]; decide) (by rw [c_8]; rfl) (by decide) ?_
        refine lv_aload_n hx hb dX5_told_87 rfl (lv_at hl 0 rfl) ?_
        refine k_get hx hb hts uX5_told_X5 hown hK hP 0 5 rfl rfl 1 (by decide) fX5_told_98 (.int mrs) rfl dX5_told_88 ?_
        exact hret _ t_1 _ _ _ _ hw hP hD hS dX5_told_91
      have hw := hw.2 c_8
      by_cases c_9 : p0 = 4
      · have hw := hw.1 c_9
        refine lv_tableIn (off := 63) (tgt := 92) hx hb dX5_told_29 (by rw [c_9]; decide) (by rw [c_9]; decide) (by rw [c_9]; rfl) (by decide) ?_
        refine lv_aload_n hx hb dX5_told_92 rfl (lv_at hl 0 rfl) ?_
        refine k_get hx hb hts uX5_told_X5 hown hK hP 0 5 rfl rfl 4 (by decide) fX5_told_104 (.int mlo) rfl dX5_told_93 ?_
        exact hret _ t_1 _ _ _ _ hw hP hD hS dX5_told_96
      have hw := hw.2 c_9
      by_cases c_10 : p0 = 5
      · have hw := hw.1 c_10
        refine lv_tableIn (off := 68) (tgt := 97) hx hb dX5_told_29 (by rw [c_10]; decide) (by rw [c_10]; decide) (by rw [c_10]; rfl) (by decide) ?_
        refine lv_aload_n hx hb dX5_told_97 rfl (lv_at hl 0 rfl) ?_
        refine k_get hx hb hts uX5_told_X5 hown hK hP 0 5 rfl rfl 5 (by decide) fX5_told_20 (.int mhi) rfl dX5_told_98 ?_
        exact hret _ t_1 _ _ _ _ hw hP hD hS dX5_told_101
      have hw := hw.2 c_10
      by_cases c_11 : p0 = 6
      · have hw := hw.1 c_11
        refine lv_tableIn (off := 73) (tgt := 102) hx hb dX5_told_29 (by rw [c_11]; decide) (by rw [c_11]; decide) (by rw [c_11]; rfl) (by decide) ?_
        refine lv_aload_n hx hb dX5_told_102 rfl (lv_at hl 0 rfl) ?_
        refine k_get hx hb hts uX5_told_X5 hown hK hP 0 5 rfl rfl 2 (by decide) fX5_told_13 (.int ma) rfl dX5_told_103 ?_
        exact hret _ t_1 _ _ _ _ hw hP hD hS dX5_told_106
      have hw := hw.2 c_11
      refine lv_tableOut (tgt := 107) hx hb dX5_told_29 (k_sw6 c_5 c_6 c_7 c_8 c_9 c_10 c_11) (by decide) ?_
      refine lv_aload_n hx hb dX5_told_107 rfl (lv_at hl 0 rfl) ?_
      refine k_get hx hb hts uX5_told_X5 hown hK hP 0 5 rfl rfl 3 (by decide) fX5_told_17 (.int mb) rfl dX5_told_108 ?_
      exact hret _ t_1 _ _ _ _ hw hP hD hS dX5_told_111
    · have hw := hw.2 c_12
      refine lv_iconst (v := 0) hx hb dX5_told_26 (by decide) ?_
      exact hret _ t_1 _ _ _ _ hw hP hD hS dX5_told_27
  clear hR
  refine lv_if_lt (tgt := 11) hx hb dX5_told_2 (by decide) (fun c_4 => ?_) (fun c_4 => ?_)
  · have hw := hw.1 c_4
    refine lv_iconst (v := 1) hx hb dX5_told_11 (by decide) ?_
    refine lv_goto (tgt := 16) hx hb dX5_told_12 (by decide) ?_
    exact hJ16_2 1 hw _ _ _ hP hD hS (lv_sub hl [0, 1] rfl)
  · have hw := hw.2 c_4
    refine lv_iload_n hx hb dX5_told_5 rfl (lv_at hl 1 rfl) ?_
    refine lv_bipush (v := 7) hx hb dX5_told_6 (by decide) ?_
    refine lv_icmp_le (tgt := 15) hx hb dX5_told_8 (by decide) (fun c_3 => ?_) (fun c_3 => ?_)
    · have hw := hw.1 c_3
      refine lv_iconst (v := 0) hx hb dX5_told_15 (by decide) ?_
      exact hJ16_2 0 hw _ _ _ hP hD hS (lv_sub hl [0, 1] rfl)
    · have hw := hw.2 c_3
      refine lv_iconst (v := 1) hx hb dX5_told_11 (by decide) ?_
      refine lv_goto (tgt := 16) hx hb dX5_told_12 (by decide) ?_
      exact hJ16_2 1 hw _ _ _ hP hD hS (lv_sub hl [0, 1] rfl)
