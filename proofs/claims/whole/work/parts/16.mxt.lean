/-! PrivateCounts, methods that throw (laid by wip/whole/gen.py) -/
abbrev rm_X4_remove : Room := { frames := 6, cells := 1, slots := 6, locals := 82 }
abbrev rm_X4_table : Room := { frames := 6, cells := 1, slots := 6, locals := 82 }
abbrev rm_X4_draw : Room := { frames := 6, cells := 1, slots := 6, locals := 82 }
abbrev rm_X4_isNear : Room := { frames := 6, cells := 1, slots := 6, locals := 82 }
abbrev rm_X4_budget : Room := { frames := 6, cells := 1, slots := 6, locals := 88 }
abbrev rm_X4_raise : Room := { frames := 6, cells := 1, slots := 6, locals := 117 }
abbrev rm_X4_isEnough : Room := { frames := 6, cells := 1, slots := 6, locals := 92 }
abbrev rm_X4_least : Room := { frames := 6, cells := 1, slots := 6, locals := 92 }
abbrev rm_X4_ask : Room := { frames := 6, cells := 1, slots := 6, locals := 117 }
abbrev rm_X4_limb : Room := { frames := 6, cells := 1, slots := 6, locals := 82 }
abbrev rm_X4_told : Room := { frames := 6, cells := 1, slots := 6, locals := 82 }
def w_X4_remove (row : Nat → Int32) (rc : Int32) (p0 : Int32) (X : Prop) (Q : Int32 → (Nat → Int32) → Int32 → Prop) : Prop :=
  ((p0 < 0 →
    X
   ) ∧ (¬ p0 < 0 →
    ((rc ≤ p0 →
      X
     ) ∧ (¬ rc ≤ p0 →
      ((p0 < 60 →
        vp_in p0 60 ∧
        ∀ (i2_1 : Int32), i2_1 = row p0.toNatClampNeg →
        ∀ (i3_2 : Int32), i3_2 = p0 + 1 →
        ∃ (I42_5 : Int32 → (Nat → Int32) → Prop) (μ42_5 : Int32 → (Nat → Int32) → Nat), I42_5 i3_2 row ∧ ∀ (i3_3 : Int32) (row_4 : Nat → Int32), I42_5 i3_3 row_4 →
          ((rc ≤ i3_3 →
            ∀ (rc_6 : Int32), rc_6 = rc - 1 →
            Q i2_1 row_4 rc_6
           ) ∧ (¬ rc ≤ i3_3 →
            ((60 ≤ i3_3 →
              ∀ (rc_7 : Int32), rc_7 = rc - 1 →
              Q i2_1 row_4 rc_7
             ) ∧ (¬ 60 ≤ i3_3 →
              vp_in i3_3 60 ∧
              vp_in (i3_3 - 1) 60 ∧
              ∀ (row_8 : Nat → Int32), row_8 = upd row_4 (i3_3 - 1).toNatClampNeg (row_4 i3_3.toNatClampNeg) →
              ∀ (i3_9 : Int32), i3_9 = i3_3 + 1 →
              I42_5 i3_9 row_8 ∧ μ42_5 i3_9 row_8 < μ42_5 i3_3 row_4
             ))
           ))
       ) ∧ (¬ p0 < 60 →
        X
       ))
     ))
   ))

def w_X4_table (wa : Int32) (wb : Int32) (wlo : Int32) (whi : Int32) (wtot : Int64) (p0 : Int32) (p1 : Int32) (p2 : Int32) (p3 : Int32) (X : Prop) (Q : Int64 → Int32 → Int32 → Int32 → Int32 → Int64 → Prop) : Prop :=
  w_X3_isAllowed p0 p1 p2 p3 (fun (r_1 : Int32) =>
  ((¬ r_1 = 0 →
    w_X3_become wa wb wlo whi wtot p0 p1 p2 p3 (fun (wa_2 : Int32) (wb_3 : Int32) (wlo_4 : Int32) (whi_5 : Int32) (wtot_6 : Int64) =>
    Q wtot_6 wa_2 wb_3 wlo_4 whi_5 wtot_6)
   ) ∧ (r_1 = 0 →
    X
   )))

def w_X4_draw (wa : Int32) (wb : Int32) (wlo : Int32) (whi : Int32) (wtot : Int64) (p0 : Int32) (p1 : Int64) (X : Prop) (Q : Int32 → Prop) : Prop :=
  w_X3_holds wlo whi p0 (fun (r_1 : Int32) =>
  ((r_1 = 0 →
    X
   ) ∧ (¬ r_1 = 0 →
    w_X3_hasCoin wtot p1 (fun (r_2 : Int32) =>
    ((¬ r_2 = 0 →
      w_X3_outcomeOf wa wb wlo whi wtot p0 p1 (fun (r_3 : Int32) =>
      Q r_3)
     ) ∧ (r_2 = 0 →
      X
     )))
   )))

def w_X4_isNear (wa : Int32) (wb : Int32) (wlo : Int32) (whi : Int32) (wtot : Int64) (p0 : Int32) (p1 : Int32) (X : Prop) (Q : Int32 → Prop) : Prop :=
  w_X3_holds wlo whi p0 (fun (r_1 : Int32) =>
  ((r_1 = 0 →
    X
   ) ∧ (¬ r_1 = 0 →
    w_X3_holds wlo whi p1 (fun (r_2 : Int32) =>
    ((¬ r_2 = 0 →
      w_X3_isWithinRatio wa wb wlo whi wtot p0 p1 (fun (r_3 : Int32) =>
      Q r_3)
     ) ∧ (r_2 = 0 →
      X
     )))
   )))

def w_X4_budget (lgu : Nat → Int32) (ngu : Int32) (lgd : Nat → Int32) (ngd : Int32) (leu : Nat → Int32) (neu : Int32) (led : Nat → Int32) (ned : Int32) (lfu : Nat → Int32) (nfu : Int32) (lfd : Nat → Int32) (nfd : Int32) (ans : Int32) (rfc : Int32) (rfb : Int32) (p0 : Int32) (p1 : Int32) (X : Prop) (Q : (Nat → Int32) → Int32 → (Nat → Int32) → Int32 → (Nat → Int32) → Int32 → (Nat → Int32) → Int32 → (Nat → Int32) → Int32 → (Nat → Int32) → Int32 → Int32 → Int32 → Int32 → Prop) : Prop :=
  w_X4_isGrant p0 p1 (fun (r_1 : Int32) =>
  ((¬ r_1 = 0 →
    w_X0_become lgu ngu lgd ngd p0 p1 (fun (lgu_2 : Nat → Int32) (ngu_3 : Int32) (lgd_4 : Nat → Int32) (ngd_5 : Int32) =>
    w_X0_become leu neu led ned (0 : Int32) (1 : Int32) (fun (leu_6 : Nat → Int32) (neu_7 : Int32) (led_8 : Nat → Int32) (ned_9 : Int32) =>
    w_X0_become lfu nfu lfd nfd p0 p1 (fun (lfu_10 : Nat → Int32) (nfu_11 : Int32) (lfd_12 : Nat → Int32) (nfd_13 : Int32) =>
    Q lgu_2 ngu_3 lgd_4 ngd_5 leu_6 neu_7 led_8 ned_9 lfu_10 nfu_11 lfd_12 nfd_13 0 0 0)))
   ) ∧ (r_1 = 0 →
    X
   )))

def w_X4_raise (lgu : Nat → Int32) (ngu : Int32) (lgd : Nat → Int32) (ngd : Int32) (lfu : Nat → Int32) (nfu : Int32) (lfd : Nat → Int32) (nfd : Int32) (p0 : Int32) (p1 : Int32) (X : Prop) (Q : (Nat → Int32) → Int32 → (Nat → Int32) → Int32 → (Nat → Int32) → Int32 → (Nat → Int32) → Int32 → Prop) : Prop :=
  w_X4_isGrant p0 p1 (fun (r_1 : Int32) =>
  ((¬ r_1 = 0 →
    w_X0_increase lgu ngu lgd ngd p0 p1 (fun (lgu_2 : Nat → Int32) (ngu_3 : Int32) (lgd_4 : Nat → Int32) (ngd_5 : Int32) =>
    w_X0_increase lfu nfu lfd nfd p0 p1 (fun (lfu_6 : Nat → Int32) (nfu_7 : Int32) (lfd_8 : Nat → Int32) (nfd_9 : Int32) =>
    Q lgu_2 ngu_3 lgd_4 ngd_5 lfu_6 nfu_7 lfd_8 nfd_9))
   ) ∧ (r_1 = 0 →
    X
   )))

def w_X4_isEnough (wa : Int32) (wb : Int32) (lsm : Nat → Int32) (nsm : Int32) (lst : Nat → Int32) (nst : Int32) (p0 : Int32) (p1 : Int32) (X : Prop) (Q : Int32 → (Nat → Int32) → Int32 → (Nat → Int32) → Int32 → Prop) : Prop :=
  w_X4_isCost p0 p1 (fun (r_1 : Int32) =>
  ((¬ r_1 = 0 →
    w_X2_reaches lsm nsm lst nst wa wb p0 p1 (fun (r_2 : Int32) (lsm_3 : Nat → Int32) (nsm_4 : Int32) (lst_5 : Nat → Int32) (nst_6 : Int32) =>
    Q r_2 lsm_3 nsm_4 lst_5 nst_6)
   ) ∧ (r_1 = 0 →
    X
   )))

def w_X4_least (wa : Int32) (wb : Int32) (lsm : Nat → Int32) (nsm : Int32) (lst : Nat → Int32) (nst : Int32) (p0 : Int32) (X : Prop) (Q : Int32 → (Nat → Int32) → Int32 → (Nat → Int32) → Int32 → Prop) : Prop :=
  w_X4_isDenominator p0 (fun (r_1 : Int32) =>
  ((¬ r_1 = 0 →
    ∀ (i3_2 : Int32), i3_2 = 3 * p0 →
    ∃ (I26_10 : Int32 → Int32 → Int32 → (Nat → Int32) → Int32 → (Nat → Int32) → Int32 → Prop) (μ26_10 : Int32 → Int32 → Int32 → (Nat → Int32) → Int32 → (Nat → Int32) → Int32 → Nat), I26_10 (0 : Int32) i3_2 (0 : Int32) lsm nsm lst nst ∧ ∀ (i4_3 : Int32) (i3_4 : Int32) (i2_5 : Int32) (lsm_6 : Nat → Int32) (nsm_7 : Int32) (lst_8 : Nat → Int32) (nst_9 : Int32), I26_10 i4_3 i3_4 i2_5 lsm_6 nsm_7 lst_8 nst_9 →
      ((32 ≤ i4_3 →
        Q i3_4 lsm_6 nsm_7 lst_8 nst_9
       ) ∧ (¬ 32 ≤ i4_3 →
        (((i3_4 - i2_5) ≤ 1 →
          Q i3_4 lsm_6 nsm_7 lst_8 nst_9
         ) ∧ (¬ (i3_4 - i2_5) ≤ 1 →
          ∀ (v_11 : Int32), v_11 = (i2_5 + i3_4) / 2 →
          w_X2_reaches lsm_6 nsm_7 lst_8 nst_9 wa wb v_11 p0 (fun (r_12 : Int32) (lsm_13 : Nat → Int32) (nsm_14 : Int32) (lst_15 : Nat → Int32) (nst_16 : Int32) =>
          ((r_12 = 0 →
            ∀ (i4_17 : Int32), i4_17 = i4_3 + 1 →
            I26_10 i4_17 i3_4 v_11 lsm_13 nsm_14 lst_15 nst_16 ∧ μ26_10 i4_17 i3_4 v_11 lsm_13 nsm_14 lst_15 nst_16 < μ26_10 i4_3 i3_4 i2_5 lsm_6 nsm_7 lst_8 nst_9
           ) ∧ (¬ r_12 = 0 →
            ∀ (i4_18 : Int32), i4_18 = i4_3 + 1 →
            I26_10 i4_18 v_11 i2_5 lsm_13 nsm_14 lst_15 nst_16 ∧ μ26_10 i4_18 v_11 i2_5 lsm_13 nsm_14 lst_15 nst_16 < μ26_10 i4_3 i3_4 i2_5 lsm_6 nsm_7 lst_8 nst_9
           )))
         ))
       ))
   ) ∧ (r_1 = 0 →
    X
   )))

def w_X4_ask (row : Nat → Int32) (rc : Int32) (wa : Int32) (wb : Int32) (wlo : Int32) (whi : Int32) (wtot : Int64) (lsm : Nat → Int32) (nsm : Int32) (lst : Nat → Int32) (nst : Int32) (leu : Nat → Int32) (neu : Int32) (led : Nat → Int32) (ned : Int32) (lfu : Nat → Int32) (nfu : Int32) (lfd : Nat → Int32) (nfd : Int32) (ans : Int32) (rfc : Int32) (rfb : Int32) (p0 : Int32) (p1 : Int32) (p2 : Int32) (p3 : Int32) (p4 : Int64) (X : Prop) (Q : Int32 → (Nat → Int32) → Int32 → (Nat → Int32) → Int32 → (Nat → Int32) → Int32 → (Nat → Int32) → Int32 → (Nat → Int32) → Int32 → (Nat → Int32) → Int32 → Int32 → Int32 → Int32 → Prop) : Prop :=
  w_X4_isCost p2 p3 (fun (r_1 : Int32) =>
  ((r_1 = 0 →
    X
   ) ∧ (¬ r_1 = 0 →
    w_X3_hasCoin wtot p4 (fun (r_2 : Int32) =>
    ((¬ r_2 = 0 →
      w_X2_reaches lsm nsm lst nst wa wb p2 p3 (fun (r_3 : Int32) (lsm_4 : Nat → Int32) (nsm_5 : Int32) (lst_6 : Nat → Int32) (nst_7 : Int32) =>
      ((¬ r_3 = 0 →
        w_X0_isLessThan lfu nfu lfd nfd p2 p3 (fun (r_8 : Int32) =>
        ((r_8 = 0 →
          w_X0_increase leu neu led ned p2 p3 (fun (leu_9 : Nat → Int32) (neu_10 : Int32) (led_11 : Nat → Int32) (ned_12 : Int32) =>
          w_X0_decrease lfu nfu lfd nfd p2 p3 (fun (lfu_13 : Nat → Int32) (nfu_14 : Int32) (lfd_15 : Nat → Int32) (nfd_16 : Int32) =>
          ∀ (ans_17 : Int32), ans_17 = ans + 1 →
          w_X4_count row rc p0 p1 (fun (r_18 : Int32) =>
          w_X3_nearestTo wlo whi r_18 (fun (r_19 : Int32) =>
          w_X3_outcomeOf wa wb wlo whi wtot r_19 p4 (fun (r_20 : Int32) =>
          Q r_20 lsm_4 nsm_5 lst_6 nst_7 leu_9 neu_10 led_11 ned_12 lfu_13 nfu_14 lfd_15 nfd_16 ans_17 rfc rfb)))))
         ) ∧ (¬ r_8 = 0 →
          ∀ (rfb_21 : Int32), rfb_21 = rfb + 1 →
          Q ((-2147483648) : Int32) lsm_4 nsm_5 lst_6 nst_7 leu neu led ned lfu nfu lfd nfd ans rfc rfb_21
         )))
       ) ∧ (r_3 = 0 →
        ∀ (rfc_23 : Int32), rfc_23 = rfc + 1 →
        Q ((-2147483648) : Int32) lsm_4 nsm_5 lst_6 nst_7 leu neu led ned lfu nfu lfd nfd ans rfc_23 rfb
       )))
     ) ∧ (r_2 = 0 →
      X
     )))
   )))

def w_X4_limb (lgu : Nat → Int32) (ngu : Int32) (lgd : Nat → Int32) (ngd : Int32) (leu : Nat → Int32) (neu : Int32) (led : Nat → Int32) (ned : Int32) (lfu : Nat → Int32) (nfu : Int32) (lfd : Nat → Int32) (nfd : Int32) (p0 : Int32) (p1 : Int32) (p2 : Int32) (X : Prop) (Q : Int32 → Prop) : Prop :=
  ((p0 < 0 →
    X
   ) ∧ (¬ p0 < 0 →
    ((2 < p0 →
      X
     ) ∧ (¬ 2 < p0 →
      ((p1 < 0 →
        X
       ) ∧ (¬ p1 < 0 →
        ((p1 ≤ 1 →
          ((¬ p0 = 0 →
            ((¬ p0 = 1 →
              ((¬ p1 = 0 →
                ((¬ p2 = (-1) →
                  ((p2 < 0 →
                    Q ((-1) : Int32)
                   ) ∧ (¬ p2 < 0 →
                    ((nfd ≤ p2 →
                      Q ((-1) : Int32)
                     ) ∧ (¬ nfd ≤ p2 →
                      w_X1_limbAt lfd nfd p2 (fun (r_1 : Int32) =>
                      Q r_1)
                     ))
                   ))
                 ) ∧ (p2 = (-1) →
                  Q nfd
                 ))
               ) ∧ (p1 = 0 →
                ((¬ p2 = (-1) →
                  ((p2 < 0 →
                    Q ((-1) : Int32)
                   ) ∧ (¬ p2 < 0 →
                    ((nfu ≤ p2 →
                      Q ((-1) : Int32)
                     ) ∧ (¬ nfu ≤ p2 →
                      w_X1_limbAt lfu nfu p2 (fun (r_5 : Int32) =>
                      Q r_5)
                     ))
                   ))
                 ) ∧ (p2 = (-1) →
                  Q nfu
                 ))
               ))
             ) ∧ (p0 = 1 →
              ((¬ p1 = 0 →
                ((¬ p2 = (-1) →
                  ((p2 < 0 →
                    Q ((-1) : Int32)
                   ) ∧ (¬ p2 < 0 →
                    ((ned ≤ p2 →
                      Q ((-1) : Int32)
                     ) ∧ (¬ ned ≤ p2 →
                      w_X1_limbAt led ned p2 (fun (r_10 : Int32) =>
                      Q r_10)
                     ))
                   ))
                 ) ∧ (p2 = (-1) →
                  Q ned
                 ))
               ) ∧ (p1 = 0 →
                ((¬ p2 = (-1) →
                  ((p2 < 0 →
                    Q ((-1) : Int32)
                   ) ∧ (¬ p2 < 0 →
                    ((neu ≤ p2 →
                      Q ((-1) : Int32)
                     ) ∧ (¬ neu ≤ p2 →
                      w_X1_limbAt leu neu p2 (fun (r_14 : Int32) =>
                      Q r_14)
                     ))
                   ))
                 ) ∧ (p2 = (-1) →
                  Q neu
                 ))
               ))
             ))
           ) ∧ (p0 = 0 →
            ((¬ p1 = 0 →
              ((¬ p2 = (-1) →
                ((p2 < 0 →
                  Q ((-1) : Int32)
                 ) ∧ (¬ p2 < 0 →
                  ((ngd ≤ p2 →
                    Q ((-1) : Int32)
                   ) ∧ (¬ ngd ≤ p2 →
                    w_X1_limbAt lgd ngd p2 (fun (r_20 : Int32) =>
                    Q r_20)
                   ))
                 ))
               ) ∧ (p2 = (-1) →
                Q ngd
               ))
             ) ∧ (p1 = 0 →
              ((¬ p2 = (-1) →
                ((p2 < 0 →
                  Q ((-1) : Int32)
                 ) ∧ (¬ p2 < 0 →
                  ((ngu ≤ p2 →
                    Q ((-1) : Int32)
                   ) ∧ (¬ ngu ≤ p2 →
                    w_X1_limbAt lgu ngu p2 (fun (r_24 : Int32) =>
                    Q r_24)
                   ))
                 ))
               ) ∧ (p2 = (-1) →
                Q ngu
               ))
             ))
           ))
         ) ∧ (¬ p1 ≤ 1 →
          X
         ))
       ))
     ))
   ))

def w_X4_told (rc : Int32) (wa : Int32) (wb : Int32) (wlo : Int32) (whi : Int32) (ans : Int32) (rfc : Int32) (rfb : Int32) (p0 : Int32) (X : Prop) (Q : Int32 → Prop) : Prop :=
  ((p0 = 0 →
    Q ans
   ) ∧ (¬ p0 = 0 →
  ((p0 = 1 →
    Q rfc
   ) ∧ (¬ p0 = 1 →
  ((p0 = 2 →
    Q rfb
   ) ∧ (¬ p0 = 2 →
  ((p0 = 3 →
    Q rc
   ) ∧ (¬ p0 = 3 →
  ((p0 = 4 →
    Q wlo
   ) ∧ (¬ p0 = 4 →
  ((p0 = 5 →
    Q whi
   ) ∧ (¬ p0 = 5 →
  ((p0 = 6 →
    Q wa
   ) ∧ (¬ p0 = 6 →
  ((p0 = 7 →
    Q wb
   ) ∧ (¬ p0 = 7 →
    X
   ))))))))))))))))

theorem fX4_remove_13 : Cond.fieldLink RX4 13 "PrivateCounts" "rowCount" "I" ∈ wsX4_remove := by decide +kernel
theorem uX4_remove_X4 : ∀ w ∈ u_ws RX4 TX4 10, w ∈ wsX4_remove := by decide +kernel
theorem fX4_remove_9 : Cond.fieldLink RX4 9 "PrivateCounts" "rows" "[I" ∈ wsX4_remove := by decide +kernel
set_option maxHeartbeats 4000000 in
set_option maxRecDepth 100000 in
theorem M_X4_remove (l : Launch) (hst : l.stackTraces = false) (sa : Nat → Nat) (G : va_G) (cI cJ : ClassId) (Ax Bx Aw As Asm Bsm Ast Bst Ag Agu Bgu Agd Bgd Ae Aeu Beu Aed Bed Af Afu Bfu Afd Bfd : Nat) (row : Nat → Int32) (rc : Int32) (wa : Int32) (wb : Int32) (wlo : Int32) (whi : Int32) (wtot : Int64) (lsm : Nat → Int32) (nsm : Int32) (lst : Nat → Int32) (nst : Int32) (lgu : Nat → Int32) (ngu : Int32) (lgd : Nat → Int32) (ngd : Int32) (leu : Nat → Int32) (neu : Int32) (led : Nat → Int32) (ned : Int32) (lfu : Nat → Int32) (nfu : Int32) (lfd : Nat → Int32) (nfd : Int32) (ans : Int32) (rfc : Int32) (rfb : Int32) (p0 : Int32) (X : Prop) (Q : Int32 → (Nat → Int32) → Int32 → Prop) (hw : w_X4_remove row rc p0 X Q) : Kxi l yX4_remove wsX4_remove rm_X4_remove xTx sa G cI cJ [.ref Ax, .int p0] (wX4 cI cJ Ax Bx Aw As Asm Bsm Ast Bst Ag Agu Bgu Agd Bgd Ae Aeu Beu Aed Bed Af Afu Bfu Afd Bfd row rc wa wb wlo whi wtot lsm nsm lst nst lgu ngu lgd ngd leu neu led ned lfu nfu lfd nfd ans rfc rfb) (fun (r : Int32) (u : (Nat → Int32) × (Int32)) => Q r u.1 u.2) (fun u => (wX4 cI cJ Ax Bx Aw As Asm Bsm Ast Bst Ag Agu Bgu Agd Bgd Ae Aeu Beu Aed Bed Af Afu Bfu Afd Bfd u.1 u.2 wa wb wlo whi wtot lsm nsm lst nst lgu ngu lgd ngd leu neu led ned lfu nfu lfd nfd ans rfc rfb)) "java/lang/IndexOutOfBoundsException" X := by
  refine kxi_intro (cc := cX4_remove) (maxL := 4) (E := "java/lang/IndexOutOfBoundsException") (text := "there is no such row") 53 55 57 hst (Nat.le_refl _) (Nat.le_refl _) (Nat.le_of_ble_eq_true rfl) (Nat.le_of_ble_eq_true rfl) (by decide) rfl rfl (Nat.le_of_ble_eq_true rfl) (by decide +kernel) (by decide +kernel) (by decide +kernel) (by decide +kernel) (by decide +kernel) (by decide +kernel) (by decide +kernel) ?_
  intro p e s m args below meth c A Z ls hx hb hml hts hown hP hK hD hS hA hl hret hthr
  have hl : lv_has ls 4 [(0, .ref Ax), (1, .int p0)] := hl
  unfold w_X4_remove at hw
  refine lv_iload_n hx hb dX4_remove_0 rfl (lv_at hl 1 rfl) ?_
  refine lv_if_lt (tgt := 21) hx hb dX4_remove_1 (by decide) (fun c_14 => ?_) (fun c_14 => ?_)
  · have hw := hw.1 c_14
    exact hthr _ _ _ _ hw hP hD hS hl.1 dX4_remove_21 dX4_remove_24 dX4_remove_25 dX4_remove_27 dX4_remove_30
  · have hw := hw.2 c_14
    refine lv_iload_n hx hb dX4_remove_4 rfl (lv_at hl 1 rfl) ?_
    refine lv_aload_n hx hb dX4_remove_5 rfl (lv_at hl 0 rfl) ?_
    refine k_get hx hb hts uX4_remove_X4 hown hK hP 0 4 rfl rfl 1 (by decide) fX4_remove_13 (.int rc) rfl dX4_remove_6 ?_
    refine lv_icmp_ge (tgt := 21) hx hb dX4_remove_9 (by decide) (fun c_13 => ?_) (fun c_13 => ?_)
    · have hw := hw.1 c_13
      exact hthr _ _ _ _ hw hP hD hS hl.1 dX4_remove_21 dX4_remove_24 dX4_remove_25 dX4_remove_27 dX4_remove_30
    · have hw := hw.2 c_13
      refine lv_iload_n hx hb dX4_remove_12 rfl (lv_at hl 1 rfl) ?_
      refine lv_aload_n hx hb dX4_remove_13 rfl (lv_at hl 0 rfl) ?_
      refine k_get hx hb hts uX4_remove_X4 hown hK hP 0 4 rfl rfl 0 (by decide) fX4_remove_9 (.ref Bx) rfl dX4_remove_14 ?_
      refine k_alen hx hb hK hP 1 rfl 60 rfl dX4_remove_17 ?_
      refine lv_icmp_lt (tgt := 31) hx hb dX4_remove_18 (by decide) (fun c_12 => ?_) (fun c_12 => ?_)
      · have hw := hw.1 c_12
        refine lv_aload_n hx hb dX4_remove_31 rfl (lv_at hl 0 rfl) ?_
        refine k_get hx hb hts uX4_remove_X4 hown hK hP 0 4 rfl rfl 0 (by decide) fX4_remove_9 (.ref Bx) rfl dX4_remove_32 ?_
        refine lv_iload_n hx hb dX4_remove_35 rfl (lv_at hl 1 rfl) ?_
        obtain ⟨hin, hw⟩ := hw
        refine k_iald hx hb hK hP 1 rfl hin dX4_remove_36 ?_
        refine lv_topi (fun i2_1 ei2_1 => ?_)
        have hw := hw i2_1 ei2_1
        refine lv_istore_n (lv' := [(2, .int i2_1), (0, .ref Ax), (1, .int p0)]) hx hb dX4_remove_37 rfl hl (by decide) rfl (fun ls hl => ?_)
        refine lv_iload_n hx hb dX4_remove_38 rfl (lv_at hl 2 rfl) ?_
        refine lv_iconst (v := 1) hx hb dX4_remove_39 (by decide) ?_
        refine lv_iadd hx hb dX4_remove_40 ?_
        refine lv_topi (fun i3_2 ei3_2 => ?_)
        have hw := hw i3_2 ei3_2
        refine lv_istore_n (lv' := [(3, .int i3_2), (2, .int i2_1), (0, .ref Ax), (1, .int p0)]) hx hb dX4_remove_41 rfl hl (by decide) rfl (fun ls hl => ?_)
        obtain ⟨I42_5, μ42_5, hi, hw⟩ := hw
        suffices hLI42_5 : ∀ (N : Nat) (i3_3 : Int32) (row_4 : Nat → Int32) (_ : μ42_5 i3_3 row_4 = N) (_ : I42_5 i3_3 row_4) (H : Heap) (locs : List Loc) (ls : Array Slot), va_P G vwCl (wX4 cI cJ Ax Bx Aw As Asm Bsm Ast Bst Ag Agu Bgu Agd Bgd Ae Aeu Beu Aed Bed Af Afu Bfu Afd Bfd row_4 rc wa wb wlo whi wtot lsm nsm lst nst lgu ngu lgd ngd leu neu led ned lfu nfu lfd nfd ans rfc rfb) H → va_D A (wX4 cI cJ Ax Bx Aw As Asm Bsm Ast Bst Ag Agu Bgu Agd Bgd Ae Aeu Beu Aed Bed Af Afu Bfu Afd Bfd row_4 rc wa wb wlo whi wtot lsm nsm lst nst lgu ngu lgd ngd leu neu led ned lfu nfu lfd nfd ans rfc rfb) → va_S A s.heap H locs → lv_has ls 4 [(3, .int i3_3), (2, .int i2_1), (0, .ref Ax)] → W p l e rm_X4_remove s m args below meth c H locs 0 0 Z (F0 m 42 ls []) from
          hLI42_5 _ i3_2 row rfl hi _ _ _ hP hD hS (lv_sub hl [0, 1, 2] rfl)
        clear hi hP hD hS hl
        intro N
        induction N using Nat.strongRecOn with
        | ind N ihI42_5 =>
          intro i3_3 row_4 hNI42_5 hi H locs ls hP hD hS hl
          have hw := hw i3_3 row_4 hi
          refine lv_iload_n hx hb dX4_remove_42 rfl (lv_at hl 0 rfl) ?_
          refine lv_aload_n hx hb dX4_remove_43 rfl (lv_at hl 2 rfl) ?_
          refine k_get hx hb hts uX4_remove_X4 hown hK hP 0 4 rfl rfl 1 (by decide) fX4_remove_13 (.int rc) rfl dX4_remove_44 ?_
          refine lv_icmp_ge (tgt := 79) hx hb dX4_remove_47 (by decide) (fun c_11 => ?_) (fun c_11 => ?_)
          · have hw := hw.1 c_11
            refine lv_aload_n hx hb dX4_remove_79 rfl (lv_at hl 2 rfl) ?_
            refine lv_dup hx hb dX4_remove_80 rfl ?_
            refine k_get hx hb hts uX4_remove_X4 hown hK hP 0 4 rfl rfl 1 (by decide) fX4_remove_13 (.int rc) rfl dX4_remove_81 ?_
            refine lv_iconst (v := 1) hx hb dX4_remove_84 (by decide) ?_
            refine lv_isub hx hb dX4_remove_85 ?_
            refine lv_topi (fun rc_6 erc_6 => ?_)
            have hw := hw rc_6 erc_6
            refine k_put hx hb hts uX4_remove_X4 tyX4 tyX4_ok nmX4 hown hK hP hD hS 0 4 rfl rfl 1 (by decide) fX4_remove_13 rfl rfl rfl (Nat.le_of_ble_eq_true rfl) (w' := (wX4 cI cJ Ax Bx Aw As Asm Bsm Ast Bst Ag Agu Bgu Agd Bgd Ae Aeu Beu Aed Bed Af Afu Bfu Afd Bfd row_4 rc_6 wa wb wlo whi wtot lsm nsm lst nst lgu ngu lgd ngd leu neu led ned lfu nfu lfd nfd ans rfc rfb)) rfl dX4_remove_86 (fun H locs hP hD hS => ?_)
            refine lv_iload_n hx hb dX4_remove_89 rfl (lv_at hl 1 rfl) ?_
            exact hret _ (row_4, rc_6) _ _ _ _ hw hP hD hS dX4_remove_90
          · have hw := hw.2 c_11
            refine lv_iload_n hx hb dX4_remove_50 rfl (lv_at hl 0 rfl) ?_
            refine lv_aload_n hx hb dX4_remove_51 rfl (lv_at hl 2 rfl) ?_
            refine k_get hx hb hts uX4_remove_X4 hown hK hP 0 4 rfl rfl 0 (by decide) fX4_remove_9 (.ref Bx) rfl dX4_remove_52 ?_
            refine k_alen hx hb hK hP 1 rfl 60 rfl dX4_remove_55 ?_
            refine lv_icmp_ge (tgt := 79) hx hb dX4_remove_56 (by decide) (fun c_10 => ?_) (fun c_10 => ?_)
            · have hw := hw.1 c_10
              refine lv_aload_n hx hb dX4_remove_79 rfl (lv_at hl 2 rfl) ?_
              refine lv_dup hx hb dX4_remove_80 rfl ?_
              refine k_get hx hb hts uX4_remove_X4 hown hK hP 0 4 rfl rfl 1 (by decide) fX4_remove_13 (.int rc) rfl dX4_remove_81 ?_
              refine lv_iconst (v := 1) hx hb dX4_remove_84 (by decide) ?_
              refine lv_isub hx hb dX4_remove_85 ?_
              refine lv_topi (fun rc_7 erc_7 => ?_)
              have hw := hw rc_7 erc_7
              refine k_put hx hb hts uX4_remove_X4 tyX4 tyX4_ok nmX4 hown hK hP hD hS 0 4 rfl rfl 1 (by decide) fX4_remove_13 rfl rfl rfl (Nat.le_of_ble_eq_true rfl) (w' := (wX4 cI cJ Ax Bx Aw As Asm Bsm Ast Bst Ag Agu Bgu Agd Bgd Ae Aeu Beu Aed Bed Af Afu Bfu Afd Bfd row_4 rc_7 wa wb wlo whi wtot lsm nsm lst nst lgu ngu lgd ngd leu neu led ned lfu nfu lfd nfd ans rfc rfb)) rfl dX4_remove_86 (fun H locs hP hD hS => ?_)
              refine lv_iload_n hx hb dX4_remove_89 rfl (lv_at hl 1 rfl) ?_
              exact hret _ (row_4, rc_7) _ _ _ _ hw hP hD hS dX4_remove_90
            · have hw := hw.2 c_10
              refine lv_aload_n hx hb dX4_remove_59 rfl (lv_at hl 2 rfl) ?_
              refine k_get hx hb hts uX4_remove_X4 hown hK hP 0 4 rfl rfl 0 (by decide) fX4_remove_9 (.ref Bx) rfl dX4_remove_60 ?_
              refine lv_iload_n hx hb dX4_remove_63 rfl (lv_at hl 0 rfl) ?_
              refine lv_iconst (v := 1) hx hb dX4_remove_64 (by decide) ?_
              refine lv_isub hx hb dX4_remove_65 ?_
              refine lv_aload_n hx hb dX4_remove_66 rfl (lv_at hl 2 rfl) ?_
              refine k_get hx hb hts uX4_remove_X4 hown hK hP 0 4 rfl rfl 0 (by decide) fX4_remove_9 (.ref Bx) rfl dX4_remove_67 ?_
              refine lv_iload_n hx hb dX4_remove_70 rfl (lv_at hl 0 rfl) ?_
              obtain ⟨hin, hw⟩ := hw
              refine k_iald hx hb hK hP 1 rfl hin dX4_remove_71 ?_
              obtain ⟨hin, hw⟩ := hw
              refine k_iast hx hb hK hP hD hS 1 rfl hin (w' := fun g => (wX4 cI cJ Ax Bx Aw As Asm Bsm Ast Bst Ag Agu Bgu Agd Bgd Ae Aeu Beu Aed Bed Af Afu Bfu Afd Bfd g rc wa wb wlo whi wtot lsm nsm lst nst lgu ngu lgd ngd leu neu led ned lfu nfu lfd nfd ans rfc rfb)) (fun _ => rfl) dX4_remove_72 (fun row_8 erow_8 H locs hP hD hS => ?_)
              have hw := hw row_8 erow_8
              obtain ⟨i3_9, ei3_9⟩ : ∃ y : Int32, y = i3_3 + 1 := ⟨_, rfl⟩
              have hw := hw i3_9 ei3_9
              refine lv_iinc (v := i3_9) (lv' := [(3, .int i3_9), (2, .int i2_1), (0, .ref Ax)]) hx hb dX4_remove_73 hl (k := 0) rfl (by rw [ei3_9]; rfl) (by decide) rfl (fun ls hl => ?_)
              refine lv_goto (tgt := 42) hx hb dX4_remove_76 (by decide) ?_
              exact ihI42_5 _ (by rw [← hNI42_5]; exact hw.2) i3_9 row_8 rfl hw.1 _ _ _ hP hD hS (lv_sub hl [0, 1, 2] rfl)
      · have hw := hw.2 c_12
        exact hthr _ _ _ _ hw hP hD hS hl.1 dX4_remove_21 dX4_remove_24 dX4_remove_25 dX4_remove_27 dX4_remove_30
theorem fX4_table_20 : Cond.fieldLink RX4 20 "PrivateCounts" "weights" "LPrivateCounts$Table;" ∈ wsX4_table := by decide +kernel
theorem uX4_table_X4 : ∀ w ∈ u_ws RX4 TX4 10, w ∈ wsX4_table := by decide +kernel
theorem fX4_table_73 : Cond.fieldLink RX4 73 "PrivateCounts$Table" "total" "J" ∈ wsX4_table := by decide +kernel
theorem uX4_table_X3 : ∀ w ∈ u_ws RX3 TX3 5, w ∈ wsX4_table := by decide +kernel
set_option maxHeartbeats 4000000 in
set_option maxRecDepth 100000 in
theorem M_X4_table (l : Launch) (hst : l.stackTraces = false) (sa : Nat → Nat) (G : va_G) (cI cJ : ClassId) (Ax Bx Aw As Asm Bsm Ast Bst Ag Agu Bgu Agd Bgd Ae Aeu Beu Aed Bed Af Afu Bfu Afd Bfd : Nat) (row : Nat → Int32) (rc : Int32) (wa : Int32) (wb : Int32) (wlo : Int32) (whi : Int32) (wtot : Int64) (lsm : Nat → Int32) (nsm : Int32) (lst : Nat → Int32) (nst : Int32) (lgu : Nat → Int32) (ngu : Int32) (lgd : Nat → Int32) (ngd : Int32) (leu : Nat → Int32) (neu : Int32) (led : Nat → Int32) (ned : Int32) (lfu : Nat → Int32) (nfu : Int32) (lfd : Nat → Int32) (nfd : Int32) (ans : Int32) (rfc : Int32) (rfb : Int32) (p0 : Int32) (p1 : Int32) (p2 : Int32) (p3 : Int32) (X : Prop) (Q : Int64 → Int32 → Int32 → Int32 → Int32 → Int64 → Prop) (hw : w_X4_table wa wb wlo whi wtot p0 p1 p2 p3 X Q) : Kxl l yX4_table wsX4_table rm_X4_table xTx sa G cI cJ [.ref Ax, .int p0, .int p1, .int p2, .int p3] (wX4 cI cJ Ax Bx Aw As Asm Bsm Ast Bst Ag Agu Bgu Agd Bgd Ae Aeu Beu Aed Bed Af Afu Bfu Afd Bfd row rc wa wb wlo whi wtot lsm nsm lst nst lgu ngu lgd ngd leu neu led ned lfu nfu lfd nfd ans rfc rfb) (fun (r : Int64) (u : (Int32) × (Int32) × (Int32) × (Int32) × (Int64)) => Q r u.1 u.2.1 u.2.2.1 u.2.2.2.1 u.2.2.2.2) (fun u => (wX4 cI cJ Ax Bx Aw As Asm Bsm Ast Bst Ag Agu Bgu Agd Bgd Ae Aeu Beu Aed Bed Af Afu Bfu Afd Bfd row rc u.1 u.2.1 u.2.2.1 u.2.2.2.1 u.2.2.2.2 lsm nsm lst nst lgu ngu lgd ngd leu neu led ned lfu nfu lfd nfd ans rfc rfb)) "java/lang/IllegalArgumentException" X := by
  refine kxl_intro (cc := cX4_table) (maxL := 5) (E := "java/lang/IllegalArgumentException") (text := "a, b or the range are not as told") 64 66 68 hst (Nat.le_refl _) (Nat.le_refl _) (Nat.le_of_ble_eq_true rfl) (Nat.le_of_ble_eq_true rfl) (by decide) rfl rfl (Nat.le_of_ble_eq_true rfl) (by decide +kernel) (by decide +kernel) (by decide +kernel) (by decide +kernel) (by decide +kernel) (by decide +kernel) (by decide +kernel) ?_
  intro p e s m args below meth c A Z ls hx hb hml hts hown hP hK hD hS hA hl hret hthr
  have hl : lv_has ls 5 [(0, .ref Ax), (1, .int p0), (2, .int p1), (3, .int p2), (4, .int p3)] := hl
  unfold w_X4_table at hw
  refine lv_iload_n hx hb dX4_table_0 rfl (lv_at hl 1 rfl) ?_
  refine lv_iload_n hx hb dX4_table_1 rfl (lv_at hl 2 rfl) ?_
  refine lv_iload_n hx hb dX4_table_2 rfl (lv_at hl 3 rfl) ?_
  refine lv_iload hx hb dX4_table_3 (lv_at hl 4 rfl) ?_
  refine k_Si (M_X3_isAllowed l G cI cJ p0 p1 p2 p3 _ hw) ⟨hx, hb, hml, hown, hts⟩ (va_cwS 4 hts gX4_table_X3_isAllowed rfl rfl rfl (by decide +kernel) ⟨Nat.le_of_ble_eq_true rfl, Nat.le_of_ble_eq_true rfl⟩) hK hP hD hS hA [] [0, 1, 2, 3, 4, 5, 6, 7, 8, 9, 10, 11, 12, 13, 14, 15, 16, 17, 18, 19, 20, 21, 22] [0, 1, 2, 3, 4, 5, 6, 7, 8, 9, 10, 11, 12, 13, 14, 15, 16, 17, 18, 19, 20, 21, 22] (wr := [(Ax, .inr (4, [.ref Bx, .int rc, .ref Aw, .ref As, .ref Ag, .ref Ae, .ref Af, .int ans, .int rfc, .int rfb])), (Bx, .inl (cI, 60, .inl row)), (Aw, .inr (3, [.int wa, .int wb, .int wlo, .int whi, .long wtot])), (As, .inr (2, [.ref Asm, .ref Ast])), (Asm, .inr (1, [.ref Bsm, .int nsm])), (Bsm, .inl (cI, 64, .inl lsm)), (Ast, .inr (1, [.ref Bst, .int nst])), (Bst, .inl (cI, 64, .inl lst)), (Ag, .inr (0, [.ref Agu, .ref Agd])), (Agu, .inr (1, [.ref Bgu, .int ngu])), (Bgu, .inl (cI, 64, .inl lgu)), (Agd, .inr (1, [.ref Bgd, .int ngd])), (Bgd, .inl (cI, 64, .inl lgd)), (Ae, .inr (0, [.ref Aeu, .ref Aed])), (Aeu, .inr (1, [.ref Beu, .int neu])), (Beu, .inl (cI, 64, .inl leu)), (Aed, .inr (1, [.ref Bed, .int ned])), (Bed, .inl (cI, 64, .inl led)), (Af, .inr (0, [.ref Afu, .ref Afd])), (Afu, .inr (1, [.ref Bfu, .int nfu])), (Bfu, .inl (cI, 64, .inl lfu)), (Afd, .inr (1, [.ref Bfd, .int nfd])), (Bfd, .inl (cI, 64, .inl lfd))]) (wn := fun u : Unit => (wX4 cI cJ Ax Bx Aw As Asm Bsm Ast Bst Ag Agu Bgu Agd Bgd Ae Aeu Beu Aed Bed Af Afu Bfu Afd Bfd row rc wa wb wlo whi wtot lsm nsm lst nst lgu ngu lgd ngd leu neu led ned lfu nfu lfd nfd ans rfc rfb)) rfl rfl (by decide) (by decide) (by decide) (by decide) (fun _ => rfl) (rest := []) rfl hl.1 rfl (Nat.le_of_ble_eq_true rfl) (Nat.zero_le _) (Nat.zero_le _) dX4_table_5 (fun r_1 u H locs hw hP hD hS => ?_)
  obtain ⟨hzr_1, hw⟩ := hw
  refine lv_if_ne (tgt := 21) hx hb dX4_table_8 (by decide) (fun c_7 => ?_) (fun c_7 => ?_)
  · have hw := hw.1 c_7
    refine lv_aload_n hx hb dX4_table_21 rfl (lv_at hl 0 rfl) ?_
    refine k_get hx hb hts uX4_table_X4 hown hK hP 0 4 rfl rfl 2 (by decide) fX4_table_20 (.ref Aw) rfl dX4_table_22 ?_
    refine lv_iload_n hx hb dX4_table_25 rfl (lv_at hl 1 rfl) ?_
    refine lv_iload_n hx hb dX4_table_26 rfl (lv_at hl 2 rfl) ?_
    refine lv_iload_n hx hb dX4_table_27 rfl (lv_at hl 3 rfl) ?_
    refine lv_iload hx hb dX4_table_28 (lv_at hl 4 rfl) ?_
    refine k_Vv (M_X3_become l G cI cJ Aw wa wb wlo whi wtot p0 p1 p2 p3 _ hw) ⟨hx, hb, hml, hown, hts⟩ (cwV 4 hts gX4_table_X3_become rfl rfl rfl (by decide +kernel) ⟨Nat.le_of_ble_eq_true rfl, Nat.le_of_ble_eq_true rfl⟩) hK hP hD hS hA [2] [0, 1, 3, 4, 5, 6, 7, 8, 9, 10, 11, 12, 13, 14, 15, 16, 17, 18, 19, 20, 21, 22] [0, 1, 22, 2, 3, 4, 5, 6, 7, 8, 9, 10, 11, 12, 13, 14, 15, 16, 17, 18, 19, 20, 21] (wr := [(Ax, .inr (4, [.ref Bx, .int rc, .ref Aw, .ref As, .ref Ag, .ref Ae, .ref Af, .int ans, .int rfc, .int rfb])), (Bx, .inl (cI, 60, .inl row)), (As, .inr (2, [.ref Asm, .ref Ast])), (Asm, .inr (1, [.ref Bsm, .int nsm])), (Bsm, .inl (cI, 64, .inl lsm)), (Ast, .inr (1, [.ref Bst, .int nst])), (Bst, .inl (cI, 64, .inl lst)), (Ag, .inr (0, [.ref Agu, .ref Agd])), (Agu, .inr (1, [.ref Bgu, .int ngu])), (Bgu, .inl (cI, 64, .inl lgu)), (Agd, .inr (1, [.ref Bgd, .int ngd])), (Bgd, .inl (cI, 64, .inl lgd)), (Ae, .inr (0, [.ref Aeu, .ref Aed])), (Aeu, .inr (1, [.ref Beu, .int neu])), (Beu, .inl (cI, 64, .inl leu)), (Aed, .inr (1, [.ref Bed, .int ned])), (Bed, .inl (cI, 64, .inl led)), (Af, .inr (0, [.ref Afu, .ref Afd])), (Afu, .inr (1, [.ref Bfu, .int nfu])), (Bfu, .inl (cI, 64, .inl lfu)), (Afd, .inr (1, [.ref Bfd, .int nfd])), (Bfd, .inl (cI, 64, .inl lfd))]) (wn := fun u : (Int32) × (Int32) × (Int32) × (Int32) × (Int64) => (wX4 cI cJ Ax Bx Aw As Asm Bsm Ast Bst Ag Agu Bgu Agd Bgd Ae Aeu Beu Aed Bed Af Afu Bfu Afd Bfd row rc u.1 u.2.1 u.2.2.1 u.2.2.2.1 u.2.2.2.2 lsm nsm lst nst lgu ngu lgd ngd leu neu led ned lfu nfu lfd nfd ans rfc rfb)) rfl rfl (by decide) (by decide) (by decide) (by decide) (fun _ => rfl) (rest := []) (q0 := 0) rfl rfl rfl hl.1 rfl (Nat.le_of_ble_eq_true rfl) (Nat.zero_le _) (Nat.zero_le _) dX4_table_30 (fun u H locs hw hP hD hS => ?_)
    obtain ⟨wa_2, wb_3, wlo_4, whi_5, wtot_6⟩ := u
    have hP : va_P G vwCl (wX4 cI cJ Ax Bx Aw As Asm Bsm Ast Bst Ag Agu Bgu Agd Bgd Ae Aeu Beu Aed Bed Af Afu Bfu Afd Bfd row rc wa_2 wb_3 wlo_4 whi_5 wtot_6 lsm nsm lst nst lgu ngu lgd ngd leu neu led ned lfu nfu lfd nfd ans rfc rfb) H := hP
    have hD : va_D A (wX4 cI cJ Ax Bx Aw As Asm Bsm Ast Bst Ag Agu Bgu Agd Bgd Ae Aeu Beu Aed Bed Af Afu Bfu Afd Bfd row rc wa_2 wb_3 wlo_4 whi_5 wtot_6 lsm nsm lst nst lgu ngu lgd ngd leu neu led ned lfu nfu lfd nfd ans rfc rfb) := hD
    refine lv_aload_n hx hb dX4_table_33 rfl (lv_at hl 0 rfl) ?_
    refine k_get hx hb hts uX4_table_X4 hown hK hP 0 4 rfl rfl 2 (by decide) fX4_table_20 (.ref Aw) rfl dX4_table_34 ?_
    refine k_get hx hb hts uX4_table_X3 hown hK hP 2 3 rfl rfl 4 (by decide) fX4_table_73 (.long wtot_6) rfl dX4_table_37 ?_
    exact hret _ (wa_2, wb_3, wlo_4, whi_5, wtot_6) _ _ _ _ hw hP hD hS dX4_table_40
  · have hw := hw.2 c_7
    exact hthr _ _ _ _ hw hP hD hS hl.1 dX4_table_11 dX4_table_14 dX4_table_15 dX4_table_17 dX4_table_20
theorem fX4_draw_20 : Cond.fieldLink RX4 20 "PrivateCounts" "weights" "LPrivateCounts$Table;" ∈ wsX4_draw := by decide +kernel
theorem uX4_draw_X4 : ∀ w ∈ u_ws RX4 TX4 10, w ∈ wsX4_draw := by decide +kernel
set_option maxHeartbeats 4000000 in
set_option maxRecDepth 100000 in
theorem M_X4_draw (l : Launch) (hst : l.stackTraces = false) (sa : Nat → Nat) (G : va_G) (cI cJ : ClassId) (Ax Bx Aw As Asm Bsm Ast Bst Ag Agu Bgu Agd Bgd Ae Aeu Beu Aed Bed Af Afu Bfu Afd Bfd : Nat) (row : Nat → Int32) (rc : Int32) (wa : Int32) (wb : Int32) (wlo : Int32) (whi : Int32) (wtot : Int64) (lsm : Nat → Int32) (nsm : Int32) (lst : Nat → Int32) (nst : Int32) (lgu : Nat → Int32) (ngu : Int32) (lgd : Nat → Int32) (ngd : Int32) (leu : Nat → Int32) (neu : Int32) (led : Nat → Int32) (ned : Int32) (lfu : Nat → Int32) (nfu : Int32) (lfd : Nat → Int32) (nfd : Int32) (ans : Int32) (rfc : Int32) (rfb : Int32) (p0 : Int32) (p1 : Int64) (X : Prop) (Q : Int32 → Prop) (hw : w_X4_draw wa wb wlo whi wtot p0 p1 X Q) : Kxi l yX4_draw wsX4_draw rm_X4_draw xTx sa G cI cJ [.ref Ax, .int p0, .long p1] (wX4 cI cJ Ax Bx Aw As Asm Bsm Ast Bst Ag Agu Bgu Agd Bgd Ae Aeu Beu Aed Bed Af Afu Bfu Afd Bfd row rc wa wb wlo whi wtot lsm nsm lst nst lgu ngu lgd ngd leu neu led ned lfu nfu lfd nfd ans rfc rfb) (fun (r : Int32) (u : Unit) => Q r) (fun u => (wX4 cI cJ Ax Bx Aw As Asm Bsm Ast Bst Ag Agu Bgu Agd Bgd Ae Aeu Beu Aed Bed Af Afu Bfu Afd Bfd row rc wa wb wlo whi wtot lsm nsm lst nst lgu ngu lgd ngd leu neu led ned lfu nfu lfd nfd ans rfc rfb)) "java/lang/IllegalArgumentException" X := by
  refine kxi_intro (cc := cX4_draw) (maxL := 4) (E := "java/lang/IllegalArgumentException") (text := "x is out of the range, or the coin not below all") 64 92 68 hst (Nat.le_refl _) (Nat.le_refl _) (Nat.le_of_ble_eq_true rfl) (Nat.le_of_ble_eq_true rfl) (by decide) rfl rfl (Nat.le_of_ble_eq_true rfl) (by decide +kernel) (by decide +kernel) (by decide +kernel) (by decide +kernel) (by decide +kernel) (by decide +kernel) (by decide +kernel) ?_
  intro p e s m args below meth c A Z ls hx hb hml hts hown hP hK hD hS hA hl hret hthr
  have hl : lv_has ls 4 [(0, .ref Ax), (1, .int p0), (2, .long p1)] := hl
  unfold w_X4_draw at hw
  refine lv_aload_n hx hb dX4_draw_0 rfl (lv_at hl 0 rfl) ?_
  refine k_get hx hb hts uX4_draw_X4 hown hK hP 0 4 rfl rfl 2 (by decide) fX4_draw_20 (.ref Aw) rfl dX4_draw_1 ?_
  refine lv_iload_n hx hb dX4_draw_4 rfl (lv_at hl 1 rfl) ?_
  refine k_Vi (M_X3_holds l G cI cJ Aw wa wb wlo whi wtot p0 _ hw) ⟨hx, hb, hml, hown, hts⟩ (cwV 1 hts gX4_draw_X3_holds rfl rfl rfl (by decide +kernel) ⟨Nat.le_of_ble_eq_true rfl, Nat.le_of_ble_eq_true rfl⟩) hK hP hD hS hA [2] [0, 1, 3, 4, 5, 6, 7, 8, 9, 10, 11, 12, 13, 14, 15, 16, 17, 18, 19, 20, 21, 22] [0, 1, 22, 2, 3, 4, 5, 6, 7, 8, 9, 10, 11, 12, 13, 14, 15, 16, 17, 18, 19, 20, 21] (wr := [(Ax, .inr (4, [.ref Bx, .int rc, .ref Aw, .ref As, .ref Ag, .ref Ae, .ref Af, .int ans, .int rfc, .int rfb])), (Bx, .inl (cI, 60, .inl row)), (As, .inr (2, [.ref Asm, .ref Ast])), (Asm, .inr (1, [.ref Bsm, .int nsm])), (Bsm, .inl (cI, 64, .inl lsm)), (Ast, .inr (1, [.ref Bst, .int nst])), (Bst, .inl (cI, 64, .inl lst)), (Ag, .inr (0, [.ref Agu, .ref Agd])), (Agu, .inr (1, [.ref Bgu, .int ngu])), (Bgu, .inl (cI, 64, .inl lgu)), (Agd, .inr (1, [.ref Bgd, .int ngd])), (Bgd, .inl (cI, 64, .inl lgd)), (Ae, .inr (0, [.ref Aeu, .ref Aed])), (Aeu, .inr (1, [.ref Beu, .int neu])), (Beu, .inl (cI, 64, .inl leu)), (Aed, .inr (1, [.ref Bed, .int ned])), (Bed, .inl (cI, 64, .inl led)), (Af, .inr (0, [.ref Afu, .ref Afd])), (Afu, .inr (1, [.ref Bfu, .int nfu])), (Bfu, .inl (cI, 64, .inl lfu)), (Afd, .inr (1, [.ref Bfd, .int nfd])), (Bfd, .inl (cI, 64, .inl lfd))]) (wn := fun u : Unit => (wX4 cI cJ Ax Bx Aw As Asm Bsm Ast Bst Ag Agu Bgu Agd Bgd Ae Aeu Beu Aed Bed Af Afu Bfu Afd Bfd row rc wa wb wlo whi wtot lsm nsm lst nst lgu ngu lgd ngd leu neu led ned lfu nfu lfd nfd ans rfc rfb)) rfl rfl (by decide) (by decide) (by decide) (by decide) (fun _ => rfl) (rest := []) (q0 := 0) rfl rfl rfl hl.1 rfl (Nat.le_of_ble_eq_true rfl) (Nat.zero_le _) (Nat.zero_le _) dX4_draw_5 (fun r_1 u H locs hw hP hD hS => ?_)
  obtain ⟨hzr_1, hw⟩ := hw
  refine lv_if_eq (tgt := 22) hx hb dX4_draw_8 (by decide) (fun c_5 => ?_) (fun c_5 => ?_)
  · have hw := hw.1 c_5
    exact hthr _ _ _ _ hw hP hD hS hl.1 dX4_draw_22 dX4_draw_25 dX4_draw_26 dX4_draw_28 dX4_draw_31
  · have hw := hw.2 c_5
    refine lv_aload_n hx hb dX4_draw_11 rfl (lv_at hl 0 rfl) ?_
    refine k_get hx hb hts uX4_draw_X4 hown hK hP 0 4 rfl rfl 2 (by decide) fX4_draw_20 (.ref Aw) rfl dX4_draw_12 ?_
    refine lv_lload_n hx hb dX4_draw_15 rfl (lv_at hl 2 rfl) ?_
    refine k_Vi (M_X3_hasCoin l G cI cJ Aw wa wb wlo whi wtot p1 _ hw) ⟨hx, hb, hml, hown, hts⟩ (cwV 1 hts gX4_draw_X3_hasCoin rfl rfl rfl (by decide +kernel) ⟨Nat.le_of_ble_eq_true rfl, Nat.le_of_ble_eq_true rfl⟩) hK hP hD hS hA [2] [0, 1, 3, 4, 5, 6, 7, 8, 9, 10, 11, 12, 13, 14, 15, 16, 17, 18, 19, 20, 21, 22] [0, 1, 22, 2, 3, 4, 5, 6, 7, 8, 9, 10, 11, 12, 13, 14, 15, 16, 17, 18, 19, 20, 21] (wr := [(Ax, .inr (4, [.ref Bx, .int rc, .ref Aw, .ref As, .ref Ag, .ref Ae, .ref Af, .int ans, .int rfc, .int rfb])), (Bx, .inl (cI, 60, .inl row)), (As, .inr (2, [.ref Asm, .ref Ast])), (Asm, .inr (1, [.ref Bsm, .int nsm])), (Bsm, .inl (cI, 64, .inl lsm)), (Ast, .inr (1, [.ref Bst, .int nst])), (Bst, .inl (cI, 64, .inl lst)), (Ag, .inr (0, [.ref Agu, .ref Agd])), (Agu, .inr (1, [.ref Bgu, .int ngu])), (Bgu, .inl (cI, 64, .inl lgu)), (Agd, .inr (1, [.ref Bgd, .int ngd])), (Bgd, .inl (cI, 64, .inl lgd)), (Ae, .inr (0, [.ref Aeu, .ref Aed])), (Aeu, .inr (1, [.ref Beu, .int neu])), (Beu, .inl (cI, 64, .inl leu)), (Aed, .inr (1, [.ref Bed, .int ned])), (Bed, .inl (cI, 64, .inl led)), (Af, .inr (0, [.ref Afu, .ref Afd])), (Afu, .inr (1, [.ref Bfu, .int nfu])), (Bfu, .inl (cI, 64, .inl lfu)), (Afd, .inr (1, [.ref Bfd, .int nfd])), (Bfd, .inl (cI, 64, .inl lfd))]) (wn := fun u : Unit => (wX4 cI cJ Ax Bx Aw As Asm Bsm Ast Bst Ag Agu Bgu Agd Bgd Ae Aeu Beu Aed Bed Af Afu Bfu Afd Bfd row rc wa wb wlo whi wtot lsm nsm lst nst lgu ngu lgd ngd leu neu led ned lfu nfu lfd nfd ans rfc rfb)) rfl rfl (by decide) (by decide) (by decide) (by decide) (fun _ => rfl) (rest := []) (q0 := 0) rfl rfl rfl hl.1 rfl (Nat.le_of_ble_eq_true rfl) (Nat.zero_le _) (Nat.zero_le _) dX4_draw_16 (fun r_2 u H locs hw hP hD hS => ?_)
    obtain ⟨hzr_2, hw⟩ := hw
    refine lv_if_ne (tgt := 32) hx hb dX4_draw_19 (by decide) (fun c_4 => ?_) (fun c_4 => ?_)
    · have hw := hw.1 c_4
      refine lv_aload_n hx hb dX4_draw_32 rfl (lv_at hl 0 rfl) ?_
      refine k_get hx hb hts uX4_draw_X4 hown hK hP 0 4 rfl rfl 2 (by decide) fX4_draw_20 (.ref Aw) rfl dX4_draw_33 ?_
      refine lv_iload_n hx hb dX4_draw_36 rfl (lv_at hl 1 rfl) ?_
      refine lv_lload_n hx hb dX4_draw_37 rfl (lv_at hl 2 rfl) ?_
      refine k_Vi (M_X3_outcomeOf l G cI cJ Aw wa wb wlo whi wtot p0 p1 _ hw) ⟨hx, hb, hml, hown, hts⟩ (cwV 2 hts gX4_draw_X3_outcomeOf rfl rfl rfl (by decide +kernel) ⟨Nat.le_of_ble_eq_true rfl, Nat.le_of_ble_eq_true rfl⟩) hK hP hD hS hA [2] [0, 1, 3, 4, 5, 6, 7, 8, 9, 10, 11, 12, 13, 14, 15, 16, 17, 18, 19, 20, 21, 22] [0, 1, 22, 2, 3, 4, 5, 6, 7, 8, 9, 10, 11, 12, 13, 14, 15, 16, 17, 18, 19, 20, 21] (wr := [(Ax, .inr (4, [.ref Bx, .int rc, .ref Aw, .ref As, .ref Ag, .ref Ae, .ref Af, .int ans, .int rfc, .int rfb])), (Bx, .inl (cI, 60, .inl row)), (As, .inr (2, [.ref Asm, .ref Ast])), (Asm, .inr (1, [.ref Bsm, .int nsm])), (Bsm, .inl (cI, 64, .inl lsm)), (Ast, .inr (1, [.ref Bst, .int nst])), (Bst, .inl (cI, 64, .inl lst)), (Ag, .inr (0, [.ref Agu, .ref Agd])), (Agu, .inr (1, [.ref Bgu, .int ngu])), (Bgu, .inl (cI, 64, .inl lgu)), (Agd, .inr (1, [.ref Bgd, .int ngd])), (Bgd, .inl (cI, 64, .inl lgd)), (Ae, .inr (0, [.ref Aeu, .ref Aed])), (Aeu, .inr (1, [.ref Beu, .int neu])), (Beu, .inl (cI, 64, .inl leu)), (Aed, .inr (1, [.ref Bed, .int ned])), (Bed, .inl (cI, 64, .inl led)), (Af, .inr (0, [.ref Afu, .ref Afd])), (Afu, .inr (1, [.ref Bfu, .int nfu])), (Bfu, .inl (cI, 64, .inl lfu)), (Afd, .inr (1, [.ref Bfd, .int nfd])), (Bfd, .inl (cI, 64, .inl lfd))]) (wn := fun u : Unit => (wX4 cI cJ Ax Bx Aw As Asm Bsm Ast Bst Ag Agu Bgu Agd Bgd Ae Aeu Beu Aed Bed Af Afu Bfu Afd Bfd row rc wa wb wlo whi wtot lsm nsm lst nst lgu ngu lgd ngd leu neu led ned lfu nfu lfd nfd ans rfc rfb)) rfl rfl (by decide) (by decide) (by decide) (by decide) (fun _ => rfl) (rest := []) (q0 := 0) rfl rfl rfl hl.1 rfl (Nat.le_of_ble_eq_true rfl) (Nat.zero_le _) (Nat.zero_le _) dX4_draw_38 (fun r_3 u H locs hw hP hD hS => ?_)
      exact hret _ () _ _ _ _ hw hP hD hS dX4_draw_41
    · have hw := hw.2 c_4
      exact hthr _ _ _ _ hw hP hD hS hl.1 dX4_draw_22 dX4_draw_25 dX4_draw_26 dX4_draw_28 dX4_draw_31
theorem fX4_isNear_20 : Cond.fieldLink RX4 20 "PrivateCounts" "weights" "LPrivateCounts$Table;" ∈ wsX4_isNear := by decide +kernel
theorem uX4_isNear_X4 : ∀ w ∈ u_ws RX4 TX4 10, w ∈ wsX4_isNear := by decide +kernel
set_option maxHeartbeats 4000000 in
set_option maxRecDepth 100000 in
theorem M_X4_isNear (l : Launch) (hst : l.stackTraces = false) (sa : Nat → Nat) (G : va_G) (cI cJ : ClassId) (Ax Bx Aw As Asm Bsm Ast Bst Ag Agu Bgu Agd Bgd Ae Aeu Beu Aed Bed Af Afu Bfu Afd Bfd : Nat) (row : Nat → Int32) (rc : Int32) (wa : Int32) (wb : Int32) (wlo : Int32) (whi : Int32) (wtot : Int64) (lsm : Nat → Int32) (nsm : Int32) (lst : Nat → Int32) (nst : Int32) (lgu : Nat → Int32) (ngu : Int32) (lgd : Nat → Int32) (ngd : Int32) (leu : Nat → Int32) (neu : Int32) (led : Nat → Int32) (ned : Int32) (lfu : Nat → Int32) (nfu : Int32) (lfd : Nat → Int32) (nfd : Int32) (ans : Int32) (rfc : Int32) (rfb : Int32) (p0 : Int32) (p1 : Int32) (X : Prop) (Q : Int32 → Prop) (hw : w_X4_isNear wa wb wlo whi wtot p0 p1 X Q) : Kxi l yX4_isNear wsX4_isNear rm_X4_isNear xTx sa G cI cJ [.ref Ax, .int p0, .int p1] (wX4 cI cJ Ax Bx Aw As Asm Bsm Ast Bst Ag Agu Bgu Agd Bgd Ae Aeu Beu Aed Bed Af Afu Bfu Afd Bfd row rc wa wb wlo whi wtot lsm nsm lst nst lgu ngu lgd ngd leu neu led ned lfu nfu lfd nfd ans rfc rfb) (fun (r : Int32) (u : Unit) => wB r ∧ Q r) (fun u => (wX4 cI cJ Ax Bx Aw As Asm Bsm Ast Bst Ag Agu Bgu Agd Bgd Ae Aeu Beu Aed Bed Af Afu Bfu Afd Bfd row rc wa wb wlo whi wtot lsm nsm lst nst lgu ngu lgd ngd leu neu led ned lfu nfu lfd nfd ans rfc rfb)) "java/lang/IllegalArgumentException" X := by
  refine kxz_intro (cc := cX4_isNear) (maxL := 3) (E := "java/lang/IllegalArgumentException") (text := "x or y is out of the range") 64 98 68 hst (Nat.le_refl _) (Nat.le_refl _) (Nat.le_of_ble_eq_true rfl) (Nat.le_of_ble_eq_true rfl) (by decide) rfl rfl (Nat.le_of_ble_eq_true rfl) (by decide +kernel) (by decide +kernel) (by decide +kernel) (by decide +kernel) (by decide +kernel) (by decide +kernel) (by decide +kernel) ?_
  intro p e s m args below meth c A Z ls hx hb hml hts hown hP hK hD hS hA hl hret hthr
  have hl : lv_has ls 3 [(0, .ref Ax), (1, .int p0), (2, .int p1)] := hl
  unfold w_X4_isNear at hw
  refine lv_aload_n hx hb dX4_isNear_0 rfl (lv_at hl 0 rfl) ?_
  refine k_get hx hb hts uX4_isNear_X4 hown hK hP 0 4 rfl rfl 2 (by decide) fX4_isNear_20 (.ref Aw) rfl dX4_isNear_1 ?_
  refine lv_iload_n hx hb dX4_isNear_4 rfl (lv_at hl 1 rfl) ?_
  refine k_Vi (M_X3_holds l G cI cJ Aw wa wb wlo whi wtot p0 _ hw) ⟨hx, hb, hml, hown, hts⟩ (cwV 1 hts gX4_isNear_X3_holds rfl rfl rfl (by decide +kernel) ⟨Nat.le_of_ble_eq_true rfl, Nat.le_of_ble_eq_true rfl⟩) hK hP hD hS hA [2] [0, 1, 3, 4, 5, 6, 7, 8, 9, 10, 11, 12, 13, 14, 15, 16, 17, 18, 19, 20, 21, 22] [0, 1, 22, 2, 3, 4, 5, 6, 7, 8, 9, 10, 11, 12, 13, 14, 15, 16, 17, 18, 19, 20, 21] (wr := [(Ax, .inr (4, [.ref Bx, .int rc, .ref Aw, .ref As, .ref Ag, .ref Ae, .ref Af, .int ans, .int rfc, .int rfb])), (Bx, .inl (cI, 60, .inl row)), (As, .inr (2, [.ref Asm, .ref Ast])), (Asm, .inr (1, [.ref Bsm, .int nsm])), (Bsm, .inl (cI, 64, .inl lsm)), (Ast, .inr (1, [.ref Bst, .int nst])), (Bst, .inl (cI, 64, .inl lst)), (Ag, .inr (0, [.ref Agu, .ref Agd])), (Agu, .inr (1, [.ref Bgu, .int ngu])), (Bgu, .inl (cI, 64, .inl lgu)), (Agd, .inr (1, [.ref Bgd, .int ngd])), (Bgd, .inl (cI, 64, .inl lgd)), (Ae, .inr (0, [.ref Aeu, .ref Aed])), (Aeu, .inr (1, [.ref Beu, .int neu])), (Beu, .inl (cI, 64, .inl leu)), (Aed, .inr (1, [.ref Bed, .int ned])), (Bed, .inl (cI, 64, .inl led)), (Af, .inr (0, [.ref Afu, .ref Afd])), (Afu, .inr (1, [.ref Bfu, .int nfu])), (Bfu, .inl (cI, 64, .inl lfu)), (Afd, .inr (1, [.ref Bfd, .int nfd])), (Bfd, .inl (cI, 64, .inl lfd))]) (wn := fun u : Unit => (wX4 cI cJ Ax Bx Aw As Asm Bsm Ast Bst Ag Agu Bgu Agd Bgd Ae Aeu Beu Aed Bed Af Afu Bfu Afd Bfd row rc wa wb wlo whi wtot lsm nsm lst nst lgu ngu lgd ngd leu neu led ned lfu nfu lfd nfd ans rfc rfb)) rfl rfl (by decide) (by decide) (by decide) (by decide) (fun _ => rfl) (rest := []) (q0 := 0) rfl rfl rfl hl.1 rfl (Nat.le_of_ble_eq_true rfl) (Nat.zero_le _) (Nat.zero_le _) dX4_isNear_5 (fun r_1 u H locs hw hP hD hS => ?_)
  obtain ⟨hzr_1, hw⟩ := hw
  refine lv_if_eq (tgt := 22) hx hb dX4_isNear_8 (by decide) (fun c_5 => ?_) (fun c_5 => ?_)
  · have hw := hw.1 c_5
    exact hthr _ _ _ _ hw hP hD hS hl.1 dX4_isNear_22 dX4_isNear_25 dX4_isNear_26 dX4_isNear_28 dX4_isNear_31
  · have hw := hw.2 c_5
    refine lv_aload_n hx hb dX4_isNear_11 rfl (lv_at hl 0 rfl) ?_
    refine k_get hx hb hts uX4_isNear_X4 hown hK hP 0 4 rfl rfl 2 (by decide) fX4_isNear_20 (.ref Aw) rfl dX4_isNear_12 ?_
    refine lv_iload_n hx hb dX4_isNear_15 rfl (lv_at hl 2 rfl) ?_
    refine k_Vi (M_X3_holds l G cI cJ Aw wa wb wlo whi wtot p1 _ hw) ⟨hx, hb, hml, hown, hts⟩ (cwV 1 hts gX4_isNear_X3_holds rfl rfl rfl (by decide +kernel) ⟨Nat.le_of_ble_eq_true rfl, Nat.le_of_ble_eq_true rfl⟩) hK hP hD hS hA [2] [0, 1, 3, 4, 5, 6, 7, 8, 9, 10, 11, 12, 13, 14, 15, 16, 17, 18, 19, 20, 21, 22] [0, 1, 22, 2, 3, 4, 5, 6, 7, 8, 9, 10, 11, 12, 13, 14, 15, 16, 17, 18, 19, 20, 21] (wr := [(Ax, .inr (4, [.ref Bx, .int rc, .ref Aw, .ref As, .ref Ag, .ref Ae, .ref Af, .int ans, .int rfc, .int rfb])), (Bx, .inl (cI, 60, .inl row)), (As, .inr (2, [.ref Asm, .ref Ast])), (Asm, .inr (1, [.ref Bsm, .int nsm])), (Bsm, .inl (cI, 64, .inl lsm)), (Ast, .inr (1, [.ref Bst, .int nst])), (Bst, .inl (cI, 64, .inl lst)), (Ag, .inr (0, [.ref Agu, .ref Agd])), (Agu, .inr (1, [.ref Bgu, .int ngu])), (Bgu, .inl (cI, 64, .inl lgu)), (Agd, .inr (1, [.ref Bgd, .int ngd])), (Bgd, .inl (cI, 64, .inl lgd)), (Ae, .inr (0, [.ref Aeu, .ref Aed])), (Aeu, .inr (1, [.ref Beu, .int neu])), (Beu, .inl (cI, 64, .inl leu)), (Aed, .inr (1, [.ref Bed, .int ned])), (Bed, .inl (cI, 64, .inl led)), (Af, .inr (0, [.ref Afu, .ref Afd])), (Afu, .inr (1, [.ref Bfu, .int nfu])), (Bfu, .inl (cI, 64, .inl lfu)), (Afd, .inr (1, [.ref Bfd, .int nfd])), (Bfd, .inl (cI, 64, .inl lfd))]) (wn := fun u : Unit => (wX4 cI cJ Ax Bx Aw As Asm Bsm Ast Bst Ag Agu Bgu Agd Bgd Ae Aeu Beu Aed Bed Af Afu Bfu Afd Bfd row rc wa wb wlo whi wtot lsm nsm lst nst lgu ngu lgd ngd leu neu led ned lfu nfu lfd nfd ans rfc rfb)) rfl rfl (by decide) (by decide) (by decide) (by decide) (fun _ => rfl) (rest := []) (q0 := 0) rfl rfl rfl hl.1 rfl (Nat.le_of_ble_eq_true rfl) (Nat.zero_le _) (Nat.zero_le _) dX4_isNear_16 (fun r_2 u H locs hw hP hD hS => ?_)
    obtain ⟨hzr_2, hw⟩ := hw
    refine lv_if_ne (tgt := 32) hx hb dX4_isNear_19 (by decide) (fun c_4 => ?_) (fun c_4 => ?_)
    · have hw := hw.1 c_4
      refine lv_aload_n hx hb dX4_isNear_32 rfl (lv_at hl 0 rfl) ?_
      refine k_get hx hb hts uX4_isNear_X4 hown hK hP 0 4 rfl rfl 2 (by decide) fX4_isNear_20 (.ref Aw) rfl dX4_isNear_33 ?_
      refine lv_iload_n hx hb dX4_isNear_36 rfl (lv_at hl 1 rfl) ?_
      refine lv_iload_n hx hb dX4_isNear_37 rfl (lv_at hl 2 rfl) ?_
      refine k_Vi (M_X3_isWithinRatio l G cI cJ Aw wa wb wlo whi wtot p0 p1 _ hw) ⟨hx, hb, hml, hown, hts⟩ (cwV 2 hts gX4_isNear_X3_isWithinRatio rfl rfl rfl (by decide +kernel) ⟨Nat.le_of_ble_eq_true rfl, Nat.le_of_ble_eq_true rfl⟩) hK hP hD hS hA [2] [0, 1, 3, 4, 5, 6, 7, 8, 9, 10, 11, 12, 13, 14, 15, 16, 17, 18, 19, 20, 21, 22] [0, 1, 22, 2, 3, 4, 5, 6, 7, 8, 9, 10, 11, 12, 13, 14, 15, 16, 17, 18, 19, 20, 21] (wr := [(Ax, .inr (4, [.ref Bx, .int rc, .ref Aw, .ref As, .ref Ag, .ref Ae, .ref Af, .int ans, .int rfc, .int rfb])), (Bx, .inl (cI, 60, .inl row)), (As, .inr (2, [.ref Asm, .ref Ast])), (Asm, .inr (1, [.ref Bsm, .int nsm])), (Bsm, .inl (cI, 64, .inl lsm)), (Ast, .inr (1, [.ref Bst, .int nst])), (Bst, .inl (cI, 64, .inl lst)), (Ag, .inr (0, [.ref Agu, .ref Agd])), (Agu, .inr (1, [.ref Bgu, .int ngu])), (Bgu, .inl (cI, 64, .inl lgu)), (Agd, .inr (1, [.ref Bgd, .int ngd])), (Bgd, .inl (cI, 64, .inl lgd)), (Ae, .inr (0, [.ref Aeu, .ref Aed])), (Aeu, .inr (1, [.ref Beu, .int neu])), (Beu, .inl (cI, 64, .inl leu)), (Aed, .inr (1, [.ref Bed, .int ned])), (Bed, .inl (cI, 64, .inl led)), (Af, .inr (0, [.ref Afu, .ref Afd])), (Afu, .inr (1, [.ref Bfu, .int nfu])), (Bfu, .inl (cI, 64, .inl lfu)), (Afd, .inr (1, [.ref Bfd, .int nfd])), (Bfd, .inl (cI, 64, .inl lfd))]) (wn := fun u : Unit => (wX4 cI cJ Ax Bx Aw As Asm Bsm Ast Bst Ag Agu Bgu Agd Bgd Ae Aeu Beu Aed Bed Af Afu Bfu Afd Bfd row rc wa wb wlo whi wtot lsm nsm lst nst lgu ngu lgd ngd leu neu led ned lfu nfu lfd nfd ans rfc rfb)) rfl rfl (by decide) (by decide) (by decide) (by decide) (fun _ => rfl) (rest := []) (q0 := 0) rfl rfl rfl hl.1 rfl (Nat.le_of_ble_eq_true rfl) (Nat.zero_le _) (Nat.zero_le _) dX4_isNear_38 (fun r_3 u H locs hw hP hD hS => ?_)
      obtain ⟨hzr_3, hw⟩ := hw
      exact hret _ () _ _ _ _ hzr_3 hw hP hD hS dX4_isNear_41
    · have hw := hw.2 c_4
      exact hthr _ _ _ _ hw hP hD hS hl.1 dX4_isNear_22 dX4_isNear_25 dX4_isNear_26 dX4_isNear_28 dX4_isNear_31
theorem fX4_budget_34 : Cond.fieldLink RX4 34 "PrivateCounts" "granted" "LPrivateCounts$Fraction;" ∈ wsX4_budget := by decide +kernel
theorem uX4_budget_X4 : ∀ w ∈ u_ws RX4 TX4 10, w ∈ wsX4_budget := by decide +kernel
theorem fX4_budget_38 : Cond.fieldLink RX4 38 "PrivateCounts" "spent" "LPrivateCounts$Fraction;" ∈ wsX4_budget := by decide +kernel
theorem fX4_budget_41 : Cond.fieldLink RX4 41 "PrivateCounts" "left" "LPrivateCounts$Fraction;" ∈ wsX4_budget := by decide +kernel
theorem fX4_budget_44 : Cond.fieldLink RX4 44 "PrivateCounts" "answered" "I" ∈ wsX4_budget := by decide +kernel
theorem fX4_budget_47 : Cond.fieldLink RX4 47 "PrivateCounts" "refusedForCost" "I" ∈ wsX4_budget := by decide +kernel
theorem fX4_budget_50 : Cond.fieldLink RX4 50 "PrivateCounts" "refusedForBudget" "I" ∈ wsX4_budget := by decide +kernel
set_option maxHeartbeats 4000000 in
set_option maxRecDepth 100000 in
theorem M_X4_budget (l : Launch) (hst : l.stackTraces = false) (sa : Nat → Nat) (G : va_G) (cI cJ : ClassId) (Ax Bx Aw As Asm Bsm Ast Bst Ag Agu Bgu Agd Bgd Ae Aeu Beu Aed Bed Af Afu Bfu Afd Bfd : Nat) (row : Nat → Int32) (rc : Int32) (wa : Int32) (wb : Int32) (wlo : Int32) (whi : Int32) (wtot : Int64) (lsm : Nat → Int32) (nsm : Int32) (lst : Nat → Int32) (nst : Int32) (lgu : Nat → Int32) (ngu : Int32) (lgd : Nat → Int32) (ngd : Int32) (leu : Nat → Int32) (neu : Int32) (led : Nat → Int32) (ned : Int32) (lfu : Nat → Int32) (nfu : Int32) (lfd : Nat → Int32) (nfd : Int32) (ans : Int32) (rfc : Int32) (rfb : Int32) (p0 : Int32) (p1 : Int32) (X : Prop) (Q : (Nat → Int32) → Int32 → (Nat → Int32) → Int32 → (Nat → Int32) → Int32 → (Nat → Int32) → Int32 → (Nat → Int32) → Int32 → (Nat → Int32) → Int32 → Int32 → Int32 → Int32 → Prop) (hw : w_X4_budget lgu ngu lgd ngd leu neu led ned lfu nfu lfd nfd ans rfc rfb p0 p1 X Q) : Kxv l yX4_budget wsX4_budget rm_X4_budget xTx sa G cI cJ [.ref Ax, .int p0, .int p1] (wX4 cI cJ Ax Bx Aw As Asm Bsm Ast Bst Ag Agu Bgu Agd Bgd Ae Aeu Beu Aed Bed Af Afu Bfu Afd Bfd row rc wa wb wlo whi wtot lsm nsm lst nst lgu ngu lgd ngd leu neu led ned lfu nfu lfd nfd ans rfc rfb) (fun (u : (Nat → Int32) × (Int32) × (Nat → Int32) × (Int32) × (Nat → Int32) × (Int32) × (Nat → Int32) × (Int32) × (Nat → Int32) × (Int32) × (Nat → Int32) × (Int32) × (Int32) × (Int32) × (Int32)) => Q u.1 u.2.1 u.2.2.1 u.2.2.2.1 u.2.2.2.2.1 u.2.2.2.2.2.1 u.2.2.2.2.2.2.1 u.2.2.2.2.2.2.2.1 u.2.2.2.2.2.2.2.2.1 u.2.2.2.2.2.2.2.2.2.1 u.2.2.2.2.2.2.2.2.2.2.1 u.2.2.2.2.2.2.2.2.2.2.2.1 u.2.2.2.2.2.2.2.2.2.2.2.2.1 u.2.2.2.2.2.2.2.2.2.2.2.2.2.1 u.2.2.2.2.2.2.2.2.2.2.2.2.2.2) (fun u => (wX4 cI cJ Ax Bx Aw As Asm Bsm Ast Bst Ag Agu Bgu Agd Bgd Ae Aeu Beu Aed Bed Af Afu Bfu Afd Bfd row rc wa wb wlo whi wtot lsm nsm lst nst u.1 u.2.1 u.2.2.1 u.2.2.2.1 u.2.2.2.2.1 u.2.2.2.2.2.1 u.2.2.2.2.2.2.1 u.2.2.2.2.2.2.2.1 u.2.2.2.2.2.2.2.2.1 u.2.2.2.2.2.2.2.2.2.1 u.2.2.2.2.2.2.2.2.2.2.1 u.2.2.2.2.2.2.2.2.2.2.2.1 u.2.2.2.2.2.2.2.2.2.2.2.2.1 u.2.2.2.2.2.2.2.2.2.2.2.2.2.1 u.2.2.2.2.2.2.2.2.2.2.2.2.2.2)) "java/lang/IllegalArgumentException" X := by
  refine kxv_intro (cc := cX4_budget) (maxL := 3) (E := "java/lang/IllegalArgumentException") (text := "num is below 0, or den not 1 to 1000") 64 107 68 hst (Nat.le_refl _) (Nat.le_refl _) (Nat.le_of_ble_eq_true rfl) (Nat.le_of_ble_eq_true rfl) (by decide) rfl rfl (Nat.le_of_ble_eq_true rfl) (by decide +kernel) (by decide +kernel) (by decide +kernel) (by decide +kernel) (by decide +kernel) (by decide +kernel) (by decide +kernel) ?_
  intro p e s m args below meth c A Z ls hx hb hml hts hown hP hK hD hS hA hl hret hthr
  have hl : lv_has ls 3 [(0, .ref Ax), (1, .int p0), (2, .int p1)] := hl
  unfold w_X4_budget at hw
  refine lv_iload_n hx hb dX4_budget_0 rfl (lv_at hl 1 rfl) ?_
  refine lv_iload_n hx hb dX4_budget_1 rfl (lv_at hl 2 rfl) ?_
  refine k_Si (M_X4_isGrant l G cI cJ p0 p1 _ hw) ⟨hx, hb, hml, hown, hts⟩ (va_cwS 2 hts gX4_budget_X4_isGrant rfl rfl rfl (by decide +kernel) ⟨Nat.le_of_ble_eq_true rfl, Nat.le_of_ble_eq_true rfl⟩) hK hP hD hS hA [] [0, 1, 2, 3, 4, 5, 6, 7, 8, 9, 10, 11, 12, 13, 14, 15, 16, 17, 18, 19, 20, 21, 22] [0, 1, 2, 3, 4, 5, 6, 7, 8, 9, 10, 11, 12, 13, 14, 15, 16, 17, 18, 19, 20, 21, 22] (wr := [(Ax, .inr (4, [.ref Bx, .int rc, .ref Aw, .ref As, .ref Ag, .ref Ae, .ref Af, .int ans, .int rfc, .int rfb])), (Bx, .inl (cI, 60, .inl row)), (Aw, .inr (3, [.int wa, .int wb, .int wlo, .int whi, .long wtot])), (As, .inr (2, [.ref Asm, .ref Ast])), (Asm, .inr (1, [.ref Bsm, .int nsm])), (Bsm, .inl (cI, 64, .inl lsm)), (Ast, .inr (1, [.ref Bst, .int nst])), (Bst, .inl (cI, 64, .inl lst)), (Ag, .inr (0, [.ref Agu, .ref Agd])), (Agu, .inr (1, [.ref Bgu, .int ngu])), (Bgu, .inl (cI, 64, .inl lgu)), (Agd, .inr (1, [.ref Bgd, .int ngd])), (Bgd, .inl (cI, 64, .inl lgd)), (Ae, .inr (0, [.ref Aeu, .ref Aed])), (Aeu, .inr (1, [.ref Beu, .int neu])), (Beu, .inl (cI, 64, .inl leu)), (Aed, .inr (1, [.ref Bed, .int ned])), (Bed, .inl (cI, 64, .inl led)), (Af, .inr (0, [.ref Afu, .ref Afd])), (Afu, .inr (1, [.ref Bfu, .int nfu])), (Bfu, .inl (cI, 64, .inl lfu)), (Afd, .inr (1, [.ref Bfd, .int nfd])), (Bfd, .inl (cI, 64, .inl lfd))]) (wn := fun u : Unit => (wX4 cI cJ Ax Bx Aw As Asm Bsm Ast Bst Ag Agu Bgu Agd Bgd Ae Aeu Beu Aed Bed Af Afu Bfu Afd Bfd row rc wa wb wlo whi wtot lsm nsm lst nst lgu ngu lgd ngd leu neu led ned lfu nfu lfd nfd ans rfc rfb)) rfl rfl (by decide) (by decide) (by decide) (by decide) (fun _ => rfl) (rest := []) rfl hl.1 rfl (Nat.le_of_ble_eq_true rfl) (Nat.zero_le _) (Nat.zero_le _) dX4_budget_2 (fun r_1 u H locs hw hP hD hS => ?_)
  obtain ⟨hzr_1, hw⟩ := hw
  refine lv_if_ne (tgt := 18) hx hb dX4_budget_5 (by decide) (fun c_14 => ?_) (fun c_14 => ?_)
  · have hw := hw.1 c_14
    refine lv_aload_n hx hb dX4_budget_18 rfl (lv_at hl 0 rfl) ?_
    refine k_get hx hb hts uX4_budget_X4 hown hK hP 0 4 rfl rfl 4 (by decide) fX4_budget_34 (.ref Ag) rfl dX4_budget_19 ?_
    refine lv_iload_n hx hb dX4_budget_22 rfl (lv_at hl 1 rfl) ?_
    refine lv_iload_n hx hb dX4_budget_23 rfl (lv_at hl 2 rfl) ?_
    refine k_Vv (M_X0_become l G cI cJ Ag Agu Bgu Agd Bgd lgu ngu lgd ngd p0 p1 _ hw) ⟨hx, hb, hml, hown, hts⟩ (cwV 2 hts gX4_budget_X0_become rfl rfl rfl (by decide +kernel) ⟨Nat.le_of_ble_eq_true rfl, Nat.le_of_ble_eq_true rfl⟩) hK hP hD hS hA [8, 9, 10, 11, 12] [0, 1, 2, 3, 4, 5, 6, 7, 13, 14, 15, 16, 17, 18, 19, 20, 21, 22] [0, 1, 2, 3, 4, 5, 6, 7, 18, 19, 20, 21, 22, 8, 9, 10, 11, 12, 13, 14, 15, 16, 17] (wr := [(Ax, .inr (4, [.ref Bx, .int rc, .ref Aw, .ref As, .ref Ag, .ref Ae, .ref Af, .int ans, .int rfc, .int rfb])), (Bx, .inl (cI, 60, .inl row)), (Aw, .inr (3, [.int wa, .int wb, .int wlo, .int whi, .long wtot])), (As, .inr (2, [.ref Asm, .ref Ast])), (Asm, .inr (1, [.ref Bsm, .int nsm])), (Bsm, .inl (cI, 64, .inl lsm)), (Ast, .inr (1, [.ref Bst, .int nst])), (Bst, .inl (cI, 64, .inl lst)), (Ae, .inr (0, [.ref Aeu, .ref Aed])), (Aeu, .inr (1, [.ref Beu, .int neu])), (Beu, .inl (cI, 64, .inl leu)), (Aed, .inr (1, [.ref Bed, .int ned])), (Bed, .inl (cI, 64, .inl led)), (Af, .inr (0, [.ref Afu, .ref Afd])), (Afu, .inr (1, [.ref Bfu, .int nfu])), (Bfu, .inl (cI, 64, .inl lfu)), (Afd, .inr (1, [.ref Bfd, .int nfd])), (Bfd, .inl (cI, 64, .inl lfd))]) (wn := fun u : (Nat → Int32) × (Int32) × (Nat → Int32) × (Int32) => (wX4 cI cJ Ax Bx Aw As Asm Bsm Ast Bst Ag Agu Bgu Agd Bgd Ae Aeu Beu Aed Bed Af Afu Bfu Afd Bfd row rc wa wb wlo whi wtot lsm nsm lst nst u.1 u.2.1 u.2.2.1 u.2.2.2 leu neu led ned lfu nfu lfd nfd ans rfc rfb)) rfl rfl (by decide) (by decide) (by decide) (by decide) (fun _ => rfl) (rest := []) (q0 := 0) rfl rfl rfl hl.1 rfl (Nat.le_of_ble_eq_true rfl) (Nat.zero_le _) (Nat.zero_le _) dX4_budget_24 (fun u H locs hw hP hD hS => ?_)
    obtain ⟨lgu_2, ngu_3, lgd_4, ngd_5⟩ := u
    have hP : va_P G vwCl (wX4 cI cJ Ax Bx Aw As Asm Bsm Ast Bst Ag Agu Bgu Agd Bgd Ae Aeu Beu Aed Bed Af Afu Bfu Afd Bfd row rc wa wb wlo whi wtot lsm nsm lst nst lgu_2 ngu_3 lgd_4 ngd_5 leu neu led ned lfu nfu lfd nfd ans rfc rfb) H := hP
    have hD : va_D A (wX4 cI cJ Ax Bx Aw As Asm Bsm Ast Bst Ag Agu Bgu Agd Bgd Ae Aeu Beu Aed Bed Af Afu Bfu Afd Bfd row rc wa wb wlo whi wtot lsm nsm lst nst lgu_2 ngu_3 lgd_4 ngd_5 leu neu led ned lfu nfu lfd nfd ans rfc rfb) := hD
    refine lv_aload_n hx hb dX4_budget_27 rfl (lv_at hl 0 rfl) ?_
    refine k_get hx hb hts uX4_budget_X4 hown hK hP 0 4 rfl rfl 5 (by decide) fX4_budget_38 (.ref Ae) rfl dX4_budget_28 ?_
    refine lv_iconst (v := 0) hx hb dX4_budget_31 (by decide) ?_
    refine lv_iconst (v := 1) hx hb dX4_budget_32 (by decide) ?_
    refine k_Vv (M_X0_become l G cI cJ Ae Aeu Beu Aed Bed leu neu led ned (0 : Int32) (1 : Int32) _ hw) ⟨hx, hb, hml, hown, hts⟩ (cwV 2 hts gX4_budget_X0_become rfl rfl rfl (by decide +kernel) ⟨Nat.le_of_ble_eq_true rfl, Nat.le_of_ble_eq_true rfl⟩) hK hP hD hS hA [13, 14, 15, 16, 17] [0, 1, 2, 3, 4, 5, 6, 7, 8, 9, 10, 11, 12, 18, 19, 20, 21, 22] [0, 1, 2, 3, 4, 5, 6, 7, 8, 9, 10, 11, 12, 18, 19, 20, 21, 22, 13, 14, 15, 16, 17] (wr := [(Ax, .inr (4, [.ref Bx, .int rc, .ref Aw, .ref As, .ref Ag, .ref Ae, .ref Af, .int ans, .int rfc, .int rfb])), (Bx, .inl (cI, 60, .inl row)), (Aw, .inr (3, [.int wa, .int wb, .int wlo, .int whi, .long wtot])), (As, .inr (2, [.ref Asm, .ref Ast])), (Asm, .inr (1, [.ref Bsm, .int nsm])), (Bsm, .inl (cI, 64, .inl lsm)), (Ast, .inr (1, [.ref Bst, .int nst])), (Bst, .inl (cI, 64, .inl lst)), (Ag, .inr (0, [.ref Agu, .ref Agd])), (Agu, .inr (1, [.ref Bgu, .int ngu_3])), (Bgu, .inl (cI, 64, .inl lgu_2)), (Agd, .inr (1, [.ref Bgd, .int ngd_5])), (Bgd, .inl (cI, 64, .inl lgd_4)), (Af, .inr (0, [.ref Afu, .ref Afd])), (Afu, .inr (1, [.ref Bfu, .int nfu])), (Bfu, .inl (cI, 64, .inl lfu)), (Afd, .inr (1, [.ref Bfd, .int nfd])), (Bfd, .inl (cI, 64, .inl lfd))]) (wn := fun u : (Nat → Int32) × (Int32) × (Nat → Int32) × (Int32) => (wX4 cI cJ Ax Bx Aw As Asm Bsm Ast Bst Ag Agu Bgu Agd Bgd Ae Aeu Beu Aed Bed Af Afu Bfu Afd Bfd row rc wa wb wlo whi wtot lsm nsm lst nst lgu_2 ngu_3 lgd_4 ngd_5 u.1 u.2.1 u.2.2.1 u.2.2.2 lfu nfu lfd nfd ans rfc rfb)) rfl rfl (by decide) (by decide) (by decide) (by decide) (fun _ => rfl) (rest := []) (q0 := 0) rfl rfl rfl hl.1 rfl (Nat.le_of_ble_eq_true rfl) (Nat.zero_le _) (Nat.zero_le _) dX4_budget_33 (fun u H locs hw hP hD hS => ?_)
    obtain ⟨leu_6, neu_7, led_8, ned_9⟩ := u
    have hP : va_P G vwCl (wX4 cI cJ Ax Bx Aw As Asm Bsm Ast Bst Ag Agu Bgu Agd Bgd Ae Aeu Beu Aed Bed Af Afu Bfu Afd Bfd row rc wa wb wlo whi wtot lsm nsm lst nst lgu_2 ngu_3 lgd_4 ngd_5 leu_6 neu_7 led_8 ned_9 lfu nfu lfd nfd ans rfc rfb) H := hP
    have hD : va_D A (wX4 cI cJ Ax Bx Aw As Asm Bsm Ast Bst Ag Agu Bgu Agd Bgd Ae Aeu Beu Aed Bed Af Afu Bfu Afd Bfd row rc wa wb wlo whi wtot lsm nsm lst nst lgu_2 ngu_3 lgd_4 ngd_5 leu_6 neu_7 led_8 ned_9 lfu nfu lfd nfd ans rfc rfb) := hD
    refine lv_aload_n hx hb dX4_budget_36 rfl (lv_at hl 0 rfl) ?_
    refine k_get hx hb hts uX4_budget_X4 hown hK hP 0 4 rfl rfl 6 (by decide) fX4_budget_41 (.ref Af) rfl dX4_budget_37 ?_
    refine lv_iload_n hx hb dX4_budget_40 rfl (lv_at hl 1 rfl) ?_
    refine lv_iload_n hx hb dX4_budget_41 rfl (lv_at hl 2 rfl) ?_
    refine k_Vv (M_X0_become l G cI cJ Af Afu Bfu Afd Bfd lfu nfu lfd nfd p0 p1 _ hw) ⟨hx, hb, hml, hown, hts⟩ (cwV 2 hts gX4_budget_X0_become rfl rfl rfl (by decide +kernel) ⟨Nat.le_of_ble_eq_true rfl, Nat.le_of_ble_eq_true rfl⟩) hK hP hD hS hA [18, 19, 20, 21, 22] [0, 1, 2, 3, 4, 5, 6, 7, 8, 9, 10, 11, 12, 13, 14, 15, 16, 17] [0, 1, 2, 3, 4, 5, 6, 7, 8, 9, 10, 11, 12, 13, 14, 15, 16, 17, 18, 19, 20, 21, 22] (wr := [(Ax, .inr (4, [.ref Bx, .int rc, .ref Aw, .ref As, .ref Ag, .ref Ae, .ref Af, .int ans, .int rfc, .int rfb])), (Bx, .inl (cI, 60, .inl row)), (Aw, .inr (3, [.int wa, .int wb, .int wlo, .int whi, .long wtot])), (As, .inr (2, [.ref Asm, .ref Ast])), (Asm, .inr (1, [.ref Bsm, .int nsm])), (Bsm, .inl (cI, 64, .inl lsm)), (Ast, .inr (1, [.ref Bst, .int nst])), (Bst, .inl (cI, 64, .inl lst)), (Ag, .inr (0, [.ref Agu, .ref Agd])), (Agu, .inr (1, [.ref Bgu, .int ngu_3])), (Bgu, .inl (cI, 64, .inl lgu_2)), (Agd, .inr (1, [.ref Bgd, .int ngd_5])), (Bgd, .inl (cI, 64, .inl lgd_4)), (Ae, .inr (0, [.ref Aeu, .ref Aed])), (Aeu, .inr (1, [.ref Beu, .int neu_7])), (Beu, .inl (cI, 64, .inl leu_6)), (Aed, .inr (1, [.ref Bed, .int ned_9])), (Bed, .inl (cI, 64, .inl led_8))]) (wn := fun u : (Nat → Int32) × (Int32) × (Nat → Int32) × (Int32) => (wX4 cI cJ Ax Bx Aw As Asm Bsm Ast Bst Ag Agu Bgu Agd Bgd Ae Aeu Beu Aed Bed Af Afu Bfu Afd Bfd row rc wa wb wlo whi wtot lsm nsm lst nst lgu_2 ngu_3 lgd_4 ngd_5 leu_6 neu_7 led_8 ned_9 u.1 u.2.1 u.2.2.1 u.2.2.2 ans rfc rfb)) rfl rfl (by decide) (by decide) (by decide) (by decide) (fun _ => rfl) (rest := []) (q0 := 0) rfl rfl rfl hl.1 rfl (Nat.le_of_ble_eq_true rfl) (Nat.zero_le _) (Nat.zero_le _) dX4_budget_42 (fun u H locs hw hP hD hS => ?_)
    obtain ⟨lfu_10, nfu_11, lfd_12, nfd_13⟩ := u
    have hP : va_P G vwCl (wX4 cI cJ Ax Bx Aw As Asm Bsm Ast Bst Ag Agu Bgu Agd Bgd Ae Aeu Beu Aed Bed Af Afu Bfu Afd Bfd row rc wa wb wlo whi wtot lsm nsm lst nst lgu_2 ngu_3 lgd_4 ngd_5 leu_6 neu_7 led_8 ned_9 lfu_10 nfu_11 lfd_12 nfd_13 ans rfc rfb) H := hP
    have hD : va_D A (wX4 cI cJ Ax Bx Aw As Asm Bsm Ast Bst Ag Agu Bgu Agd Bgd Ae Aeu Beu Aed Bed Af Afu Bfu Afd Bfd row rc wa wb wlo whi wtot lsm nsm lst nst lgu_2 ngu_3 lgd_4 ngd_5 leu_6 neu_7 led_8 ned_9 lfu_10 nfu_11 lfd_12 nfd_13 ans rfc rfb) := hD
    refine lv_aload_n hx hb dX4_budget_45 rfl (lv_at hl 0 rfl) ?_
    refine lv_iconst (v := 0) hx hb dX4_budget_46 (by decide) ?_
    refine k_put hx hb hts uX4_budget_X4 tyX4 tyX4_ok nmX4 hown hK hP hD hS 0 4 rfl rfl 7 (by decide) fX4_budget_44 rfl rfl rfl (Nat.le_of_ble_eq_true rfl) (w' := (wX4 cI cJ Ax Bx Aw As Asm Bsm Ast Bst Ag Agu Bgu Agd Bgd Ae Aeu Beu Aed Bed Af Afu Bfu Afd Bfd row rc wa wb wlo whi wtot lsm nsm lst nst lgu_2 ngu_3 lgd_4 ngd_5 leu_6 neu_7 led_8 ned_9 lfu_10 nfu_11 lfd_12 nfd_13 0 rfc rfb)) rfl dX4_budget_47 (fun H locs hP hD hS => ?_)
    refine lv_aload_n hx hb dX4_budget_50 rfl (lv_at hl 0 rfl) ?_
    refine lv_iconst (v := 0) hx hb dX4_budget_51 (by decide) ?_
    refine k_put hx hb hts uX4_budget_X4 tyX4 tyX4_ok nmX4 hown hK hP hD hS 0 4 rfl rfl 8 (by decide) fX4_budget_47 rfl rfl rfl (Nat.le_of_ble_eq_true rfl) (w' := (wX4 cI cJ Ax Bx Aw As Asm Bsm Ast Bst Ag Agu Bgu Agd Bgd Ae Aeu Beu Aed Bed Af Afu Bfu Afd Bfd row rc wa wb wlo whi wtot lsm nsm lst nst lgu_2 ngu_3 lgd_4 ngd_5 leu_6 neu_7 led_8 ned_9 lfu_10 nfu_11 lfd_12 nfd_13 0 0 rfb)) rfl dX4_budget_52 (fun H locs hP hD hS => ?_)
    refine lv_aload_n hx hb dX4_budget_55 rfl (lv_at hl 0 rfl) ?_
    refine lv_iconst (v := 0) hx hb dX4_budget_56 (by decide) ?_
    refine k_put hx hb hts uX4_budget_X4 tyX4 tyX4_ok nmX4 hown hK hP hD hS 0 4 rfl rfl 9 (by decide) fX4_budget_50 rfl rfl rfl (Nat.le_of_ble_eq_true rfl) (w' := (wX4 cI cJ Ax Bx Aw As Asm Bsm Ast Bst Ag Agu Bgu Agd Bgd Ae Aeu Beu Aed Bed Af Afu Bfu Afd Bfd row rc wa wb wlo whi wtot lsm nsm lst nst lgu_2 ngu_3 lgd_4 ngd_5 leu_6 neu_7 led_8 ned_9 lfu_10 nfu_11 lfd_12 nfd_13 0 0 0)) rfl dX4_budget_57 (fun H locs hP hD hS => ?_)
    exact hret (lgu_2, ngu_3, lgd_4, ngd_5, leu_6, neu_7, led_8, ned_9, lfu_10, nfu_11, lfd_12, nfd_13, 0, 0, 0) _ _ _ _ hw hP hD hS dX4_budget_60
  · have hw := hw.2 c_14
    exact hthr _ _ _ _ hw hP hD hS hl.1 dX4_budget_8 dX4_budget_11 dX4_budget_12 dX4_budget_14 dX4_budget_17
theorem fX4_raise_34 : Cond.fieldLink RX4 34 "PrivateCounts" "granted" "LPrivateCounts$Fraction;" ∈ wsX4_raise := by decide +kernel
theorem uX4_raise_X4 : ∀ w ∈ u_ws RX4 TX4 10, w ∈ wsX4_raise := by decide +kernel
theorem fX4_raise_41 : Cond.fieldLink RX4 41 "PrivateCounts" "left" "LPrivateCounts$Fraction;" ∈ wsX4_raise := by decide +kernel
set_option maxHeartbeats 4000000 in
set_option maxRecDepth 100000 in
theorem M_X4_raise (l : Launch) (hst : l.stackTraces = false) (sa : Nat → Nat) (G : va_G) (cI cJ : ClassId) (Ax Bx Aw As Asm Bsm Ast Bst Ag Agu Bgu Agd Bgd Ae Aeu Beu Aed Bed Af Afu Bfu Afd Bfd : Nat) (row : Nat → Int32) (rc : Int32) (wa : Int32) (wb : Int32) (wlo : Int32) (whi : Int32) (wtot : Int64) (lsm : Nat → Int32) (nsm : Int32) (lst : Nat → Int32) (nst : Int32) (lgu : Nat → Int32) (ngu : Int32) (lgd : Nat → Int32) (ngd : Int32) (leu : Nat → Int32) (neu : Int32) (led : Nat → Int32) (ned : Int32) (lfu : Nat → Int32) (nfu : Int32) (lfd : Nat → Int32) (nfd : Int32) (ans : Int32) (rfc : Int32) (rfb : Int32) (p0 : Int32) (p1 : Int32) (X : Prop) (Q : (Nat → Int32) → Int32 → (Nat → Int32) → Int32 → (Nat → Int32) → Int32 → (Nat → Int32) → Int32 → Prop) (hw : w_X4_raise lgu ngu lgd ngd lfu nfu lfd nfd p0 p1 X Q) : Kxv l yX4_raise wsX4_raise rm_X4_raise xTx sa G cI cJ [.ref Ax, .int p0, .int p1] (wX4 cI cJ Ax Bx Aw As Asm Bsm Ast Bst Ag Agu Bgu Agd Bgd Ae Aeu Beu Aed Bed Af Afu Bfu Afd Bfd row rc wa wb wlo whi wtot lsm nsm lst nst lgu ngu lgd ngd leu neu led ned lfu nfu lfd nfd ans rfc rfb) (fun (u : (Nat → Int32) × (Int32) × (Nat → Int32) × (Int32) × (Nat → Int32) × (Int32) × (Nat → Int32) × (Int32)) => Q u.1 u.2.1 u.2.2.1 u.2.2.2.1 u.2.2.2.2.1 u.2.2.2.2.2.1 u.2.2.2.2.2.2.1 u.2.2.2.2.2.2.2) (fun u => (wX4 cI cJ Ax Bx Aw As Asm Bsm Ast Bst Ag Agu Bgu Agd Bgd Ae Aeu Beu Aed Bed Af Afu Bfu Afd Bfd row rc wa wb wlo whi wtot lsm nsm lst nst u.1 u.2.1 u.2.2.1 u.2.2.2.1 leu neu led ned u.2.2.2.2.1 u.2.2.2.2.2.1 u.2.2.2.2.2.2.1 u.2.2.2.2.2.2.2 ans rfc rfb)) "java/lang/IllegalArgumentException" X := by
  refine kxv_intro (cc := cX4_raise) (maxL := 3) (E := "java/lang/IllegalArgumentException") (text := "num is below 0, or den not 1 to 1000") 64 107 68 hst (Nat.le_refl _) (Nat.le_refl _) (Nat.le_of_ble_eq_true rfl) (Nat.le_of_ble_eq_true rfl) (by decide) rfl rfl (Nat.le_of_ble_eq_true rfl) (by decide +kernel) (by decide +kernel) (by decide +kernel) (by decide +kernel) (by decide +kernel) (by decide +kernel) (by decide +kernel) ?_
  intro p e s m args below meth c A Z ls hx hb hml hts hown hP hK hD hS hA hl hret hthr
  have hl : lv_has ls 3 [(0, .ref Ax), (1, .int p0), (2, .int p1)] := hl
  unfold w_X4_raise at hw
  refine lv_iload_n hx hb dX4_raise_0 rfl (lv_at hl 1 rfl) ?_
  refine lv_iload_n hx hb dX4_raise_1 rfl (lv_at hl 2 rfl) ?_
  refine k_Si (M_X4_isGrant l G cI cJ p0 p1 _ hw) ⟨hx, hb, hml, hown, hts⟩ (va_cwS 2 hts gX4_raise_X4_isGrant rfl rfl rfl (by decide +kernel) ⟨Nat.le_of_ble_eq_true rfl, Nat.le_of_ble_eq_true rfl⟩) hK hP hD hS hA [] [0, 1, 2, 3, 4, 5, 6, 7, 8, 9, 10, 11, 12, 13, 14, 15, 16, 17, 18, 19, 20, 21, 22] [0, 1, 2, 3, 4, 5, 6, 7, 8, 9, 10, 11, 12, 13, 14, 15, 16, 17, 18, 19, 20, 21, 22] (wr := [(Ax, .inr (4, [.ref Bx, .int rc, .ref Aw, .ref As, .ref Ag, .ref Ae, .ref Af, .int ans, .int rfc, .int rfb])), (Bx, .inl (cI, 60, .inl row)), (Aw, .inr (3, [.int wa, .int wb, .int wlo, .int whi, .long wtot])), (As, .inr (2, [.ref Asm, .ref Ast])), (Asm, .inr (1, [.ref Bsm, .int nsm])), (Bsm, .inl (cI, 64, .inl lsm)), (Ast, .inr (1, [.ref Bst, .int nst])), (Bst, .inl (cI, 64, .inl lst)), (Ag, .inr (0, [.ref Agu, .ref Agd])), (Agu, .inr (1, [.ref Bgu, .int ngu])), (Bgu, .inl (cI, 64, .inl lgu)), (Agd, .inr (1, [.ref Bgd, .int ngd])), (Bgd, .inl (cI, 64, .inl lgd)), (Ae, .inr (0, [.ref Aeu, .ref Aed])), (Aeu, .inr (1, [.ref Beu, .int neu])), (Beu, .inl (cI, 64, .inl leu)), (Aed, .inr (1, [.ref Bed, .int ned])), (Bed, .inl (cI, 64, .inl led)), (Af, .inr (0, [.ref Afu, .ref Afd])), (Afu, .inr (1, [.ref Bfu, .int nfu])), (Bfu, .inl (cI, 64, .inl lfu)), (Afd, .inr (1, [.ref Bfd, .int nfd])), (Bfd, .inl (cI, 64, .inl lfd))]) (wn := fun u : Unit => (wX4 cI cJ Ax Bx Aw As Asm Bsm Ast Bst Ag Agu Bgu Agd Bgd Ae Aeu Beu Aed Bed Af Afu Bfu Afd Bfd row rc wa wb wlo whi wtot lsm nsm lst nst lgu ngu lgd ngd leu neu led ned lfu nfu lfd nfd ans rfc rfb)) rfl rfl (by decide) (by decide) (by decide) (by decide) (fun _ => rfl) (rest := []) rfl hl.1 rfl (Nat.le_of_ble_eq_true rfl) (Nat.zero_le _) (Nat.zero_le _) dX4_raise_2 (fun r_1 u H locs hw hP hD hS => ?_)
  obtain ⟨hzr_1, hw⟩ := hw
  refine lv_if_ne (tgt := 18) hx hb dX4_raise_5 (by decide) (fun c_10 => ?_) (fun c_10 => ?_)
  · have hw := hw.1 c_10
    refine lv_aload_n hx hb dX4_raise_18 rfl (lv_at hl 0 rfl) ?_
    refine k_get hx hb hts uX4_raise_X4 hown hK hP 0 4 rfl rfl 4 (by decide) fX4_raise_34 (.ref Ag) rfl dX4_raise_19 ?_
    refine lv_iload_n hx hb dX4_raise_22 rfl (lv_at hl 1 rfl) ?_
    refine lv_iload_n hx hb dX4_raise_23 rfl (lv_at hl 2 rfl) ?_
    refine k_Vv (M_X0_increase l G cI cJ Ag Agu Bgu Agd Bgd lgu ngu lgd ngd p0 p1 _ hw) ⟨hx, hb, hml, hown, hts⟩ (cwV 2 hts gX4_raise_X0_increase rfl rfl rfl (by decide +kernel) ⟨Nat.le_of_ble_eq_true rfl, Nat.le_of_ble_eq_true rfl⟩) hK hP hD hS hA [8, 9, 10, 11, 12] [0, 1, 2, 3, 4, 5, 6, 7, 13, 14, 15, 16, 17, 18, 19, 20, 21, 22] [0, 1, 2, 3, 4, 5, 6, 7, 18, 19, 20, 21, 22, 8, 9, 10, 11, 12, 13, 14, 15, 16, 17] (wr := [(Ax, .inr (4, [.ref Bx, .int rc, .ref Aw, .ref As, .ref Ag, .ref Ae, .ref Af, .int ans, .int rfc, .int rfb])), (Bx, .inl (cI, 60, .inl row)), (Aw, .inr (3, [.int wa, .int wb, .int wlo, .int whi, .long wtot])), (As, .inr (2, [.ref Asm, .ref Ast])), (Asm, .inr (1, [.ref Bsm, .int nsm])), (Bsm, .inl (cI, 64, .inl lsm)), (Ast, .inr (1, [.ref Bst, .int nst])), (Bst, .inl (cI, 64, .inl lst)), (Ae, .inr (0, [.ref Aeu, .ref Aed])), (Aeu, .inr (1, [.ref Beu, .int neu])), (Beu, .inl (cI, 64, .inl leu)), (Aed, .inr (1, [.ref Bed, .int ned])), (Bed, .inl (cI, 64, .inl led)), (Af, .inr (0, [.ref Afu, .ref Afd])), (Afu, .inr (1, [.ref Bfu, .int nfu])), (Bfu, .inl (cI, 64, .inl lfu)), (Afd, .inr (1, [.ref Bfd, .int nfd])), (Bfd, .inl (cI, 64, .inl lfd))]) (wn := fun u : (Nat → Int32) × (Int32) × (Nat → Int32) × (Int32) => (wX4 cI cJ Ax Bx Aw As Asm Bsm Ast Bst Ag Agu Bgu Agd Bgd Ae Aeu Beu Aed Bed Af Afu Bfu Afd Bfd row rc wa wb wlo whi wtot lsm nsm lst nst u.1 u.2.1 u.2.2.1 u.2.2.2 leu neu led ned lfu nfu lfd nfd ans rfc rfb)) rfl rfl (by decide) (by decide) (by decide) (by decide) (fun _ => rfl) (rest := []) (q0 := 0) rfl rfl rfl hl.1 rfl (Nat.le_of_ble_eq_true rfl) (Nat.zero_le _) (Nat.zero_le _) dX4_raise_24 (fun u H locs hw hP hD hS => ?_)
    obtain ⟨lgu_2, ngu_3, lgd_4, ngd_5⟩ := u
    have hP : va_P G vwCl (wX4 cI cJ Ax Bx Aw As Asm Bsm Ast Bst Ag Agu Bgu Agd Bgd Ae Aeu Beu Aed Bed Af Afu Bfu Afd Bfd row rc wa wb wlo whi wtot lsm nsm lst nst lgu_2 ngu_3 lgd_4 ngd_5 leu neu led ned lfu nfu lfd nfd ans rfc rfb) H := hP
    have hD : va_D A (wX4 cI cJ Ax Bx Aw As Asm Bsm Ast Bst Ag Agu Bgu Agd Bgd Ae Aeu Beu Aed Bed Af Afu Bfu Afd Bfd row rc wa wb wlo whi wtot lsm nsm lst nst lgu_2 ngu_3 lgd_4 ngd_5 leu neu led ned lfu nfu lfd nfd ans rfc rfb) := hD
    refine lv_aload_n hx hb dX4_raise_27 rfl (lv_at hl 0 rfl) ?_
    refine k_get hx hb hts uX4_raise_X4 hown hK hP 0 4 rfl rfl 6 (by decide) fX4_raise_41 (.ref Af) rfl dX4_raise_28 ?_
    refine lv_iload_n hx hb dX4_raise_31 rfl (lv_at hl 1 rfl) ?_
    refine lv_iload_n hx hb dX4_raise_32 rfl (lv_at hl 2 rfl) ?_
    refine k_Vv (M_X0_increase l G cI cJ Af Afu Bfu Afd Bfd lfu nfu lfd nfd p0 p1 _ hw) ⟨hx, hb, hml, hown, hts⟩ (cwV 2 hts gX4_raise_X0_increase rfl rfl rfl (by decide +kernel) ⟨Nat.le_of_ble_eq_true rfl, Nat.le_of_ble_eq_true rfl⟩) hK hP hD hS hA [18, 19, 20, 21, 22] [0, 1, 2, 3, 4, 5, 6, 7, 8, 9, 10, 11, 12, 13, 14, 15, 16, 17] [0, 1, 2, 3, 4, 5, 6, 7, 8, 9, 10, 11, 12, 13, 14, 15, 16, 17, 18, 19, 20, 21, 22] (wr := [(Ax, .inr (4, [.ref Bx, .int rc, .ref Aw, .ref As, .ref Ag, .ref Ae, .ref Af, .int ans, .int rfc, .int rfb])), (Bx, .inl (cI, 60, .inl row)), (Aw, .inr (3, [.int wa, .int wb, .int wlo, .int whi, .long wtot])), (As, .inr (2, [.ref Asm, .ref Ast])), (Asm, .inr (1, [.ref Bsm, .int nsm])), (Bsm, .inl (cI, 64, .inl lsm)), (Ast, .inr (1, [.ref Bst, .int nst])), (Bst, .inl (cI, 64, .inl lst)), (Ag, .inr (0, [.ref Agu, .ref Agd])), (Agu, .inr (1, [.ref Bgu, .int ngu_3])), (Bgu, .inl (cI, 64, .inl lgu_2)), (Agd, .inr (1, [.ref Bgd, .int ngd_5])), (Bgd, .inl (cI, 64, .inl lgd_4)), (Ae, .inr (0, [.ref Aeu, .ref Aed])), (Aeu, .inr (1, [.ref Beu, .int neu])), (Beu, .inl (cI, 64, .inl leu)), (Aed, .inr (1, [.ref Bed, .int ned])), (Bed, .inl (cI, 64, .inl led))]) (wn := fun u : (Nat → Int32) × (Int32) × (Nat → Int32) × (Int32) => (wX4 cI cJ Ax Bx Aw As Asm Bsm Ast Bst Ag Agu Bgu Agd Bgd Ae Aeu Beu Aed Bed Af Afu Bfu Afd Bfd row rc wa wb wlo whi wtot lsm nsm lst nst lgu_2 ngu_3 lgd_4 ngd_5 leu neu led ned u.1 u.2.1 u.2.2.1 u.2.2.2 ans rfc rfb)) rfl rfl (by decide) (by decide) (by decide) (by decide) (fun _ => rfl) (rest := []) (q0 := 0) rfl rfl rfl hl.1 rfl (Nat.le_of_ble_eq_true rfl) (Nat.zero_le _) (Nat.zero_le _) dX4_raise_33 (fun u H locs hw hP hD hS => ?_)
    obtain ⟨lfu_6, nfu_7, lfd_8, nfd_9⟩ := u
    have hP : va_P G vwCl (wX4 cI cJ Ax Bx Aw As Asm Bsm Ast Bst Ag Agu Bgu Agd Bgd Ae Aeu Beu Aed Bed Af Afu Bfu Afd Bfd row rc wa wb wlo whi wtot lsm nsm lst nst lgu_2 ngu_3 lgd_4 ngd_5 leu neu led ned lfu_6 nfu_7 lfd_8 nfd_9 ans rfc rfb) H := hP
    have hD : va_D A (wX4 cI cJ Ax Bx Aw As Asm Bsm Ast Bst Ag Agu Bgu Agd Bgd Ae Aeu Beu Aed Bed Af Afu Bfu Afd Bfd row rc wa wb wlo whi wtot lsm nsm lst nst lgu_2 ngu_3 lgd_4 ngd_5 leu neu led ned lfu_6 nfu_7 lfd_8 nfd_9 ans rfc rfb) := hD
    exact hret (lgu_2, ngu_3, lgd_4, ngd_5, lfu_6, nfu_7, lfd_8, nfd_9) _ _ _ _ hw hP hD hS dX4_raise_36
  · have hw := hw.2 c_10
    exact hthr _ _ _ _ hw hP hD hS hl.1 dX4_raise_8 dX4_raise_11 dX4_raise_12 dX4_raise_14 dX4_raise_17
theorem fX4_isEnough_27 : Cond.fieldLink RX4 27 "PrivateCounts" "series" "LPrivateCounts$Series;" ∈ wsX4_isEnough := by decide +kernel
theorem uX4_isEnough_X4 : ∀ w ∈ u_ws RX4 TX4 10, w ∈ wsX4_isEnough := by decide +kernel
theorem fX4_isEnough_20 : Cond.fieldLink RX4 20 "PrivateCounts" "weights" "LPrivateCounts$Table;" ∈ wsX4_isEnough := by decide +kernel
set_option maxHeartbeats 4000000 in
set_option maxRecDepth 100000 in
theorem M_X4_isEnough (l : Launch) (hst : l.stackTraces = false) (sa : Nat → Nat) (G : va_G) (cI cJ : ClassId) (Ax Bx Aw As Asm Bsm Ast Bst Ag Agu Bgu Agd Bgd Ae Aeu Beu Aed Bed Af Afu Bfu Afd Bfd : Nat) (row : Nat → Int32) (rc : Int32) (wa : Int32) (wb : Int32) (wlo : Int32) (whi : Int32) (wtot : Int64) (lsm : Nat → Int32) (nsm : Int32) (lst : Nat → Int32) (nst : Int32) (lgu : Nat → Int32) (ngu : Int32) (lgd : Nat → Int32) (ngd : Int32) (leu : Nat → Int32) (neu : Int32) (led : Nat → Int32) (ned : Int32) (lfu : Nat → Int32) (nfu : Int32) (lfd : Nat → Int32) (nfd : Int32) (ans : Int32) (rfc : Int32) (rfb : Int32) (p0 : Int32) (p1 : Int32) (X : Prop) (Q : Int32 → (Nat → Int32) → Int32 → (Nat → Int32) → Int32 → Prop) (hw : w_X4_isEnough wa wb lsm nsm lst nst p0 p1 X Q) : Kxi l yX4_isEnough wsX4_isEnough rm_X4_isEnough xTx sa G cI cJ [.ref Ax, .int p0, .int p1] (wX4 cI cJ Ax Bx Aw As Asm Bsm Ast Bst Ag Agu Bgu Agd Bgd Ae Aeu Beu Aed Bed Af Afu Bfu Afd Bfd row rc wa wb wlo whi wtot lsm nsm lst nst lgu ngu lgd ngd leu neu led ned lfu nfu lfd nfd ans rfc rfb) (fun (r : Int32) (u : (Nat → Int32) × (Int32) × (Nat → Int32) × (Int32)) => wB r ∧ Q r u.1 u.2.1 u.2.2.1 u.2.2.2) (fun u => (wX4 cI cJ Ax Bx Aw As Asm Bsm Ast Bst Ag Agu Bgu Agd Bgd Ae Aeu Beu Aed Bed Af Afu Bfu Afd Bfd row rc wa wb wlo whi wtot u.1 u.2.1 u.2.2.1 u.2.2.2 lgu ngu lgd ngd leu neu led ned lfu nfu lfd nfd ans rfc rfb)) "java/lang/IllegalArgumentException" X := by
  refine kxz_intro (cc := cX4_isEnough) (maxL := 3) (E := "java/lang/IllegalArgumentException") (text := "p is not 0 to 3000, or q not 1 to 1000") 64 118 68 hst (Nat.le_refl _) (Nat.le_refl _) (Nat.le_of_ble_eq_true rfl) (Nat.le_of_ble_eq_true rfl) (by decide) rfl rfl (Nat.le_of_ble_eq_true rfl) (by decide +kernel) (by decide +kernel) (by decide +kernel) (by decide +kernel) (by decide +kernel) (by decide +kernel) (by decide +kernel) ?_
  intro p e s m args below meth c A Z ls hx hb hml hts hown hP hK hD hS hA hl hret hthr
  have hl : lv_has ls 3 [(0, .ref Ax), (1, .int p0), (2, .int p1)] := hl
  unfold w_X4_isEnough at hw
  refine lv_iload_n hx hb dX4_isEnough_0 rfl (lv_at hl 1 rfl) ?_
  refine lv_iload_n hx hb dX4_isEnough_1 rfl (lv_at hl 2 rfl) ?_
  refine k_Si (M_X4_isCost l G cI cJ p0 p1 _ hw) ⟨hx, hb, hml, hown, hts⟩ (va_cwS 2 hts gX4_isEnough_X4_isCost rfl rfl rfl (by decide +kernel) ⟨Nat.le_of_ble_eq_true rfl, Nat.le_of_ble_eq_true rfl⟩) hK hP hD hS hA [] [0, 1, 2, 3, 4, 5, 6, 7, 8, 9, 10, 11, 12, 13, 14, 15, 16, 17, 18, 19, 20, 21, 22] [0, 1, 2, 3, 4, 5, 6, 7, 8, 9, 10, 11, 12, 13, 14, 15, 16, 17, 18, 19, 20, 21, 22] (wr := [(Ax, .inr (4, [.ref Bx, .int rc, .ref Aw, .ref As, .ref Ag, .ref Ae, .ref Af, .int ans, .int rfc, .int rfb])), (Bx, .inl (cI, 60, .inl row)), (Aw, .inr (3, [.int wa, .int wb, .int wlo, .int whi, .long wtot])), (As, .inr (2, [.ref Asm, .ref Ast])), (Asm, .inr (1, [.ref Bsm, .int nsm])), (Bsm, .inl (cI, 64, .inl lsm)), (Ast, .inr (1, [.ref Bst, .int nst])), (Bst, .inl (cI, 64, .inl lst)), (Ag, .inr (0, [.ref Agu, .ref Agd])), (Agu, .inr (1, [.ref Bgu, .int ngu])), (Bgu, .inl (cI, 64, .inl lgu)), (Agd, .inr (1, [.ref Bgd, .int ngd])), (Bgd, .inl (cI, 64, .inl lgd)), (Ae, .inr (0, [.ref Aeu, .ref Aed])), (Aeu, .inr (1, [.ref Beu, .int neu])), (Beu, .inl (cI, 64, .inl leu)), (Aed, .inr (1, [.ref Bed, .int ned])), (Bed, .inl (cI, 64, .inl led)), (Af, .inr (0, [.ref Afu, .ref Afd])), (Afu, .inr (1, [.ref Bfu, .int nfu])), (Bfu, .inl (cI, 64, .inl lfu)), (Afd, .inr (1, [.ref Bfd, .int nfd])), (Bfd, .inl (cI, 64, .inl lfd))]) (wn := fun u : Unit => (wX4 cI cJ Ax Bx Aw As Asm Bsm Ast Bst Ag Agu Bgu Agd Bgd Ae Aeu Beu Aed Bed Af Afu Bfu Afd Bfd row rc wa wb wlo whi wtot lsm nsm lst nst lgu ngu lgd ngd leu neu led ned lfu nfu lfd nfd ans rfc rfb)) rfl rfl (by decide) (by decide) (by decide) (by decide) (fun _ => rfl) (rest := []) rfl hl.1 rfl (Nat.le_of_ble_eq_true rfl) (Nat.zero_le _) (Nat.zero_le _) dX4_isEnough_2 (fun r_1 u H locs hw hP hD hS => ?_)
  obtain ⟨hzr_1, hw⟩ := hw
  refine lv_if_ne (tgt := 18) hx hb dX4_isEnough_5 (by decide) (fun c_7 => ?_) (fun c_7 => ?_)
  · have hw := hw.1 c_7
    refine lv_aload_n hx hb dX4_isEnough_18 rfl (lv_at hl 0 rfl) ?_
    refine k_get hx hb hts uX4_isEnough_X4 hown hK hP 0 4 rfl rfl 3 (by decide) fX4_isEnough_27 (.ref As) rfl dX4_isEnough_19 ?_
    refine lv_aload_n hx hb dX4_isEnough_22 rfl (lv_at hl 0 rfl) ?_
    refine k_get hx hb hts uX4_isEnough_X4 hown hK hP 0 4 rfl rfl 2 (by decide) fX4_isEnough_20 (.ref Aw) rfl dX4_isEnough_23 ?_
    refine lv_iload_n hx hb dX4_isEnough_26 rfl (lv_at hl 1 rfl) ?_
    refine lv_iload_n hx hb dX4_isEnough_27 rfl (lv_at hl 2 rfl) ?_
    refine k_Vi (M_X2_reaches l G cI cJ As Asm Bsm Ast Bst Aw lsm nsm lst nst wa wb wlo whi wtot p0 p1 _ hw) ⟨hx, hb, hml, hown, hts⟩ (cwV 3 hts gX4_isEnough_X2_reaches rfl rfl rfl (by decide +kernel) ⟨Nat.le_of_ble_eq_true rfl, Nat.le_of_ble_eq_true rfl⟩) hK hP hD hS hA [3, 4, 5, 6, 7, 2] [0, 1, 8, 9, 10, 11, 12, 13, 14, 15, 16, 17, 18, 19, 20, 21, 22] [0, 1, 22, 17, 18, 19, 20, 21, 2, 3, 4, 5, 6, 7, 8, 9, 10, 11, 12, 13, 14, 15, 16] (wr := [(Ax, .inr (4, [.ref Bx, .int rc, .ref Aw, .ref As, .ref Ag, .ref Ae, .ref Af, .int ans, .int rfc, .int rfb])), (Bx, .inl (cI, 60, .inl row)), (Ag, .inr (0, [.ref Agu, .ref Agd])), (Agu, .inr (1, [.ref Bgu, .int ngu])), (Bgu, .inl (cI, 64, .inl lgu)), (Agd, .inr (1, [.ref Bgd, .int ngd])), (Bgd, .inl (cI, 64, .inl lgd)), (Ae, .inr (0, [.ref Aeu, .ref Aed])), (Aeu, .inr (1, [.ref Beu, .int neu])), (Beu, .inl (cI, 64, .inl leu)), (Aed, .inr (1, [.ref Bed, .int ned])), (Bed, .inl (cI, 64, .inl led)), (Af, .inr (0, [.ref Afu, .ref Afd])), (Afu, .inr (1, [.ref Bfu, .int nfu])), (Bfu, .inl (cI, 64, .inl lfu)), (Afd, .inr (1, [.ref Bfd, .int nfd])), (Bfd, .inl (cI, 64, .inl lfd))]) (wn := fun u : (Nat → Int32) × (Int32) × (Nat → Int32) × (Int32) => (wX4 cI cJ Ax Bx Aw As Asm Bsm Ast Bst Ag Agu Bgu Agd Bgd Ae Aeu Beu Aed Bed Af Afu Bfu Afd Bfd row rc wa wb wlo whi wtot u.1 u.2.1 u.2.2.1 u.2.2.2 lgu ngu lgd ngd leu neu led ned lfu nfu lfd nfd ans rfc rfb)) rfl rfl (by decide) (by decide) (by decide) (by decide) (fun _ => rfl) (rest := []) (q0 := 0) rfl rfl rfl hl.1 rfl (Nat.le_of_ble_eq_true rfl) (Nat.zero_le _) (Nat.zero_le _) dX4_isEnough_28 (fun r_2 u H locs hw hP hD hS => ?_)
    obtain ⟨hzr_2, hw⟩ := hw
    obtain ⟨lsm_3, nsm_4, lst_5, nst_6⟩ := u
    have hP : va_P G vwCl (wX4 cI cJ Ax Bx Aw As Asm Bsm Ast Bst Ag Agu Bgu Agd Bgd Ae Aeu Beu Aed Bed Af Afu Bfu Afd Bfd row rc wa wb wlo whi wtot lsm_3 nsm_4 lst_5 nst_6 lgu ngu lgd ngd leu neu led ned lfu nfu lfd nfd ans rfc rfb) H := hP
    have hD : va_D A (wX4 cI cJ Ax Bx Aw As Asm Bsm Ast Bst Ag Agu Bgu Agd Bgd Ae Aeu Beu Aed Bed Af Afu Bfu Afd Bfd row rc wa wb wlo whi wtot lsm_3 nsm_4 lst_5 nst_6 lgu ngu lgd ngd leu neu led ned lfu nfu lfd nfd ans rfc rfb) := hD
    exact hret _ (lsm_3, nsm_4, lst_5, nst_6) _ _ _ _ hzr_2 hw hP hD hS dX4_isEnough_31
  · have hw := hw.2 c_7
    exact hthr _ _ _ _ hw hP hD hS hl.1 dX4_isEnough_8 dX4_isEnough_11 dX4_isEnough_12 dX4_isEnough_14 dX4_isEnough_17
theorem fX4_least_27 : Cond.fieldLink RX4 27 "PrivateCounts" "series" "LPrivateCounts$Series;" ∈ wsX4_least := by decide +kernel
theorem uX4_least_X4 : ∀ w ∈ u_ws RX4 TX4 10, w ∈ wsX4_least := by decide +kernel
theorem fX4_least_20 : Cond.fieldLink RX4 20 "PrivateCounts" "weights" "LPrivateCounts$Table;" ∈ wsX4_least := by decide +kernel
set_option maxHeartbeats 4000000 in
set_option maxRecDepth 100000 in
theorem M_X4_least (l : Launch) (hst : l.stackTraces = false) (sa : Nat → Nat) (G : va_G) (cI cJ : ClassId) (Ax Bx Aw As Asm Bsm Ast Bst Ag Agu Bgu Agd Bgd Ae Aeu Beu Aed Bed Af Afu Bfu Afd Bfd : Nat) (row : Nat → Int32) (rc : Int32) (wa : Int32) (wb : Int32) (wlo : Int32) (whi : Int32) (wtot : Int64) (lsm : Nat → Int32) (nsm : Int32) (lst : Nat → Int32) (nst : Int32) (lgu : Nat → Int32) (ngu : Int32) (lgd : Nat → Int32) (ngd : Int32) (leu : Nat → Int32) (neu : Int32) (led : Nat → Int32) (ned : Int32) (lfu : Nat → Int32) (nfu : Int32) (lfd : Nat → Int32) (nfd : Int32) (ans : Int32) (rfc : Int32) (rfb : Int32) (p0 : Int32) (X : Prop) (Q : Int32 → (Nat → Int32) → Int32 → (Nat → Int32) → Int32 → Prop) (hw : w_X4_least wa wb lsm nsm lst nst p0 X Q) : Kxi l yX4_least wsX4_least rm_X4_least xTx sa G cI cJ [.ref Ax, .int p0] (wX4 cI cJ Ax Bx Aw As Asm Bsm Ast Bst Ag Agu Bgu Agd Bgd Ae Aeu Beu Aed Bed Af Afu Bfu Afd Bfd row rc wa wb wlo whi wtot lsm nsm lst nst lgu ngu lgd ngd leu neu led ned lfu nfu lfd nfd ans rfc rfb) (fun (r : Int32) (u : (Nat → Int32) × (Int32) × (Nat → Int32) × (Int32)) => Q r u.1 u.2.1 u.2.2.1 u.2.2.2) (fun u => (wX4 cI cJ Ax Bx Aw As Asm Bsm Ast Bst Ag Agu Bgu Agd Bgd Ae Aeu Beu Aed Bed Af Afu Bfu Afd Bfd row rc wa wb wlo whi wtot u.1 u.2.1 u.2.2.1 u.2.2.2 lgu ngu lgd ngd leu neu led ned lfu nfu lfd nfd ans rfc rfb)) "java/lang/IllegalArgumentException" X := by
  refine kxi_intro (cc := cX4_least) (maxL := 6) (E := "java/lang/IllegalArgumentException") (text := "q is not 1 to 1000") 64 127 68 hst (Nat.le_refl _) (Nat.le_refl _) (Nat.le_of_ble_eq_true rfl) (Nat.le_of_ble_eq_true rfl) (by decide) rfl rfl (Nat.le_of_ble_eq_true rfl) (by decide +kernel) (by decide +kernel) (by decide +kernel) (by decide +kernel) (by decide +kernel) (by decide +kernel) (by decide +kernel) ?_
  intro p e s m args below meth c A Z ls hx hb hml hts hown hP hK hD hS hA hl hret hthr
  have hl : lv_has ls 6 [(0, .ref Ax), (1, .int p0)] := hl
  unfold w_X4_least at hw
  refine lv_iload_n hx hb dX4_least_0 rfl (lv_at hl 1 rfl) ?_
  refine k_Si (M_X4_isDenominator l G cI cJ p0 _ hw) ⟨hx, hb, hml, hown, hts⟩ (va_cwS 1 hts gX4_least_X4_isDenominator rfl rfl rfl (by decide +kernel) ⟨Nat.le_of_ble_eq_true rfl, Nat.le_of_ble_eq_true rfl⟩) hK hP hD hS hA [] [0, 1, 2, 3, 4, 5, 6, 7, 8, 9, 10, 11, 12, 13, 14, 15, 16, 17, 18, 19, 20, 21, 22] [0, 1, 2, 3, 4, 5, 6, 7, 8, 9, 10, 11, 12, 13, 14, 15, 16, 17, 18, 19, 20, 21, 22] (wr := [(Ax, .inr (4, [.ref Bx, .int rc, .ref Aw, .ref As, .ref Ag, .ref Ae, .ref Af, .int ans, .int rfc, .int rfb])), (Bx, .inl (cI, 60, .inl row)), (Aw, .inr (3, [.int wa, .int wb, .int wlo, .int whi, .long wtot])), (As, .inr (2, [.ref Asm, .ref Ast])), (Asm, .inr (1, [.ref Bsm, .int nsm])), (Bsm, .inl (cI, 64, .inl lsm)), (Ast, .inr (1, [.ref Bst, .int nst])), (Bst, .inl (cI, 64, .inl lst)), (Ag, .inr (0, [.ref Agu, .ref Agd])), (Agu, .inr (1, [.ref Bgu, .int ngu])), (Bgu, .inl (cI, 64, .inl lgu)), (Agd, .inr (1, [.ref Bgd, .int ngd])), (Bgd, .inl (cI, 64, .inl lgd)), (Ae, .inr (0, [.ref Aeu, .ref Aed])), (Aeu, .inr (1, [.ref Beu, .int neu])), (Beu, .inl (cI, 64, .inl leu)), (Aed, .inr (1, [.ref Bed, .int ned])), (Bed, .inl (cI, 64, .inl led)), (Af, .inr (0, [.ref Afu, .ref Afd])), (Afu, .inr (1, [.ref Bfu, .int nfu])), (Bfu, .inl (cI, 64, .inl lfu)), (Afd, .inr (1, [.ref Bfd, .int nfd])), (Bfd, .inl (cI, 64, .inl lfd))]) (wn := fun u : Unit => (wX4 cI cJ Ax Bx Aw As Asm Bsm Ast Bst Ag Agu Bgu Agd Bgd Ae Aeu Beu Aed Bed Af Afu Bfu Afd Bfd row rc wa wb wlo whi wtot lsm nsm lst nst lgu ngu lgd ngd leu neu led ned lfu nfu lfd nfd ans rfc rfb)) rfl rfl (by decide) (by decide) (by decide) (by decide) (fun _ => rfl) (rest := []) rfl hl.1 rfl (Nat.le_of_ble_eq_true rfl) (Nat.zero_le _) (Nat.zero_le _) dX4_least_1 (fun r_1 u H locs hw hP hD hS => ?_)
  obtain ⟨hzr_1, hw⟩ := hw
  refine lv_if_ne (tgt := 17) hx hb dX4_least_4 (by decide) (fun c_22 => ?_) (fun c_22 => ?_)
  · have hw := hw.1 c_22
    refine lv_iconst (v := 0) hx hb dX4_least_17 (by decide) ?_
    refine lv_istore_n (lv' := [(2, .int 0), (0, .ref Ax), (1, .int p0)]) hx hb dX4_least_18 rfl hl (by decide) rfl (fun ls hl => ?_)
    refine lv_iconst (v := 3) hx hb dX4_least_19 (by decide) ?_
    refine lv_iload_n hx hb dX4_least_20 rfl (lv_at hl 2 rfl) ?_
    refine lv_imul hx hb dX4_least_21 ?_
    refine lv_topi (fun i3_2 ei3_2 => ?_)
    have hw := hw i3_2 ei3_2
    refine lv_istore_n (lv' := [(3, .int i3_2), (2, .int 0), (0, .ref Ax), (1, .int p0)]) hx hb dX4_least_22 rfl hl (by decide) rfl (fun ls hl => ?_)
    refine lv_iconst (v := 0) hx hb dX4_least_23 (by decide) ?_
    refine lv_istore (lv' := [(4, .int 0), (3, .int i3_2), (2, .int 0), (0, .ref Ax), (1, .int p0)]) hx hb dX4_least_24 hl (by decide) rfl (fun ls hl => ?_)
    obtain ⟨I26_10, μ26_10, hi, hw⟩ := hw
    suffices hLI26_10 : ∀ (N : Nat) (i4_3 : Int32) (i3_4 : Int32) (i2_5 : Int32) (lsm_6 : Nat → Int32) (nsm_7 : Int32) (lst_8 : Nat → Int32) (nst_9 : Int32) (_ : μ26_10 i4_3 i3_4 i2_5 lsm_6 nsm_7 lst_8 nst_9 = N) (_ : I26_10 i4_3 i3_4 i2_5 lsm_6 nsm_7 lst_8 nst_9) (H : Heap) (locs : List Loc) (ls : Array Slot), va_P G vwCl (wX4 cI cJ Ax Bx Aw As Asm Bsm Ast Bst Ag Agu Bgu Agd Bgd Ae Aeu Beu Aed Bed Af Afu Bfu Afd Bfd row rc wa wb wlo whi wtot lsm_6 nsm_7 lst_8 nst_9 lgu ngu lgd ngd leu neu led ned lfu nfu lfd nfd ans rfc rfb) H → va_D A (wX4 cI cJ Ax Bx Aw As Asm Bsm Ast Bst Ag Agu Bgu Agd Bgd Ae Aeu Beu Aed Bed Af Afu Bfu Afd Bfd row rc wa wb wlo whi wtot lsm_6 nsm_7 lst_8 nst_9 lgu ngu lgd ngd leu neu led ned lfu nfu lfd nfd ans rfc rfb) → va_S A s.heap H locs → lv_has ls 6 [(4, .int i4_3), (3, .int i3_4), (2, .int i2_5), (0, .ref Ax), (1, .int p0)] → W p l e rm_X4_least s m args below meth c H locs 0 0 Z (F0 m 26 ls []) from
      hLI26_10 _ (0 : Int32) i3_2 (0 : Int32) lsm nsm lst nst rfl hi _ _ _ hP hD hS (lv_sub hl [0, 1, 2, 3, 4] rfl)
    clear hi hP hD hS hl
    intro N
    induction N using Nat.strongRecOn with
    | ind N ihI26_10 =>
      intro i4_3 i3_4 i2_5 lsm_6 nsm_7 lst_8 nst_9 hNI26_10 hi H locs ls hP hD hS hl
      have hw := hw i4_3 i3_4 i2_5 lsm_6 nsm_7 lst_8 nst_9 hi
      refine lv_iload hx hb dX4_least_26 (lv_at hl 0 rfl) ?_
      refine lv_bipush (v := 32) hx hb dX4_least_28 (by decide) ?_
      refine lv_icmp_ge (tgt := 79) hx hb dX4_least_30 (by decide) (fun c_21 => ?_) (fun c_21 => ?_)
      · have hw := hw.1 c_21
        refine lv_iload_n hx hb dX4_least_79 rfl (lv_at hl 1 rfl) ?_
        exact hret _ (lsm_6, nsm_7, lst_8, nst_9) _ _ _ _ hw hP hD hS dX4_least_80
      · have hw := hw.2 c_21
        refine lv_iload_n hx hb dX4_least_33 rfl (lv_at hl 1 rfl) ?_
        refine lv_iload_n hx hb dX4_least_34 rfl (lv_at hl 2 rfl) ?_
        refine lv_isub hx hb dX4_least_35 ?_
        refine lv_iconst (v := 1) hx hb dX4_least_36 (by decide) ?_
        refine lv_icmp_le (tgt := 79) hx hb dX4_least_37 (by decide) (fun c_20 => ?_) (fun c_20 => ?_)
        · have hw := hw.1 c_20
          refine lv_iload_n hx hb dX4_least_79 rfl (lv_at hl 1 rfl) ?_
          exact hret _ (lsm_6, nsm_7, lst_8, nst_9) _ _ _ _ hw hP hD hS dX4_least_80
        · have hw := hw.2 c_20
          refine lv_iload_n hx hb dX4_least_40 rfl (lv_at hl 2 rfl) ?_
          refine lv_iload_n hx hb dX4_least_41 rfl (lv_at hl 1 rfl) ?_
          refine lv_iadd hx hb dX4_least_42 ?_
          refine lv_iconst (v := 2) hx hb dX4_least_43 (by decide) ?_
          refine lv_idiv hx hb dX4_least_44 (by decide) ?_
          refine lv_topi (fun v_11 ev_11 => ?_)
          have hw := hw v_11 ev_11
          refine lv_istore (lv' := [(5, .int v_11), (4, .int i4_3), (3, .int i3_4), (2, .int i2_5), (0, .ref Ax), (1, .int p0)]) hx hb dX4_least_45 hl (by decide) rfl (fun ls hl => ?_)
          refine lv_aload_n hx hb dX4_least_47 rfl (lv_at hl 4 rfl) ?_
          refine k_get hx hb hts uX4_least_X4 hown hK hP 0 4 rfl rfl 3 (by decide) fX4_least_27 (.ref As) rfl dX4_least_48 ?_
          refine lv_aload_n hx hb dX4_least_51 rfl (lv_at hl 4 rfl) ?_
          refine k_get hx hb hts uX4_least_X4 hown hK hP 0 4 rfl rfl 2 (by decide) fX4_least_20 (.ref Aw) rfl dX4_least_52 ?_
          refine lv_iload hx hb dX4_least_55 (lv_at hl 0 rfl) ?_
          refine lv_iload_n hx hb dX4_least_57 rfl (lv_at hl 5 rfl) ?_
          refine k_Vi (M_X2_reaches l G cI cJ As Asm Bsm Ast Bst Aw lsm_6 nsm_7 lst_8 nst_9 wa wb wlo whi wtot v_11 p0 _ hw) ⟨hx, hb, hml, hown, hts⟩ (cwV 3 hts gX4_least_X2_reaches rfl rfl rfl (by decide +kernel) ⟨Nat.le_of_ble_eq_true rfl, Nat.le_of_ble_eq_true rfl⟩) hK hP hD hS hA [3, 4, 5, 6, 7, 2] [0, 1, 8, 9, 10, 11, 12, 13, 14, 15, 16, 17, 18, 19, 20, 21, 22] [0, 1, 22, 17, 18, 19, 20, 21, 2, 3, 4, 5, 6, 7, 8, 9, 10, 11, 12, 13, 14, 15, 16] (wr := [(Ax, .inr (4, [.ref Bx, .int rc, .ref Aw, .ref As, .ref Ag, .ref Ae, .ref Af, .int ans, .int rfc, .int rfb])), (Bx, .inl (cI, 60, .inl row)), (Ag, .inr (0, [.ref Agu, .ref Agd])), (Agu, .inr (1, [.ref Bgu, .int ngu])), (Bgu, .inl (cI, 64, .inl lgu)), (Agd, .inr (1, [.ref Bgd, .int ngd])), (Bgd, .inl (cI, 64, .inl lgd)), (Ae, .inr (0, [.ref Aeu, .ref Aed])), (Aeu, .inr (1, [.ref Beu, .int neu])), (Beu, .inl (cI, 64, .inl leu)), (Aed, .inr (1, [.ref Bed, .int ned])), (Bed, .inl (cI, 64, .inl led)), (Af, .inr (0, [.ref Afu, .ref Afd])), (Afu, .inr (1, [.ref Bfu, .int nfu])), (Bfu, .inl (cI, 64, .inl lfu)), (Afd, .inr (1, [.ref Bfd, .int nfd])), (Bfd, .inl (cI, 64, .inl lfd))]) (wn := fun u : (Nat → Int32) × (Int32) × (Nat → Int32) × (Int32) => (wX4 cI cJ Ax Bx Aw As Asm Bsm Ast Bst Ag Agu Bgu Agd Bgd Ae Aeu Beu Aed Bed Af Afu Bfu Afd Bfd row rc wa wb wlo whi wtot u.1 u.2.1 u.2.2.1 u.2.2.2 lgu ngu lgd ngd leu neu led ned lfu nfu lfd nfd ans rfc rfb)) rfl rfl (by decide) (by decide) (by decide) (by decide) (fun _ => rfl) (rest := []) (q0 := 0) rfl rfl rfl hl.1 rfl (Nat.le_of_ble_eq_true rfl) (Nat.zero_le _) (Nat.zero_le _) dX4_least_58 (fun r_12 u H locs hw hP hD hS => ?_)
          obtain ⟨hzr_12, hw⟩ := hw
          obtain ⟨lsm_13, nsm_14, lst_15, nst_16⟩ := u
          have hP : va_P G vwCl (wX4 cI cJ Ax Bx Aw As Asm Bsm Ast Bst Ag Agu Bgu Agd Bgd Ae Aeu Beu Aed Bed Af Afu Bfu Afd Bfd row rc wa wb wlo whi wtot lsm_13 nsm_14 lst_15 nst_16 lgu ngu lgd ngd leu neu led ned lfu nfu lfd nfd ans rfc rfb) H := hP
          have hD : va_D A (wX4 cI cJ Ax Bx Aw As Asm Bsm Ast Bst Ag Agu Bgu Agd Bgd Ae Aeu Beu Aed Bed Af Afu Bfu Afd Bfd row rc wa wb wlo whi wtot lsm_13 nsm_14 lst_15 nst_16 lgu ngu lgd ngd leu neu led ned lfu nfu lfd nfd ans rfc rfb) := hD
          refine lv_if_eq (tgt := 70) hx hb dX4_least_61 (by decide) (fun c_19 => ?_) (fun c_19 => ?_)
          · have hw := hw.1 c_19
            refine lv_iload hx hb dX4_least_70 (lv_at hl 0 rfl) ?_
            refine lv_istore_n (lv' := [(2, .int v_11), (5, .int v_11), (4, .int i4_3), (3, .int i3_4), (0, .ref Ax), (1, .int p0)]) hx hb dX4_least_72 rfl hl (by decide) rfl (fun ls hl => ?_)
            obtain ⟨i4_17, ei4_17⟩ : ∃ y : Int32, y = i4_3 + 1 := ⟨_, rfl⟩
            have hw := hw i4_17 ei4_17
            refine lv_iinc (v := i4_17) (lv' := [(4, .int i4_17), (2, .int v_11), (5, .int v_11), (3, .int i3_4), (0, .ref Ax), (1, .int p0)]) hx hb dX4_least_73 hl (k := 2) rfl (by rw [ei4_17]; rfl) (by decide) rfl (fun ls hl => ?_)
            refine lv_goto (tgt := 26) hx hb dX4_least_76 (by decide) ?_
            exact ihI26_10 _ (by rw [← hNI26_10]; exact hw.2) i4_17 i3_4 v_11 lsm_13 nsm_14 lst_15 nst_16 rfl hw.1 _ _ _ hP hD hS (lv_sub hl [0, 3, 1, 4, 5] rfl)
          · have hw := hw.2 c_19
            refine lv_iload hx hb dX4_least_64 (lv_at hl 0 rfl) ?_
            refine lv_istore_n (lv' := [(3, .int v_11), (5, .int v_11), (4, .int i4_3), (2, .int i2_5), (0, .ref Ax), (1, .int p0)]) hx hb dX4_least_66 rfl hl (by decide) rfl (fun ls hl => ?_)
            refine lv_goto (tgt := 73) hx hb dX4_least_67 (by decide) ?_
            obtain ⟨i4_18, ei4_18⟩ : ∃ y : Int32, y = i4_3 + 1 := ⟨_, rfl⟩
            have hw := hw i4_18 ei4_18
            refine lv_iinc (v := i4_18) (lv' := [(4, .int i4_18), (3, .int v_11), (5, .int v_11), (2, .int i2_5), (0, .ref Ax), (1, .int p0)]) hx hb dX4_least_73 hl (k := 2) rfl (by rw [ei4_18]; rfl) (by decide) rfl (fun ls hl => ?_)
            refine lv_goto (tgt := 26) hx hb dX4_least_76 (by decide) ?_
            exact ihI26_10 _ (by rw [← hNI26_10]; exact hw.2) i4_18 v_11 i2_5 lsm_13 nsm_14 lst_15 nst_16 rfl hw.1 _ _ _ hP hD hS (lv_sub hl [0, 1, 3, 4, 5] rfl)
  · have hw := hw.2 c_22
    exact hthr _ _ _ _ hw hP hD hS hl.1 dX4_least_7 dX4_least_10 dX4_least_11 dX4_least_13 dX4_least_16
theorem fX4_ask_20 : Cond.fieldLink RX4 20 "PrivateCounts" "weights" "LPrivateCounts$Table;" ∈ wsX4_ask := by decide +kernel
theorem uX4_ask_X4 : ∀ w ∈ u_ws RX4 TX4 10, w ∈ wsX4_ask := by decide +kernel
theorem fX4_ask_27 : Cond.fieldLink RX4 27 "PrivateCounts" "series" "LPrivateCounts$Series;" ∈ wsX4_ask := by decide +kernel
theorem fX4_ask_41 : Cond.fieldLink RX4 41 "PrivateCounts" "left" "LPrivateCounts$Fraction;" ∈ wsX4_ask := by decide +kernel
theorem fX4_ask_38 : Cond.fieldLink RX4 38 "PrivateCounts" "spent" "LPrivateCounts$Fraction;" ∈ wsX4_ask := by decide +kernel
theorem fX4_ask_44 : Cond.fieldLink RX4 44 "PrivateCounts" "answered" "I" ∈ wsX4_ask := by decide +kernel
theorem fX4_ask_50 : Cond.fieldLink RX4 50 "PrivateCounts" "refusedForBudget" "I" ∈ wsX4_ask := by decide +kernel
theorem fX4_ask_131 : Cond.constant RX4 131 (-2147483648) ∈ wsX4_ask := by decide +kernel
theorem fX4_ask_47 : Cond.fieldLink RX4 47 "PrivateCounts" "refusedForCost" "I" ∈ wsX4_ask := by decide +kernel
set_option maxHeartbeats 4000000 in
set_option maxRecDepth 100000 in
theorem M_X4_ask (l : Launch) (hst : l.stackTraces = false) (sa : Nat → Nat) (G : va_G) (cI cJ : ClassId) (Ax Bx Aw As Asm Bsm Ast Bst Ag Agu Bgu Agd Bgd Ae Aeu Beu Aed Bed Af Afu Bfu Afd Bfd : Nat) (row : Nat → Int32) (rc : Int32) (wa : Int32) (wb : Int32) (wlo : Int32) (whi : Int32) (wtot : Int64) (lsm : Nat → Int32) (nsm : Int32) (lst : Nat → Int32) (nst : Int32) (lgu : Nat → Int32) (ngu : Int32) (lgd : Nat → Int32) (ngd : Int32) (leu : Nat → Int32) (neu : Int32) (led : Nat → Int32) (ned : Int32) (lfu : Nat → Int32) (nfu : Int32) (lfd : Nat → Int32) (nfd : Int32) (ans : Int32) (rfc : Int32) (rfb : Int32) (p0 : Int32) (p1 : Int32) (p2 : Int32) (p3 : Int32) (p4 : Int64) (X : Prop) (Q : Int32 → (Nat → Int32) → Int32 → (Nat → Int32) → Int32 → (Nat → Int32) → Int32 → (Nat → Int32) → Int32 → (Nat → Int32) → Int32 → (Nat → Int32) → Int32 → Int32 → Int32 → Int32 → Prop) (hw : w_X4_ask row rc wa wb wlo whi wtot lsm nsm lst nst leu neu led ned lfu nfu lfd nfd ans rfc rfb p0 p1 p2 p3 p4 X Q) : Kxi l yX4_ask wsX4_ask rm_X4_ask xTx sa G cI cJ [.ref Ax, .int p0, .int p1, .int p2, .int p3, .long p4] (wX4 cI cJ Ax Bx Aw As Asm Bsm Ast Bst Ag Agu Bgu Agd Bgd Ae Aeu Beu Aed Bed Af Afu Bfu Afd Bfd row rc wa wb wlo whi wtot lsm nsm lst nst lgu ngu lgd ngd leu neu led ned lfu nfu lfd nfd ans rfc rfb) (fun (r : Int32) (u : (Nat → Int32) × (Int32) × (Nat → Int32) × (Int32) × (Nat → Int32) × (Int32) × (Nat → Int32) × (Int32) × (Nat → Int32) × (Int32) × (Nat → Int32) × (Int32) × (Int32) × (Int32) × (Int32)) => Q r u.1 u.2.1 u.2.2.1 u.2.2.2.1 u.2.2.2.2.1 u.2.2.2.2.2.1 u.2.2.2.2.2.2.1 u.2.2.2.2.2.2.2.1 u.2.2.2.2.2.2.2.2.1 u.2.2.2.2.2.2.2.2.2.1 u.2.2.2.2.2.2.2.2.2.2.1 u.2.2.2.2.2.2.2.2.2.2.2.1 u.2.2.2.2.2.2.2.2.2.2.2.2.1 u.2.2.2.2.2.2.2.2.2.2.2.2.2.1 u.2.2.2.2.2.2.2.2.2.2.2.2.2.2) (fun u => (wX4 cI cJ Ax Bx Aw As Asm Bsm Ast Bst Ag Agu Bgu Agd Bgd Ae Aeu Beu Aed Bed Af Afu Bfu Afd Bfd row rc wa wb wlo whi wtot u.1 u.2.1 u.2.2.1 u.2.2.2.1 lgu ngu lgd ngd u.2.2.2.2.1 u.2.2.2.2.2.1 u.2.2.2.2.2.2.1 u.2.2.2.2.2.2.2.1 u.2.2.2.2.2.2.2.2.1 u.2.2.2.2.2.2.2.2.2.1 u.2.2.2.2.2.2.2.2.2.2.1 u.2.2.2.2.2.2.2.2.2.2.2.1 u.2.2.2.2.2.2.2.2.2.2.2.2.1 u.2.2.2.2.2.2.2.2.2.2.2.2.2.1 u.2.2.2.2.2.2.2.2.2.2.2.2.2.2)) "java/lang/IllegalArgumentException" X := by
  refine kxi_intro (cc := cX4_ask) (maxL := 7) (E := "java/lang/IllegalArgumentException") (text := "p, q or the coin are not as told") 64 129 68 hst (Nat.le_refl _) (Nat.le_refl _) (Nat.le_of_ble_eq_true rfl) (Nat.le_of_ble_eq_true rfl) (by decide) rfl rfl (Nat.le_of_ble_eq_true rfl) (by decide +kernel) (by decide +kernel) (by decide +kernel) (by decide +kernel) (by decide +kernel) (by decide +kernel) (by decide +kernel) ?_
  intro p e s m args below meth c A Z ls hx hb hml hts hown hP hK hD hS hA hl hret hthr
  have hl : lv_has ls 7 [(0, .ref Ax), (1, .int p0), (2, .int p1), (3, .int p2), (4, .int p3), (5, .long p4)] := hl
  unfold w_X4_ask at hw
  refine lv_iload_n hx hb dX4_ask_0 rfl (lv_at hl 3 rfl) ?_
  refine lv_iload hx hb dX4_ask_1 (lv_at hl 4 rfl) ?_
  refine k_Si (M_X4_isCost l G cI cJ p2 p3 _ hw) ⟨hx, hb, hml, hown, hts⟩ (va_cwS 2 hts gX4_ask_X4_isCost rfl rfl rfl (by decide +kernel) ⟨Nat.le_of_ble_eq_true rfl, Nat.le_of_ble_eq_true rfl⟩) hK hP hD hS hA [] [0, 1, 2, 3, 4, 5, 6, 7, 8, 9, 10, 11, 12, 13, 14, 15, 16, 17, 18, 19, 20, 21, 22] [0, 1, 2, 3, 4, 5, 6, 7, 8, 9, 10, 11, 12, 13, 14, 15, 16, 17, 18, 19, 20, 21, 22] (wr := [(Ax, .inr (4, [.ref Bx, .int rc, .ref Aw, .ref As, .ref Ag, .ref Ae, .ref Af, .int ans, .int rfc, .int rfb])), (Bx, .inl (cI, 60, .inl row)), (Aw, .inr (3, [.int wa, .int wb, .int wlo, .int whi, .long wtot])), (As, .inr (2, [.ref Asm, .ref Ast])), (Asm, .inr (1, [.ref Bsm, .int nsm])), (Bsm, .inl (cI, 64, .inl lsm)), (Ast, .inr (1, [.ref Bst, .int nst])), (Bst, .inl (cI, 64, .inl lst)), (Ag, .inr (0, [.ref Agu, .ref Agd])), (Agu, .inr (1, [.ref Bgu, .int ngu])), (Bgu, .inl (cI, 64, .inl lgu)), (Agd, .inr (1, [.ref Bgd, .int ngd])), (Bgd, .inl (cI, 64, .inl lgd)), (Ae, .inr (0, [.ref Aeu, .ref Aed])), (Aeu, .inr (1, [.ref Beu, .int neu])), (Beu, .inl (cI, 64, .inl leu)), (Aed, .inr (1, [.ref Bed, .int ned])), (Bed, .inl (cI, 64, .inl led)), (Af, .inr (0, [.ref Afu, .ref Afd])), (Afu, .inr (1, [.ref Bfu, .int nfu])), (Bfu, .inl (cI, 64, .inl lfu)), (Afd, .inr (1, [.ref Bfd, .int nfd])), (Bfd, .inl (cI, 64, .inl lfd))]) (wn := fun u : Unit => (wX4 cI cJ Ax Bx Aw As Asm Bsm Ast Bst Ag Agu Bgu Agd Bgd Ae Aeu Beu Aed Bed Af Afu Bfu Afd Bfd row rc wa wb wlo whi wtot lsm nsm lst nst lgu ngu lgd ngd leu neu led ned lfu nfu lfd nfd ans rfc rfb)) rfl rfl (by decide) (by decide) (by decide) (by decide) (fun _ => rfl) (rest := []) rfl hl.1 rfl (Nat.le_of_ble_eq_true rfl) (Nat.zero_le _) (Nat.zero_le _) dX4_ask_3 (fun r_1 u H locs hw hP hD hS => ?_)
  obtain ⟨hzr_1, hw⟩ := hw
  refine lv_if_eq (tgt := 21) hx hb dX4_ask_6 (by decide) (fun c_26 => ?_) (fun c_26 => ?_)
  · have hw := hw.1 c_26
    exact hthr _ _ _ _ hw hP hD hS hl.1 dX4_ask_21 dX4_ask_24 dX4_ask_25 dX4_ask_27 dX4_ask_30
  · have hw := hw.2 c_26
    refine lv_aload_n hx hb dX4_ask_9 rfl (lv_at hl 0 rfl) ?_
    refine k_get hx hb hts uX4_ask_X4 hown hK hP 0 4 rfl rfl 2 (by decide) fX4_ask_20 (.ref Aw) rfl dX4_ask_10 ?_
    refine lv_lload hx hb dX4_ask_13 (lv_at hl 5 rfl) ?_
    refine k_Vi (M_X3_hasCoin l G cI cJ Aw wa wb wlo whi wtot p4 _ hw) ⟨hx, hb, hml, hown, hts⟩ (cwV 1 hts gX4_ask_X3_hasCoin rfl rfl rfl (by decide +kernel) ⟨Nat.le_of_ble_eq_true rfl, Nat.le_of_ble_eq_true rfl⟩) hK hP hD hS hA [2] [0, 1, 3, 4, 5, 6, 7, 8, 9, 10, 11, 12, 13, 14, 15, 16, 17, 18, 19, 20, 21, 22] [0, 1, 22, 2, 3, 4, 5, 6, 7, 8, 9, 10, 11, 12, 13, 14, 15, 16, 17, 18, 19, 20, 21] (wr := [(Ax, .inr (4, [.ref Bx, .int rc, .ref Aw, .ref As, .ref Ag, .ref Ae, .ref Af, .int ans, .int rfc, .int rfb])), (Bx, .inl (cI, 60, .inl row)), (As, .inr (2, [.ref Asm, .ref Ast])), (Asm, .inr (1, [.ref Bsm, .int nsm])), (Bsm, .inl (cI, 64, .inl lsm)), (Ast, .inr (1, [.ref Bst, .int nst])), (Bst, .inl (cI, 64, .inl lst)), (Ag, .inr (0, [.ref Agu, .ref Agd])), (Agu, .inr (1, [.ref Bgu, .int ngu])), (Bgu, .inl (cI, 64, .inl lgu)), (Agd, .inr (1, [.ref Bgd, .int ngd])), (Bgd, .inl (cI, 64, .inl lgd)), (Ae, .inr (0, [.ref Aeu, .ref Aed])), (Aeu, .inr (1, [.ref Beu, .int neu])), (Beu, .inl (cI, 64, .inl leu)), (Aed, .inr (1, [.ref Bed, .int ned])), (Bed, .inl (cI, 64, .inl led)), (Af, .inr (0, [.ref Afu, .ref Afd])), (Afu, .inr (1, [.ref Bfu, .int nfu])), (Bfu, .inl (cI, 64, .inl lfu)), (Afd, .inr (1, [.ref Bfd, .int nfd])), (Bfd, .inl (cI, 64, .inl lfd))]) (wn := fun u : Unit => (wX4 cI cJ Ax Bx Aw As Asm Bsm Ast Bst Ag Agu Bgu Agd Bgd Ae Aeu Beu Aed Bed Af Afu Bfu Afd Bfd row rc wa wb wlo whi wtot lsm nsm lst nst lgu ngu lgd ngd leu neu led ned lfu nfu lfd nfd ans rfc rfb)) rfl rfl (by decide) (by decide) (by decide) (by decide) (fun _ => rfl) (rest := []) (q0 := 0) rfl rfl rfl hl.1 rfl (Nat.le_of_ble_eq_true rfl) (Nat.zero_le _) (Nat.zero_le _) dX4_ask_15 (fun r_2 u H locs hw hP hD hS => ?_)
    obtain ⟨hzr_2, hw⟩ := hw
    refine lv_if_ne (tgt := 31) hx hb dX4_ask_18 (by decide) (fun c_25 => ?_) (fun c_25 => ?_)
    · have hw := hw.1 c_25
      refine lv_aload_n hx hb dX4_ask_31 rfl (lv_at hl 0 rfl) ?_
      refine k_get hx hb hts uX4_ask_X4 hown hK hP 0 4 rfl rfl 3 (by decide) fX4_ask_27 (.ref As) rfl dX4_ask_32 ?_
      refine lv_aload_n hx hb dX4_ask_35 rfl (lv_at hl 0 rfl) ?_
      refine k_get hx hb hts uX4_ask_X4 hown hK hP 0 4 rfl rfl 2 (by decide) fX4_ask_20 (.ref Aw) rfl dX4_ask_36 ?_
      refine lv_iload_n hx hb dX4_ask_39 rfl (lv_at hl 3 rfl) ?_
      refine lv_iload hx hb dX4_ask_40 (lv_at hl 4 rfl) ?_
      refine k_Vi (M_X2_reaches l G cI cJ As Asm Bsm Ast Bst Aw lsm nsm lst nst wa wb wlo whi wtot p2 p3 _ hw) ⟨hx, hb, hml, hown, hts⟩ (cwV 3 hts gX4_ask_X2_reaches rfl rfl rfl (by decide +kernel) ⟨Nat.le_of_ble_eq_true rfl, Nat.le_of_ble_eq_true rfl⟩) hK hP hD hS hA [3, 4, 5, 6, 7, 2] [0, 1, 8, 9, 10, 11, 12, 13, 14, 15, 16, 17, 18, 19, 20, 21, 22] [0, 1, 22, 17, 18, 19, 20, 21, 2, 3, 4, 5, 6, 7, 8, 9, 10, 11, 12, 13, 14, 15, 16] (wr := [(Ax, .inr (4, [.ref Bx, .int rc, .ref Aw, .ref As, .ref Ag, .ref Ae, .ref Af, .int ans, .int rfc, .int rfb])), (Bx, .inl (cI, 60, .inl row)), (Ag, .inr (0, [.ref Agu, .ref Agd])), (Agu, .inr (1, [.ref Bgu, .int ngu])), (Bgu, .inl (cI, 64, .inl lgu)), (Agd, .inr (1, [.ref Bgd, .int ngd])), (Bgd, .inl (cI, 64, .inl lgd)), (Ae, .inr (0, [.ref Aeu, .ref Aed])), (Aeu, .inr (1, [.ref Beu, .int neu])), (Beu, .inl (cI, 64, .inl leu)), (Aed, .inr (1, [.ref Bed, .int ned])), (Bed, .inl (cI, 64, .inl led)), (Af, .inr (0, [.ref Afu, .ref Afd])), (Afu, .inr (1, [.ref Bfu, .int nfu])), (Bfu, .inl (cI, 64, .inl lfu)), (Afd, .inr (1, [.ref Bfd, .int nfd])), (Bfd, .inl (cI, 64, .inl lfd))]) (wn := fun u : (Nat → Int32) × (Int32) × (Nat → Int32) × (Int32) => (wX4 cI cJ Ax Bx Aw As Asm Bsm Ast Bst Ag Agu Bgu Agd Bgd Ae Aeu Beu Aed Bed Af Afu Bfu Afd Bfd row rc wa wb wlo whi wtot u.1 u.2.1 u.2.2.1 u.2.2.2 lgu ngu lgd ngd leu neu led ned lfu nfu lfd nfd ans rfc rfb)) rfl rfl (by decide) (by decide) (by decide) (by decide) (fun _ => rfl) (rest := []) (q0 := 0) rfl rfl rfl hl.1 rfl (Nat.le_of_ble_eq_true rfl) (Nat.zero_le _) (Nat.zero_le _) dX4_ask_42 (fun r_3 u H locs hw hP hD hS => ?_)
      obtain ⟨hzr_3, hw⟩ := hw
      obtain ⟨lsm_4, nsm_5, lst_6, nst_7⟩ := u
      have hP : va_P G vwCl (wX4 cI cJ Ax Bx Aw As Asm Bsm Ast Bst Ag Agu Bgu Agd Bgd Ae Aeu Beu Aed Bed Af Afu Bfu Afd Bfd row rc wa wb wlo whi wtot lsm_4 nsm_5 lst_6 nst_7 lgu ngu lgd ngd leu neu led ned lfu nfu lfd nfd ans rfc rfb) H := hP
      have hD : va_D A (wX4 cI cJ Ax Bx Aw As Asm Bsm Ast Bst Ag Agu Bgu Agd Bgd Ae Aeu Beu Aed Bed Af Afu Bfu Afd Bfd row rc wa wb wlo whi wtot lsm_4 nsm_5 lst_6 nst_7 lgu ngu lgd ngd leu neu led ned lfu nfu lfd nfd ans rfc rfb) := hD
      refine lv_if_ne (tgt := 61) hx hb dX4_ask_45 (by decide) (fun c_24 => ?_) (fun c_24 => ?_)
      · have hw := hw.1 c_24
        refine lv_aload_n hx hb dX4_ask_61 rfl (lv_at hl 0 rfl) ?_
        refine k_get hx hb hts uX4_ask_X4 hown hK hP 0 4 rfl rfl 6 (by decide) fX4_ask_41 (.ref Af) rfl dX4_ask_62 ?_
        refine lv_iload_n hx hb dX4_ask_65 rfl (lv_at hl 3 rfl) ?_
        refine lv_iload hx hb dX4_ask_66 (lv_at hl 4 rfl) ?_
        refine k_Vi (M_X0_isLessThan l G cI cJ Af Afu Bfu Afd Bfd lfu nfu lfd nfd p2 p3 _ hw) ⟨hx, hb, hml, hown, hts⟩ (cwV 2 hts gX4_ask_X0_isLessThan rfl rfl rfl (by decide +kernel) ⟨Nat.le_of_ble_eq_true rfl, Nat.le_of_ble_eq_true rfl⟩) hK hP hD hS hA [18, 19, 20, 21, 22] [0, 1, 2, 3, 4, 5, 6, 7, 8, 9, 10, 11, 12, 13, 14, 15, 16, 17] [0, 1, 2, 3, 4, 5, 6, 7, 8, 9, 10, 11, 12, 13, 14, 15, 16, 17, 18, 19, 20, 21, 22] (wr := [(Ax, .inr (4, [.ref Bx, .int rc, .ref Aw, .ref As, .ref Ag, .ref Ae, .ref Af, .int ans, .int rfc, .int rfb])), (Bx, .inl (cI, 60, .inl row)), (Aw, .inr (3, [.int wa, .int wb, .int wlo, .int whi, .long wtot])), (As, .inr (2, [.ref Asm, .ref Ast])), (Asm, .inr (1, [.ref Bsm, .int nsm_5])), (Bsm, .inl (cI, 64, .inl lsm_4)), (Ast, .inr (1, [.ref Bst, .int nst_7])), (Bst, .inl (cI, 64, .inl lst_6)), (Ag, .inr (0, [.ref Agu, .ref Agd])), (Agu, .inr (1, [.ref Bgu, .int ngu])), (Bgu, .inl (cI, 64, .inl lgu)), (Agd, .inr (1, [.ref Bgd, .int ngd])), (Bgd, .inl (cI, 64, .inl lgd)), (Ae, .inr (0, [.ref Aeu, .ref Aed])), (Aeu, .inr (1, [.ref Beu, .int neu])), (Beu, .inl (cI, 64, .inl leu)), (Aed, .inr (1, [.ref Bed, .int ned])), (Bed, .inl (cI, 64, .inl led))]) (wn := fun u : Unit => (wX4 cI cJ Ax Bx Aw As Asm Bsm Ast Bst Ag Agu Bgu Agd Bgd Ae Aeu Beu Aed Bed Af Afu Bfu Afd Bfd row rc wa wb wlo whi wtot lsm_4 nsm_5 lst_6 nst_7 lgu ngu lgd ngd leu neu led ned lfu nfu lfd nfd ans rfc rfb)) rfl rfl (by decide) (by decide) (by decide) (by decide) (fun _ => rfl) (rest := []) (q0 := 0) rfl rfl rfl hl.1 rfl (Nat.le_of_ble_eq_true rfl) (Nat.zero_le _) (Nat.zero_le _) dX4_ask_68 (fun r_8 u H locs hw hP hD hS => ?_)
        obtain ⟨hzr_8, hw⟩ := hw
        refine lv_if_eq (tgt := 87) hx hb dX4_ask_71 (by decide) (fun c_22 => ?_) (fun c_22 => ?_)
        · have hw := hw.1 c_22
          refine lv_aload_n hx hb dX4_ask_87 rfl (lv_at hl 0 rfl) ?_
          refine k_get hx hb hts uX4_ask_X4 hown hK hP 0 4 rfl rfl 5 (by decide) fX4_ask_38 (.ref Ae) rfl dX4_ask_88 ?_
          refine lv_iload_n hx hb dX4_ask_91 rfl (lv_at hl 3 rfl) ?_
          refine lv_iload hx hb dX4_ask_92 (lv_at hl 4 rfl) ?_
          refine k_Vv (M_X0_increase l G cI cJ Ae Aeu Beu Aed Bed leu neu led ned p2 p3 _ hw) ⟨hx, hb, hml, hown, hts⟩ (cwV 2 hts gX4_ask_X0_increase rfl rfl rfl (by decide +kernel) ⟨Nat.le_of_ble_eq_true rfl, Nat.le_of_ble_eq_true rfl⟩) hK hP hD hS hA [13, 14, 15, 16, 17] [0, 1, 2, 3, 4, 5, 6, 7, 8, 9, 10, 11, 12, 18, 19, 20, 21, 22] [0, 1, 2, 3, 4, 5, 6, 7, 8, 9, 10, 11, 12, 18, 19, 20, 21, 22, 13, 14, 15, 16, 17] (wr := [(Ax, .inr (4, [.ref Bx, .int rc, .ref Aw, .ref As, .ref Ag, .ref Ae, .ref Af, .int ans, .int rfc, .int rfb])), (Bx, .inl (cI, 60, .inl row)), (Aw, .inr (3, [.int wa, .int wb, .int wlo, .int whi, .long wtot])), (As, .inr (2, [.ref Asm, .ref Ast])), (Asm, .inr (1, [.ref Bsm, .int nsm_5])), (Bsm, .inl (cI, 64, .inl lsm_4)), (Ast, .inr (1, [.ref Bst, .int nst_7])), (Bst, .inl (cI, 64, .inl lst_6)), (Ag, .inr (0, [.ref Agu, .ref Agd])), (Agu, .inr (1, [.ref Bgu, .int ngu])), (Bgu, .inl (cI, 64, .inl lgu)), (Agd, .inr (1, [.ref Bgd, .int ngd])), (Bgd, .inl (cI, 64, .inl lgd)), (Af, .inr (0, [.ref Afu, .ref Afd])), (Afu, .inr (1, [.ref Bfu, .int nfu])), (Bfu, .inl (cI, 64, .inl lfu)), (Afd, .inr (1, [.ref Bfd, .int nfd])), (Bfd, .inl (cI, 64, .inl lfd))]) (wn := fun u : (Nat → Int32) × (Int32) × (Nat → Int32) × (Int32) => (wX4 cI cJ Ax Bx Aw As Asm Bsm Ast Bst Ag Agu Bgu Agd Bgd Ae Aeu Beu Aed Bed Af Afu Bfu Afd Bfd row rc wa wb wlo whi wtot lsm_4 nsm_5 lst_6 nst_7 lgu ngu lgd ngd u.1 u.2.1 u.2.2.1 u.2.2.2 lfu nfu lfd nfd ans rfc rfb)) rfl rfl (by decide) (by decide) (by decide) (by decide) (fun _ => rfl) (rest := []) (q0 := 0) rfl rfl rfl hl.1 rfl (Nat.le_of_ble_eq_true rfl) (Nat.zero_le _) (Nat.zero_le _) dX4_ask_94 (fun u H locs hw hP hD hS => ?_)
          obtain ⟨leu_9, neu_10, led_11, ned_12⟩ := u
          have hP : va_P G vwCl (wX4 cI cJ Ax Bx Aw As Asm Bsm Ast Bst Ag Agu Bgu Agd Bgd Ae Aeu Beu Aed Bed Af Afu Bfu Afd Bfd row rc wa wb wlo whi wtot lsm_4 nsm_5 lst_6 nst_7 lgu ngu lgd ngd leu_9 neu_10 led_11 ned_12 lfu nfu lfd nfd ans rfc rfb) H := hP
          have hD : va_D A (wX4 cI cJ Ax Bx Aw As Asm Bsm Ast Bst Ag Agu Bgu Agd Bgd Ae Aeu Beu Aed Bed Af Afu Bfu Afd Bfd row rc wa wb wlo whi wtot lsm_4 nsm_5 lst_6 nst_7 lgu ngu lgd ngd leu_9 neu_10 led_11 ned_12 lfu nfu lfd nfd ans rfc rfb) := hD
          refine lv_aload_n hx hb dX4_ask_97 rfl (lv_at hl 0 rfl) ?_
          refine k_get hx hb hts uX4_ask_X4 hown hK hP 0 4 rfl rfl 6 (by decide) fX4_ask_41 (.ref Af) rfl dX4_ask_98 ?_
          refine lv_iload_n hx hb dX4_ask_101 rfl (lv_at hl 3 rfl) ?_
          refine lv_iload hx hb dX4_ask_102 (lv_at hl 4 rfl) ?_
          refine k_Vv (M_X0_decrease l G cI cJ Af Afu Bfu Afd Bfd lfu nfu lfd nfd p2 p3 _ hw) ⟨hx, hb, hml, hown, hts⟩ (cwV 2 hts gX4_ask_X0_decrease rfl rfl rfl (by decide +kernel) ⟨Nat.le_of_ble_eq_true rfl, Nat.le_of_ble_eq_true rfl⟩) hK hP hD hS hA [18, 19, 20, 21, 22] [0, 1, 2, 3, 4, 5, 6, 7, 8, 9, 10, 11, 12, 13, 14, 15, 16, 17] [0, 1, 2, 3, 4, 5, 6, 7, 8, 9, 10, 11, 12, 13, 14, 15, 16, 17, 18, 19, 20, 21, 22] (wr := [(Ax, .inr (4, [.ref Bx, .int rc, .ref Aw, .ref As, .ref Ag, .ref Ae, .ref Af, .int ans, .int rfc, .int rfb])), (Bx, .inl (cI, 60, .inl row)), (Aw, .inr (3, [.int wa, .int wb, .int wlo, .int whi, .long wtot])), (As, .inr (2, [.ref Asm, .ref Ast])), (Asm, .inr (1, [.ref Bsm, .int nsm_5])), (Bsm, .inl (cI, 64, .inl lsm_4)), (Ast, .inr (1, [.ref Bst, .int nst_7])), (Bst, .inl (cI, 64, .inl lst_6)), (Ag, .inr (0, [.ref Agu, .ref Agd])), (Agu, .inr (1, [.ref Bgu, .int ngu])), (Bgu, .inl (cI, 64, .inl lgu)), (Agd, .inr (1, [.ref Bgd, .int ngd])), (Bgd, .inl (cI, 64, .inl lgd)), (Ae, .inr (0, [.ref Aeu, .ref Aed])), (Aeu, .inr (1, [.ref Beu, .int neu_10])), (Beu, .inl (cI, 64, .inl leu_9)), (Aed, .inr (1, [.ref Bed, .int ned_12])), (Bed, .inl (cI, 64, .inl led_11))]) (wn := fun u : (Nat → Int32) × (Int32) × (Nat → Int32) × (Int32) => (wX4 cI cJ Ax Bx Aw As Asm Bsm Ast Bst Ag Agu Bgu Agd Bgd Ae Aeu Beu Aed Bed Af Afu Bfu Afd Bfd row rc wa wb wlo whi wtot lsm_4 nsm_5 lst_6 nst_7 lgu ngu lgd ngd leu_9 neu_10 led_11 ned_12 u.1 u.2.1 u.2.2.1 u.2.2.2 ans rfc rfb)) rfl rfl (by decide) (by decide) (by decide) (by decide) (fun _ => rfl) (rest := []) (q0 := 0) rfl rfl rfl hl.1 rfl (Nat.le_of_ble_eq_true rfl) (Nat.zero_le _) (Nat.zero_le _) dX4_ask_104 (fun u H locs hw hP hD hS => ?_)
          obtain ⟨lfu_13, nfu_14, lfd_15, nfd_16⟩ := u
          have hP : va_P G vwCl (wX4 cI cJ Ax Bx Aw As Asm Bsm Ast Bst Ag Agu Bgu Agd Bgd Ae Aeu Beu Aed Bed Af Afu Bfu Afd Bfd row rc wa wb wlo whi wtot lsm_4 nsm_5 lst_6 nst_7 lgu ngu lgd ngd leu_9 neu_10 led_11 ned_12 lfu_13 nfu_14 lfd_15 nfd_16 ans rfc rfb) H := hP
          have hD : va_D A (wX4 cI cJ Ax Bx Aw As Asm Bsm Ast Bst Ag Agu Bgu Agd Bgd Ae Aeu Beu Aed Bed Af Afu Bfu Afd Bfd row rc wa wb wlo whi wtot lsm_4 nsm_5 lst_6 nst_7 lgu ngu lgd ngd leu_9 neu_10 led_11 ned_12 lfu_13 nfu_14 lfd_15 nfd_16 ans rfc rfb) := hD
          refine lv_aload_n hx hb dX4_ask_107 rfl (lv_at hl 0 rfl) ?_
          refine lv_dup hx hb dX4_ask_108 rfl ?_
          refine k_get hx hb hts uX4_ask_X4 hown hK hP 0 4 rfl rfl 7 (by decide) fX4_ask_44 (.int ans) rfl dX4_ask_109 ?_
          refine lv_iconst (v := 1) hx hb dX4_ask_112 (by decide) ?_
          refine lv_iadd hx hb dX4_ask_113 ?_
          refine lv_topi (fun ans_17 eans_17 => ?_)
          have hw := hw ans_17 eans_17
          refine k_put hx hb hts uX4_ask_X4 tyX4 tyX4_ok nmX4 hown hK hP hD hS 0 4 rfl rfl 7 (by decide) fX4_ask_44 rfl rfl rfl (Nat.le_of_ble_eq_true rfl) (w' := (wX4 cI cJ Ax Bx Aw As Asm Bsm Ast Bst Ag Agu Bgu Agd Bgd Ae Aeu Beu Aed Bed Af Afu Bfu Afd Bfd row rc wa wb wlo whi wtot lsm_4 nsm_5 lst_6 nst_7 lgu ngu lgd ngd leu_9 neu_10 led_11 ned_12 lfu_13 nfu_14 lfd_15 nfd_16 ans_17 rfc rfb)) rfl dX4_ask_114 (fun H locs hP hD hS => ?_)
          refine lv_aload_n hx hb dX4_ask_117 rfl (lv_at hl 0 rfl) ?_
          refine k_get hx hb hts uX4_ask_X4 hown hK hP 0 4 rfl rfl 2 (by decide) fX4_ask_20 (.ref Aw) rfl dX4_ask_118 ?_
          refine lv_aload_n hx hb dX4_ask_121 rfl (lv_at hl 0 rfl) ?_
          refine k_get hx hb hts uX4_ask_X4 hown hK hP 0 4 rfl rfl 2 (by decide) fX4_ask_20 (.ref Aw) rfl dX4_ask_122 ?_
          refine lv_aload_n hx hb dX4_ask_125 rfl (lv_at hl 0 rfl) ?_
          refine lv_iload_n hx hb dX4_ask_126 rfl (lv_at hl 1 rfl) ?_
          refine lv_iload_n hx hb dX4_ask_127 rfl (lv_at hl 2 rfl) ?_
          refine k_Vi (M_X4_count l G cI cJ Ax Bx Aw As Asm Bsm Ast Bst Ag Agu Bgu Agd Bgd Ae Aeu Beu Aed Bed Af Afu Bfu Afd Bfd row rc wa wb wlo whi wtot lsm_4 nsm_5 lst_6 nst_7 lgu ngu lgd ngd leu_9 neu_10 led_11 ned_12 lfu_13 nfu_14 lfd_15 nfd_16 ans_17 rfc rfb p0 p1 _ hw) ⟨hx, hb, hml, hown, hts⟩ (cwV 2 hts gX4_ask_X4_count rfl rfl rfl (by decide +kernel) ⟨Nat.le_of_ble_eq_true rfl, Nat.le_of_ble_eq_true rfl⟩) hK hP hD hS hA [0, 1, 2, 3, 4, 5, 6, 7, 8, 9, 10, 11, 12, 13, 14, 15, 16, 17, 18, 19, 20, 21, 22] [] [0, 1, 2, 3, 4, 5, 6, 7, 8, 9, 10, 11, 12, 13, 14, 15, 16, 17, 18, 19, 20, 21, 22] (wr := []) (wn := fun u : Unit => (wX4 cI cJ Ax Bx Aw As Asm Bsm Ast Bst Ag Agu Bgu Agd Bgd Ae Aeu Beu Aed Bed Af Afu Bfu Afd Bfd row rc wa wb wlo whi wtot lsm_4 nsm_5 lst_6 nst_7 lgu ngu lgd ngd leu_9 neu_10 led_11 ned_12 lfu_13 nfu_14 lfd_15 nfd_16 ans_17 rfc rfb)) rfl rfl (by decide) (by decide) (by decide) (by decide) (fun _ => rfl) (rest := [.ref Aw, .ref Aw]) (q0 := 0) rfl rfl rfl hl.1 rfl (Nat.le_of_ble_eq_true rfl) (Nat.zero_le _) (Nat.zero_le _) dX4_ask_128 (fun r_18 u H locs hw hP hD hS => ?_)
          refine k_Vi (M_X3_nearestTo l G cI cJ Aw wa wb wlo whi wtot r_18 _ hw) ⟨hx, hb, hml, hown, hts⟩ (cwV 1 hts gX4_ask_X3_nearestTo rfl rfl rfl (by decide +kernel) ⟨Nat.le_of_ble_eq_true rfl, Nat.le_of_ble_eq_true rfl⟩) hK hP hD hS hA [2] [0, 1, 3, 4, 5, 6, 7, 8, 9, 10, 11, 12, 13, 14, 15, 16, 17, 18, 19, 20, 21, 22] [0, 1, 22, 2, 3, 4, 5, 6, 7, 8, 9, 10, 11, 12, 13, 14, 15, 16, 17, 18, 19, 20, 21] (wr := [(Ax, .inr (4, [.ref Bx, .int rc, .ref Aw, .ref As, .ref Ag, .ref Ae, .ref Af, .int ans_17, .int rfc, .int rfb])), (Bx, .inl (cI, 60, .inl row)), (As, .inr (2, [.ref Asm, .ref Ast])), (Asm, .inr (1, [.ref Bsm, .int nsm_5])), (Bsm, .inl (cI, 64, .inl lsm_4)), (Ast, .inr (1, [.ref Bst, .int nst_7])), (Bst, .inl (cI, 64, .inl lst_6)), (Ag, .inr (0, [.ref Agu, .ref Agd])), (Agu, .inr (1, [.ref Bgu, .int ngu])), (Bgu, .inl (cI, 64, .inl lgu)), (Agd, .inr (1, [.ref Bgd, .int ngd])), (Bgd, .inl (cI, 64, .inl lgd)), (Ae, .inr (0, [.ref Aeu, .ref Aed])), (Aeu, .inr (1, [.ref Beu, .int neu_10])), (Beu, .inl (cI, 64, .inl leu_9)), (Aed, .inr (1, [.ref Bed, .int ned_12])), (Bed, .inl (cI, 64, .inl led_11)), (Af, .inr (0, [.ref Afu, .ref Afd])), (Afu, .inr (1, [.ref Bfu, .int nfu_14])), (Bfu, .inl (cI, 64, .inl lfu_13)), (Afd, .inr (1, [.ref Bfd, .int nfd_16])), (Bfd, .inl (cI, 64, .inl lfd_15))]) (wn := fun u : Unit => (wX4 cI cJ Ax Bx Aw As Asm Bsm Ast Bst Ag Agu Bgu Agd Bgd Ae Aeu Beu Aed Bed Af Afu Bfu Afd Bfd row rc wa wb wlo whi wtot lsm_4 nsm_5 lst_6 nst_7 lgu ngu lgd ngd leu_9 neu_10 led_11 ned_12 lfu_13 nfu_14 lfd_15 nfd_16 ans_17 rfc rfb)) rfl rfl (by decide) (by decide) (by decide) (by decide) (fun _ => rfl) (rest := [.ref Aw]) (q0 := 0) rfl rfl rfl hl.1 rfl (Nat.le_of_ble_eq_true rfl) (Nat.zero_le _) (Nat.zero_le _) dX4_ask_131 (fun r_19 u H locs hw hP hD hS => ?_)
          refine lv_lload hx hb dX4_ask_134 (lv_at hl 5 rfl) ?_
          refine k_Vi (M_X3_outcomeOf l G cI cJ Aw wa wb wlo whi wtot r_19 p4 _ hw) ⟨hx, hb, hml, hown, hts⟩ (cwV 2 hts gX4_ask_X3_outcomeOf rfl rfl rfl (by decide +kernel) ⟨Nat.le_of_ble_eq_true rfl, Nat.le_of_ble_eq_true rfl⟩) hK hP hD hS hA [2] [0, 1, 3, 4, 5, 6, 7, 8, 9, 10, 11, 12, 13, 14, 15, 16, 17, 18, 19, 20, 21, 22] [0, 1, 22, 2, 3, 4, 5, 6, 7, 8, 9, 10, 11, 12, 13, 14, 15, 16, 17, 18, 19, 20, 21] (wr := [(Ax, .inr (4, [.ref Bx, .int rc, .ref Aw, .ref As, .ref Ag, .ref Ae, .ref Af, .int ans_17, .int rfc, .int rfb])), (Bx, .inl (cI, 60, .inl row)), (As, .inr (2, [.ref Asm, .ref Ast])), (Asm, .inr (1, [.ref Bsm, .int nsm_5])), (Bsm, .inl (cI, 64, .inl lsm_4)), (Ast, .inr (1, [.ref Bst, .int nst_7])), (Bst, .inl (cI, 64, .inl lst_6)), (Ag, .inr (0, [.ref Agu, .ref Agd])), (Agu, .inr (1, [.ref Bgu, .int ngu])), (Bgu, .inl (cI, 64, .inl lgu)), (Agd, .inr (1, [.ref Bgd, .int ngd])), (Bgd, .inl (cI, 64, .inl lgd)), (Ae, .inr (0, [.ref Aeu, .ref Aed])), (Aeu, .inr (1, [.ref Beu, .int neu_10])), (Beu, .inl (cI, 64, .inl leu_9)), (Aed, .inr (1, [.ref Bed, .int ned_12])), (Bed, .inl (cI, 64, .inl led_11)), (Af, .inr (0, [.ref Afu, .ref Afd])), (Afu, .inr (1, [.ref Bfu, .int nfu_14])), (Bfu, .inl (cI, 64, .inl lfu_13)), (Afd, .inr (1, [.ref Bfd, .int nfd_16])), (Bfd, .inl (cI, 64, .inl lfd_15))]) (wn := fun u : Unit => (wX4 cI cJ Ax Bx Aw As Asm Bsm Ast Bst Ag Agu Bgu Agd Bgd Ae Aeu Beu Aed Bed Af Afu Bfu Afd Bfd row rc wa wb wlo whi wtot lsm_4 nsm_5 lst_6 nst_7 lgu ngu lgd ngd leu_9 neu_10 led_11 ned_12 lfu_13 nfu_14 lfd_15 nfd_16 ans_17 rfc rfb)) rfl rfl (by decide) (by decide) (by decide) (by decide) (fun _ => rfl) (rest := []) (q0 := 0) rfl rfl rfl hl.1 rfl (Nat.le_of_ble_eq_true rfl) (Nat.zero_le _) (Nat.zero_le _) dX4_ask_136 (fun r_20 u H locs hw hP hD hS => ?_)
          exact hret _ (lsm_4, nsm_5, lst_6, nst_7, leu_9, neu_10, led_11, ned_12, lfu_13, nfu_14, lfd_15, nfd_16, ans_17, rfc, rfb) _ _ _ _ hw hP hD hS dX4_ask_139
        · have hw := hw.2 c_22
          refine lv_aload_n hx hb dX4_ask_74 rfl (lv_at hl 0 rfl) ?_
          refine lv_dup hx hb dX4_ask_75 rfl ?_
          refine k_get hx hb hts uX4_ask_X4 hown hK hP 0 4 rfl rfl 9 (by decide) fX4_ask_50 (.int rfb) rfl dX4_ask_76 ?_
          refine lv_iconst (v := 1) hx hb dX4_ask_79 (by decide) ?_
          refine lv_iadd hx hb dX4_ask_80 ?_
          refine lv_topi (fun rfb_21 erfb_21 => ?_)
          have hw := hw rfb_21 erfb_21
          refine k_put hx hb hts uX4_ask_X4 tyX4 tyX4_ok nmX4 hown hK hP hD hS 0 4 rfl rfl 9 (by decide) fX4_ask_50 rfl rfl rfl (Nat.le_of_ble_eq_true rfl) (w' := (wX4 cI cJ Ax Bx Aw As Asm Bsm Ast Bst Ag Agu Bgu Agd Bgd Ae Aeu Beu Aed Bed Af Afu Bfu Afd Bfd row rc wa wb wlo whi wtot lsm_4 nsm_5 lst_6 nst_7 lgu ngu lgd ngd leu neu led ned lfu nfu lfd nfd ans rfc rfb_21)) rfl dX4_ask_81 (fun H locs hP hD hS => ?_)
          refine lv_ldc (v := (-2147483648)) hx hb hown (hts _ fX4_ask_131) dX4_ask_84 ?_
          exact hret _ (lsm_4, nsm_5, lst_6, nst_7, leu, neu, led, ned, lfu, nfu, lfd, nfd, ans, rfc, rfb_21) _ _ _ _ hw hP hD hS dX4_ask_86
      · have hw := hw.2 c_24
        refine lv_aload_n hx hb dX4_ask_48 rfl (lv_at hl 0 rfl) ?_
        refine lv_dup hx hb dX4_ask_49 rfl ?_
        refine k_get hx hb hts uX4_ask_X4 hown hK hP 0 4 rfl rfl 8 (by decide) fX4_ask_47 (.int rfc) rfl dX4_ask_50 ?_
        refine lv_iconst (v := 1) hx hb dX4_ask_53 (by decide) ?_
        refine lv_iadd hx hb dX4_ask_54 ?_
        refine lv_topi (fun rfc_23 erfc_23 => ?_)
        have hw := hw rfc_23 erfc_23
        refine k_put hx hb hts uX4_ask_X4 tyX4 tyX4_ok nmX4 hown hK hP hD hS 0 4 rfl rfl 8 (by decide) fX4_ask_47 rfl rfl rfl (Nat.le_of_ble_eq_true rfl) (w' := (wX4 cI cJ Ax Bx Aw As Asm Bsm Ast Bst Ag Agu Bgu Agd Bgd Ae Aeu Beu Aed Bed Af Afu Bfu Afd Bfd row rc wa wb wlo whi wtot lsm_4 nsm_5 lst_6 nst_7 lgu ngu lgd ngd leu neu led ned lfu nfu lfd nfd ans rfc_23 rfb)) rfl dX4_ask_55 (fun H locs hP hD hS => ?_)
        refine lv_ldc (v := (-2147483648)) hx hb hown (hts _ fX4_ask_131) dX4_ask_58 ?_
        exact hret _ (lsm_4, nsm_5, lst_6, nst_7, leu, neu, led, ned, lfu, nfu, lfd, nfd, ans, rfc_23, rfb) _ _ _ _ hw hP hD hS dX4_ask_60
    · have hw := hw.2 c_25
      exact hthr _ _ _ _ hw hP hD hS hl.1 dX4_ask_21 dX4_ask_24 dX4_ask_25 dX4_ask_27 dX4_ask_30
theorem fX4_limb_41 : Cond.fieldLink RX4 41 "PrivateCounts" "left" "LPrivateCounts$Fraction;" ∈ wsX4_limb := by decide +kernel
theorem uX4_limb_X4 : ∀ w ∈ u_ws RX4 TX4 10, w ∈ wsX4_limb := by decide +kernel
theorem fX4_limb_152 : Cond.fieldLink RX4 152 "PrivateCounts$Fraction" "denominator" "LPrivateCounts$Natural;" ∈ wsX4_limb := by decide +kernel
theorem uX4_limb_X0 : ∀ w ∈ u_ws RX0 TX0 2, w ∈ wsX4_limb := by decide +kernel
theorem fX4_limb_155 : Cond.fieldLink RX4 155 "PrivateCounts$Natural" "size" "I" ∈ wsX4_limb := by decide +kernel
theorem uX4_limb_X1 : ∀ w ∈ u_ws RX1 TX1 2, w ∈ wsX4_limb := by decide +kernel
theorem fX4_limb_148 : Cond.fieldLink RX4 148 "PrivateCounts$Fraction" "numerator" "LPrivateCounts$Natural;" ∈ wsX4_limb := by decide +kernel
theorem fX4_limb_38 : Cond.fieldLink RX4 38 "PrivateCounts" "spent" "LPrivateCounts$Fraction;" ∈ wsX4_limb := by decide +kernel
theorem fX4_limb_34 : Cond.fieldLink RX4 34 "PrivateCounts" "granted" "LPrivateCounts$Fraction;" ∈ wsX4_limb := by decide +kernel
set_option maxHeartbeats 4000000 in
set_option maxRecDepth 100000 in
theorem M_X4_limb (l : Launch) (hst : l.stackTraces = false) (sa : Nat → Nat) (G : va_G) (cI cJ : ClassId) (Ax Bx Aw As Asm Bsm Ast Bst Ag Agu Bgu Agd Bgd Ae Aeu Beu Aed Bed Af Afu Bfu Afd Bfd : Nat) (row : Nat → Int32) (rc : Int32) (wa : Int32) (wb : Int32) (wlo : Int32) (whi : Int32) (wtot : Int64) (lsm : Nat → Int32) (nsm : Int32) (lst : Nat → Int32) (nst : Int32) (lgu : Nat → Int32) (ngu : Int32) (lgd : Nat → Int32) (ngd : Int32) (leu : Nat → Int32) (neu : Int32) (led : Nat → Int32) (ned : Int32) (lfu : Nat → Int32) (nfu : Int32) (lfd : Nat → Int32) (nfd : Int32) (ans : Int32) (rfc : Int32) (rfb : Int32) (p0 : Int32) (p1 : Int32) (p2 : Int32) (X : Prop) (Q : Int32 → Prop) (hw : w_X4_limb lgu ngu lgd ngd leu neu led ned lfu nfu lfd nfd p0 p1 p2 X Q) : Kxi l yX4_limb wsX4_limb rm_X4_limb xTx sa G cI cJ [.ref Ax, .int p0, .int p1, .int p2] (wX4 cI cJ Ax Bx Aw As Asm Bsm Ast Bst Ag Agu Bgu Agd Bgd Ae Aeu Beu Aed Bed Af Afu Bfu Afd Bfd row rc wa wb wlo whi wtot lsm nsm lst nst lgu ngu lgd ngd leu neu led ned lfu nfu lfd nfd ans rfc rfb) (fun (r : Int32) (u : Unit) => Q r) (fun u => (wX4 cI cJ Ax Bx Aw As Asm Bsm Ast Bst Ag Agu Bgu Agd Bgd Ae Aeu Beu Aed Bed Af Afu Bfu Afd Bfd row rc wa wb wlo whi wtot lsm nsm lst nst lgu ngu lgd ngd leu neu led ned lfu nfu lfd nfd ans rfc rfb)) "java/lang/IndexOutOfBoundsException" X := by
  refine kxi_intro (cc := cX4_limb) (maxL := 6) (E := "java/lang/IndexOutOfBoundsException") (text := "another which or part") 53 146 57 hst (Nat.le_refl _) (Nat.le_refl _) (Nat.le_of_ble_eq_true rfl) (Nat.le_of_ble_eq_true rfl) (by decide) rfl rfl (Nat.le_of_ble_eq_true rfl) (by decide +kernel) (by decide +kernel) (by decide +kernel) (by decide +kernel) (by decide +kernel) (by decide +kernel) (by decide +kernel) ?_
  intro p e s m args below meth c A Z ls hx hb hml hts hown hP hK hD hS hA hl hret hthr
  have hl : lv_has ls 6 [(0, .ref Ax), (1, .int p0), (2, .int p1), (3, .int p2)] := hl
  unfold w_X4_limb at hw
  refine lv_iload_n hx hb dX4_limb_0 rfl (lv_at hl 1 rfl) ?_
  refine lv_if_lt (tgt := 18) hx hb dX4_limb_1 (by decide) (fun c_33 => ?_) (fun c_33 => ?_)
  · have hw := hw.1 c_33
    exact hthr _ _ _ _ hw hP hD hS hl.1 dX4_limb_18 dX4_limb_21 dX4_limb_22 dX4_limb_24 dX4_limb_27
  · have hw := hw.2 c_33
    refine lv_iload_n hx hb dX4_limb_4 rfl (lv_at hl 1 rfl) ?_
    refine lv_iconst (v := 2) hx hb dX4_limb_5 (by decide) ?_
    refine lv_icmp_gt (tgt := 18) hx hb dX4_limb_6 (by decide) (fun c_32 => ?_) (fun c_32 => ?_)
    · have hw := hw.1 c_32
      exact hthr _ _ _ _ hw hP hD hS hl.1 dX4_limb_18 dX4_limb_21 dX4_limb_22 dX4_limb_24 dX4_limb_27
    · have hw := hw.2 c_32
      refine lv_iload_n hx hb dX4_limb_9 rfl (lv_at hl 2 rfl) ?_
      refine lv_if_lt (tgt := 18) hx hb dX4_limb_10 (by decide) (fun c_31 => ?_) (fun c_31 => ?_)
      · have hw := hw.1 c_31
        exact hthr _ _ _ _ hw hP hD hS hl.1 dX4_limb_18 dX4_limb_21 dX4_limb_22 dX4_limb_24 dX4_limb_27
      · have hw := hw.2 c_31
        refine lv_iload_n hx hb dX4_limb_13 rfl (lv_at hl 2 rfl) ?_
        refine lv_iconst (v := 1) hx hb dX4_limb_14 (by decide) ?_
        refine lv_icmp_le (tgt := 28) hx hb dX4_limb_15 (by decide) (fun c_30 => ?_) (fun c_30 => ?_)
        · have hw := hw.1 c_30
          refine lv_iload_n hx hb dX4_limb_28 rfl (lv_at hl 1 rfl) ?_
          refine lv_if_ne (tgt := 39) hx hb dX4_limb_29 (by decide) (fun c_29 => ?_) (fun c_29 => ?_)
          · have hw := hw.1 c_29
            refine lv_iload_n hx hb dX4_limb_39 rfl (lv_at hl 1 rfl) ?_
            refine lv_iconst (v := 1) hx hb dX4_limb_40 (by decide) ?_
            refine lv_icmp_ne (tgt := 51) hx hb dX4_limb_41 (by decide) (fun c_19 => ?_) (fun c_19 => ?_)
            · have hw := hw.1 c_19
              refine lv_aload_n hx hb dX4_limb_51 rfl (lv_at hl 0 rfl) ?_
              refine k_get hx hb hts uX4_limb_X4 hown hK hP 0 4 rfl rfl 6 (by decide) fX4_limb_41 (.ref Af) rfl dX4_limb_52 ?_
              refine lv_astore (lv' := [(4, .ref Af), (0, .ref Ax), (1, .int p0), (2, .int p1), (3, .int p2)]) hx hb dX4_limb_55 hl (by decide) rfl (fun ls hl => ?_)
              refine lv_iload_n hx hb dX4_limb_57 rfl (lv_at hl 3 rfl) ?_
              refine lv_if_ne (tgt := 69) hx hb dX4_limb_58 (by decide) (fun c_9 => ?_) (fun c_9 => ?_)
              · have hw := hw.1 c_9
                refine lv_aload hx hb dX4_limb_69 (lv_at hl 0 rfl) ?_
                refine k_get hx hb hts uX4_limb_X0 hown hK hP 18 0 rfl rfl 1 (by decide) fX4_limb_152 (.ref Afd) rfl dX4_limb_71 ?_
                refine lv_astore (lv' := [(5, .ref Afd), (4, .ref Af), (0, .ref Ax), (1, .int p0), (2, .int p1), (3, .int p2)]) hx hb dX4_limb_74 hl (by decide) rfl (fun ls hl => ?_)
                refine lv_iload_n hx hb dX4_limb_76 rfl (lv_at hl 5 rfl) ?_
                refine lv_iconst (v := (-1)) hx hb dX4_limb_77 (by decide) ?_
                refine lv_icmp_ne (tgt := 87) hx hb dX4_limb_78 (by decide) (fun c_4 => ?_) (fun c_4 => ?_)
                · have hw := hw.1 c_4
                  refine lv_iload_n hx hb dX4_limb_87 rfl (lv_at hl 5 rfl) ?_
                  refine lv_if_lt (tgt := 109) hx hb dX4_limb_88 (by decide) (fun c_3 => ?_) (fun c_3 => ?_)
                  · have hw := hw.1 c_3
                    refine lv_iconst (v := (-1)) hx hb dX4_limb_109 (by decide) ?_
                    exact hret _ () _ _ _ _ hw hP hD hS dX4_limb_110
                  · have hw := hw.2 c_3
                    refine lv_iload_n hx hb dX4_limb_91 rfl (lv_at hl 5 rfl) ?_
                    refine lv_aload hx hb dX4_limb_92 (lv_at hl 0 rfl) ?_
                    refine k_get hx hb hts uX4_limb_X1 hown hK hP 21 1 rfl rfl 1 (by decide) fX4_limb_155 (.int nfd) rfl dX4_limb_94 ?_
                    refine lv_icmp_ge (tgt := 109) hx hb dX4_limb_97 (by decide) (fun c_2 => ?_) (fun c_2 => ?_)
                    · have hw := hw.1 c_2
                      refine lv_iconst (v := (-1)) hx hb dX4_limb_109 (by decide) ?_
                      exact hret _ () _ _ _ _ hw hP hD hS dX4_limb_110
                    · have hw := hw.2 c_2
                      refine lv_aload hx hb dX4_limb_100 (lv_at hl 0 rfl) ?_
                      refine lv_iload_n hx hb dX4_limb_102 rfl (lv_at hl 5 rfl) ?_
                      refine k_Vi (M_X1_limbAt l G cI cJ Afd Bfd lfd nfd p2 _ hw) ⟨hx, hb, hml, hown, hts⟩ (cwV 1 hts gX4_limb_X1_limbAt rfl rfl rfl (by decide +kernel) ⟨Nat.le_of_ble_eq_true rfl, Nat.le_of_ble_eq_true rfl⟩) hK hP hD hS hA [21, 22] [0, 1, 2, 3, 4, 5, 6, 7, 8, 9, 10, 11, 12, 13, 14, 15, 16, 17, 18, 19, 20] [0, 1, 2, 3, 4, 5, 6, 7, 8, 9, 10, 11, 12, 13, 14, 15, 16, 17, 18, 19, 20, 21, 22] (wr := [(Ax, .inr (4, [.ref Bx, .int rc, .ref Aw, .ref As, .ref Ag, .ref Ae, .ref Af, .int ans, .int rfc, .int rfb])), (Bx, .inl (cI, 60, .inl row)), (Aw, .inr (3, [.int wa, .int wb, .int wlo, .int whi, .long wtot])), (As, .inr (2, [.ref Asm, .ref Ast])), (Asm, .inr (1, [.ref Bsm, .int nsm])), (Bsm, .inl (cI, 64, .inl lsm)), (Ast, .inr (1, [.ref Bst, .int nst])), (Bst, .inl (cI, 64, .inl lst)), (Ag, .inr (0, [.ref Agu, .ref Agd])), (Agu, .inr (1, [.ref Bgu, .int ngu])), (Bgu, .inl (cI, 64, .inl lgu)), (Agd, .inr (1, [.ref Bgd, .int ngd])), (Bgd, .inl (cI, 64, .inl lgd)), (Ae, .inr (0, [.ref Aeu, .ref Aed])), (Aeu, .inr (1, [.ref Beu, .int neu])), (Beu, .inl (cI, 64, .inl leu)), (Aed, .inr (1, [.ref Bed, .int ned])), (Bed, .inl (cI, 64, .inl led)), (Af, .inr (0, [.ref Afu, .ref Afd])), (Afu, .inr (1, [.ref Bfu, .int nfu])), (Bfu, .inl (cI, 64, .inl lfu))]) (wn := fun u : Unit => (wX4 cI cJ Ax Bx Aw As Asm Bsm Ast Bst Ag Agu Bgu Agd Bgd Ae Aeu Beu Aed Bed Af Afu Bfu Afd Bfd row rc wa wb wlo whi wtot lsm nsm lst nst lgu ngu lgd ngd leu neu led ned lfu nfu lfd nfd ans rfc rfb)) rfl rfl (by decide) (by decide) (by decide) (by decide) (fun _ => rfl) (rest := []) (q0 := 0) rfl rfl rfl hl.1 rfl (Nat.le_of_ble_eq_true rfl) (Nat.zero_le _) (Nat.zero_le _) dX4_limb_103 (fun r_1 u H locs hw hP hD hS => ?_)
                      refine lv_goto (tgt := 110) hx hb dX4_limb_106 (by decide) ?_
                      exact hret _ () _ _ _ _ hw hP hD hS dX4_limb_110
                · have hw := hw.2 c_4
                  refine lv_aload hx hb dX4_limb_81 (lv_at hl 0 rfl) ?_
                  refine k_get hx hb hts uX4_limb_X1 hown hK hP 21 1 rfl rfl 1 (by decide) fX4_limb_155 (.int nfd) rfl dX4_limb_83 ?_
                  exact hret _ () _ _ _ _ hw hP hD hS dX4_limb_86
              · have hw := hw.2 c_9
                refine lv_aload hx hb dX4_limb_61 (lv_at hl 0 rfl) ?_
                refine k_get hx hb hts uX4_limb_X0 hown hK hP 18 0 rfl rfl 0 (by decide) fX4_limb_148 (.ref Afu) rfl dX4_limb_63 ?_
                refine lv_goto (tgt := 74) hx hb dX4_limb_66 (by decide) ?_
                refine lv_astore (lv' := [(5, .ref Afu), (4, .ref Af), (0, .ref Ax), (1, .int p0), (2, .int p1), (3, .int p2)]) hx hb dX4_limb_74 hl (by decide) rfl (fun ls hl => ?_)
                refine lv_iload_n hx hb dX4_limb_76 rfl (lv_at hl 5 rfl) ?_
                refine lv_iconst (v := (-1)) hx hb dX4_limb_77 (by decide) ?_
                refine lv_icmp_ne (tgt := 87) hx hb dX4_limb_78 (by decide) (fun c_8 => ?_) (fun c_8 => ?_)
                · have hw := hw.1 c_8
                  refine lv_iload_n hx hb dX4_limb_87 rfl (lv_at hl 5 rfl) ?_
                  refine lv_if_lt (tgt := 109) hx hb dX4_limb_88 (by decide) (fun c_7 => ?_) (fun c_7 => ?_)
                  · have hw := hw.1 c_7
                    refine lv_iconst (v := (-1)) hx hb dX4_limb_109 (by decide) ?_
                    exact hret _ () _ _ _ _ hw hP hD hS dX4_limb_110
                  · have hw := hw.2 c_7
                    refine lv_iload_n hx hb dX4_limb_91 rfl (lv_at hl 5 rfl) ?_
                    refine lv_aload hx hb dX4_limb_92 (lv_at hl 0 rfl) ?_
                    refine k_get hx hb hts uX4_limb_X1 hown hK hP 19 1 rfl rfl 1 (by decide) fX4_limb_155 (.int nfu) rfl dX4_limb_94 ?_
                    refine lv_icmp_ge (tgt := 109) hx hb dX4_limb_97 (by decide) (fun c_6 => ?_) (fun c_6 => ?_)
                    · have hw := hw.1 c_6
                      refine lv_iconst (v := (-1)) hx hb dX4_limb_109 (by decide) ?_
                      exact hret _ () _ _ _ _ hw hP hD hS dX4_limb_110
                    · have hw := hw.2 c_6
                      refine lv_aload hx hb dX4_limb_100 (lv_at hl 0 rfl) ?_
                      refine lv_iload_n hx hb dX4_limb_102 rfl (lv_at hl 5 rfl) ?_
                      refine k_Vi (M_X1_limbAt l G cI cJ Afu Bfu lfu nfu p2 _ hw) ⟨hx, hb, hml, hown, hts⟩ (cwV 1 hts gX4_limb_X1_limbAt rfl rfl rfl (by decide +kernel) ⟨Nat.le_of_ble_eq_true rfl, Nat.le_of_ble_eq_true rfl⟩) hK hP hD hS hA [19, 20] [0, 1, 2, 3, 4, 5, 6, 7, 8, 9, 10, 11, 12, 13, 14, 15, 16, 17, 18, 21, 22] [0, 1, 2, 3, 4, 5, 6, 7, 8, 9, 10, 11, 12, 13, 14, 15, 16, 17, 18, 21, 22, 19, 20] (wr := [(Ax, .inr (4, [.ref Bx, .int rc, .ref Aw, .ref As, .ref Ag, .ref Ae, .ref Af, .int ans, .int rfc, .int rfb])), (Bx, .inl (cI, 60, .inl row)), (Aw, .inr (3, [.int wa, .int wb, .int wlo, .int whi, .long wtot])), (As, .inr (2, [.ref Asm, .ref Ast])), (Asm, .inr (1, [.ref Bsm, .int nsm])), (Bsm, .inl (cI, 64, .inl lsm)), (Ast, .inr (1, [.ref Bst, .int nst])), (Bst, .inl (cI, 64, .inl lst)), (Ag, .inr (0, [.ref Agu, .ref Agd])), (Agu, .inr (1, [.ref Bgu, .int ngu])), (Bgu, .inl (cI, 64, .inl lgu)), (Agd, .inr (1, [.ref Bgd, .int ngd])), (Bgd, .inl (cI, 64, .inl lgd)), (Ae, .inr (0, [.ref Aeu, .ref Aed])), (Aeu, .inr (1, [.ref Beu, .int neu])), (Beu, .inl (cI, 64, .inl leu)), (Aed, .inr (1, [.ref Bed, .int ned])), (Bed, .inl (cI, 64, .inl led)), (Af, .inr (0, [.ref Afu, .ref Afd])), (Afd, .inr (1, [.ref Bfd, .int nfd])), (Bfd, .inl (cI, 64, .inl lfd))]) (wn := fun u : Unit => (wX4 cI cJ Ax Bx Aw As Asm Bsm Ast Bst Ag Agu Bgu Agd Bgd Ae Aeu Beu Aed Bed Af Afu Bfu Afd Bfd row rc wa wb wlo whi wtot lsm nsm lst nst lgu ngu lgd ngd leu neu led ned lfu nfu lfd nfd ans rfc rfb)) rfl rfl (by decide) (by decide) (by decide) (by decide) (fun _ => rfl) (rest := []) (q0 := 0) rfl rfl rfl hl.1 rfl (Nat.le_of_ble_eq_true rfl) (Nat.zero_le _) (Nat.zero_le _) dX4_limb_103 (fun r_5 u H locs hw hP hD hS => ?_)
                      refine lv_goto (tgt := 110) hx hb dX4_limb_106 (by decide) ?_
                      exact hret _ () _ _ _ _ hw hP hD hS dX4_limb_110
                · have hw := hw.2 c_8
                  refine lv_aload hx hb dX4_limb_81 (lv_at hl 0 rfl) ?_
                  refine k_get hx hb hts uX4_limb_X1 hown hK hP 19 1 rfl rfl 1 (by decide) fX4_limb_155 (.int nfu) rfl dX4_limb_83 ?_
                  exact hret _ () _ _ _ _ hw hP hD hS dX4_limb_86
            · have hw := hw.2 c_19
              refine lv_aload_n hx hb dX4_limb_44 rfl (lv_at hl 0 rfl) ?_
              refine k_get hx hb hts uX4_limb_X4 hown hK hP 0 4 rfl rfl 5 (by decide) fX4_limb_38 (.ref Ae) rfl dX4_limb_45 ?_
              refine lv_goto (tgt := 55) hx hb dX4_limb_48 (by decide) ?_
              refine lv_astore (lv' := [(4, .ref Ae), (0, .ref Ax), (1, .int p0), (2, .int p1), (3, .int p2)]) hx hb dX4_limb_55 hl (by decide) rfl (fun ls hl => ?_)
              refine lv_iload_n hx hb dX4_limb_57 rfl (lv_at hl 3 rfl) ?_
              refine lv_if_ne (tgt := 69) hx hb dX4_limb_58 (by decide) (fun c_18 => ?_) (fun c_18 => ?_)
              · have hw := hw.1 c_18
                refine lv_aload hx hb dX4_limb_69 (lv_at hl 0 rfl) ?_
                refine k_get hx hb hts uX4_limb_X0 hown hK hP 13 0 rfl rfl 1 (by decide) fX4_limb_152 (.ref Aed) rfl dX4_limb_71 ?_
                refine lv_astore (lv' := [(5, .ref Aed), (4, .ref Ae), (0, .ref Ax), (1, .int p0), (2, .int p1), (3, .int p2)]) hx hb dX4_limb_74 hl (by decide) rfl (fun ls hl => ?_)
                refine lv_iload_n hx hb dX4_limb_76 rfl (lv_at hl 5 rfl) ?_
                refine lv_iconst (v := (-1)) hx hb dX4_limb_77 (by decide) ?_
                refine lv_icmp_ne (tgt := 87) hx hb dX4_limb_78 (by decide) (fun c_13 => ?_) (fun c_13 => ?_)
                · have hw := hw.1 c_13
                  refine lv_iload_n hx hb dX4_limb_87 rfl (lv_at hl 5 rfl) ?_
                  refine lv_if_lt (tgt := 109) hx hb dX4_limb_88 (by decide) (fun c_12 => ?_) (fun c_12 => ?_)
                  · have hw := hw.1 c_12
                    refine lv_iconst (v := (-1)) hx hb dX4_limb_109 (by decide) ?_
                    exact hret _ () _ _ _ _ hw hP hD hS dX4_limb_110
                  · have hw := hw.2 c_12
                    refine lv_iload_n hx hb dX4_limb_91 rfl (lv_at hl 5 rfl) ?_
                    refine lv_aload hx hb dX4_limb_92 (lv_at hl 0 rfl) ?_
                    refine k_get hx hb hts uX4_limb_X1 hown hK hP 16 1 rfl rfl 1 (by decide) fX4_limb_155 (.int ned) rfl dX4_limb_94 ?_
                    refine lv_icmp_ge (tgt := 109) hx hb dX4_limb_97 (by decide) (fun c_11 => ?_) (fun c_11 => ?_)
                    · have hw := hw.1 c_11
                      refine lv_iconst (v := (-1)) hx hb dX4_limb_109 (by decide) ?_
                      exact hret _ () _ _ _ _ hw hP hD hS dX4_limb_110
                    · have hw := hw.2 c_11
                      refine lv_aload hx hb dX4_limb_100 (lv_at hl 0 rfl) ?_
                      refine lv_iload_n hx hb dX4_limb_102 rfl (lv_at hl 5 rfl) ?_
                      refine k_Vi (M_X1_limbAt l G cI cJ Aed Bed led ned p2 _ hw) ⟨hx, hb, hml, hown, hts⟩ (cwV 1 hts gX4_limb_X1_limbAt rfl rfl rfl (by decide +kernel) ⟨Nat.le_of_ble_eq_true rfl, Nat.le_of_ble_eq_true rfl⟩) hK hP hD hS hA [16, 17] [0, 1, 2, 3, 4, 5, 6, 7, 8, 9, 10, 11, 12, 13, 14, 15, 18, 19, 20, 21, 22] [0, 1, 2, 3, 4, 5, 6, 7, 8, 9, 10, 11, 12, 13, 14, 15, 21, 22, 16, 17, 18, 19, 20] (wr := [(Ax, .inr (4, [.ref Bx, .int rc, .ref Aw, .ref As, .ref Ag, .ref Ae, .ref Af, .int ans, .int rfc, .int rfb])), (Bx, .inl (cI, 60, .inl row)), (Aw, .inr (3, [.int wa, .int wb, .int wlo, .int whi, .long wtot])), (As, .inr (2, [.ref Asm, .ref Ast])), (Asm, .inr (1, [.ref Bsm, .int nsm])), (Bsm, .inl (cI, 64, .inl lsm)), (Ast, .inr (1, [.ref Bst, .int nst])), (Bst, .inl (cI, 64, .inl lst)), (Ag, .inr (0, [.ref Agu, .ref Agd])), (Agu, .inr (1, [.ref Bgu, .int ngu])), (Bgu, .inl (cI, 64, .inl lgu)), (Agd, .inr (1, [.ref Bgd, .int ngd])), (Bgd, .inl (cI, 64, .inl lgd)), (Ae, .inr (0, [.ref Aeu, .ref Aed])), (Aeu, .inr (1, [.ref Beu, .int neu])), (Beu, .inl (cI, 64, .inl leu)), (Af, .inr (0, [.ref Afu, .ref Afd])), (Afu, .inr (1, [.ref Bfu, .int nfu])), (Bfu, .inl (cI, 64, .inl lfu)), (Afd, .inr (1, [.ref Bfd, .int nfd])), (Bfd, .inl (cI, 64, .inl lfd))]) (wn := fun u : Unit => (wX4 cI cJ Ax Bx Aw As Asm Bsm Ast Bst Ag Agu Bgu Agd Bgd Ae Aeu Beu Aed Bed Af Afu Bfu Afd Bfd row rc wa wb wlo whi wtot lsm nsm lst nst lgu ngu lgd ngd leu neu led ned lfu nfu lfd nfd ans rfc rfb)) rfl rfl (by decide) (by decide) (by decide) (by decide) (fun _ => rfl) (rest := []) (q0 := 0) rfl rfl rfl hl.1 rfl (Nat.le_of_ble_eq_true rfl) (Nat.zero_le _) (Nat.zero_le _) dX4_limb_103 (fun r_10 u H locs hw hP hD hS => ?_)
                      refine lv_goto (tgt := 110) hx hb dX4_limb_106 (by decide) ?_
                      exact hret _ () _ _ _ _ hw hP hD hS dX4_limb_110
                · have hw := hw.2 c_13
                  refine lv_aload hx hb dX4_limb_81 (lv_at hl 0 rfl) ?_
                  refine k_get hx hb hts uX4_limb_X1 hown hK hP 16 1 rfl rfl 1 (by decide) fX4_limb_155 (.int ned) rfl dX4_limb_83 ?_
                  exact hret _ () _ _ _ _ hw hP hD hS dX4_limb_86
              · have hw := hw.2 c_18
                refine lv_aload hx hb dX4_limb_61 (lv_at hl 0 rfl) ?_
                refine k_get hx hb hts uX4_limb_X0 hown hK hP 13 0 rfl rfl 0 (by decide) fX4_limb_148 (.ref Aeu) rfl dX4_limb_63 ?_
                refine lv_goto (tgt := 74) hx hb dX4_limb_66 (by decide) ?_
                refine lv_astore (lv' := [(5, .ref Aeu), (4, .ref Ae), (0, .ref Ax), (1, .int p0), (2, .int p1), (3, .int p2)]) hx hb dX4_limb_74 hl (by decide) rfl (fun ls hl => ?_)
                refine lv_iload_n hx hb dX4_limb_76 rfl (lv_at hl 5 rfl) ?_
                refine lv_iconst (v := (-1)) hx hb dX4_limb_77 (by decide) ?_
                refine lv_icmp_ne (tgt := 87) hx hb dX4_limb_78 (by decide) (fun c_17 => ?_) (fun c_17 => ?_)
                · have hw := hw.1 c_17
                  refine lv_iload_n hx hb dX4_limb_87 rfl (lv_at hl 5 rfl) ?_
                  refine lv_if_lt (tgt := 109) hx hb dX4_limb_88 (by decide) (fun c_16 => ?_) (fun c_16 => ?_)
                  · have hw := hw.1 c_16
                    refine lv_iconst (v := (-1)) hx hb dX4_limb_109 (by decide) ?_
                    exact hret _ () _ _ _ _ hw hP hD hS dX4_limb_110
                  · have hw := hw.2 c_16
                    refine lv_iload_n hx hb dX4_limb_91 rfl (lv_at hl 5 rfl) ?_
                    refine lv_aload hx hb dX4_limb_92 (lv_at hl 0 rfl) ?_
                    refine k_get hx hb hts uX4_limb_X1 hown hK hP 14 1 rfl rfl 1 (by decide) fX4_limb_155 (.int neu) rfl dX4_limb_94 ?_
                    refine lv_icmp_ge (tgt := 109) hx hb dX4_limb_97 (by decide) (fun c_15 => ?_) (fun c_15 => ?_)
                    · have hw := hw.1 c_15
                      refine lv_iconst (v := (-1)) hx hb dX4_limb_109 (by decide) ?_
                      exact hret _ () _ _ _ _ hw hP hD hS dX4_limb_110
                    · have hw := hw.2 c_15
                      refine lv_aload hx hb dX4_limb_100 (lv_at hl 0 rfl) ?_
                      refine lv_iload_n hx hb dX4_limb_102 rfl (lv_at hl 5 rfl) ?_
                      refine k_Vi (M_X1_limbAt l G cI cJ Aeu Beu leu neu p2 _ hw) ⟨hx, hb, hml, hown, hts⟩ (cwV 1 hts gX4_limb_X1_limbAt rfl rfl rfl (by decide +kernel) ⟨Nat.le_of_ble_eq_true rfl, Nat.le_of_ble_eq_true rfl⟩) hK hP hD hS hA [14, 15] [0, 1, 2, 3, 4, 5, 6, 7, 8, 9, 10, 11, 12, 13, 16, 17, 18, 19, 20, 21, 22] [0, 1, 2, 3, 4, 5, 6, 7, 8, 9, 10, 11, 12, 13, 21, 22, 14, 15, 16, 17, 18, 19, 20] (wr := [(Ax, .inr (4, [.ref Bx, .int rc, .ref Aw, .ref As, .ref Ag, .ref Ae, .ref Af, .int ans, .int rfc, .int rfb])), (Bx, .inl (cI, 60, .inl row)), (Aw, .inr (3, [.int wa, .int wb, .int wlo, .int whi, .long wtot])), (As, .inr (2, [.ref Asm, .ref Ast])), (Asm, .inr (1, [.ref Bsm, .int nsm])), (Bsm, .inl (cI, 64, .inl lsm)), (Ast, .inr (1, [.ref Bst, .int nst])), (Bst, .inl (cI, 64, .inl lst)), (Ag, .inr (0, [.ref Agu, .ref Agd])), (Agu, .inr (1, [.ref Bgu, .int ngu])), (Bgu, .inl (cI, 64, .inl lgu)), (Agd, .inr (1, [.ref Bgd, .int ngd])), (Bgd, .inl (cI, 64, .inl lgd)), (Ae, .inr (0, [.ref Aeu, .ref Aed])), (Aed, .inr (1, [.ref Bed, .int ned])), (Bed, .inl (cI, 64, .inl led)), (Af, .inr (0, [.ref Afu, .ref Afd])), (Afu, .inr (1, [.ref Bfu, .int nfu])), (Bfu, .inl (cI, 64, .inl lfu)), (Afd, .inr (1, [.ref Bfd, .int nfd])), (Bfd, .inl (cI, 64, .inl lfd))]) (wn := fun u : Unit => (wX4 cI cJ Ax Bx Aw As Asm Bsm Ast Bst Ag Agu Bgu Agd Bgd Ae Aeu Beu Aed Bed Af Afu Bfu Afd Bfd row rc wa wb wlo whi wtot lsm nsm lst nst lgu ngu lgd ngd leu neu led ned lfu nfu lfd nfd ans rfc rfb)) rfl rfl (by decide) (by decide) (by decide) (by decide) (fun _ => rfl) (rest := []) (q0 := 0) rfl rfl rfl hl.1 rfl (Nat.le_of_ble_eq_true rfl) (Nat.zero_le _) (Nat.zero_le _) dX4_limb_103 (fun r_14 u H locs hw hP hD hS => ?_)
                      refine lv_goto (tgt := 110) hx hb dX4_limb_106 (by decide) ?_
                      exact hret _ () _ _ _ _ hw hP hD hS dX4_limb_110
                · have hw := hw.2 c_17
                  refine lv_aload hx hb dX4_limb_81 (lv_at hl 0 rfl) ?_
                  refine k_get hx hb hts uX4_limb_X1 hown hK hP 14 1 rfl rfl 1 (by decide) fX4_limb_155 (.int neu) rfl dX4_limb_83 ?_
                  exact hret _ () _ _ _ _ hw hP hD hS dX4_limb_86
          · have hw := hw.2 c_29
            refine lv_aload_n hx hb dX4_limb_32 rfl (lv_at hl 0 rfl) ?_
            refine k_get hx hb hts uX4_limb_X4 hown hK hP 0 4 rfl rfl 4 (by decide) fX4_limb_34 (.ref Ag) rfl dX4_limb_33 ?_
            refine lv_goto (tgt := 55) hx hb dX4_limb_36 (by decide) ?_
            refine lv_astore (lv' := [(4, .ref Ag), (0, .ref Ax), (1, .int p0), (2, .int p1), (3, .int p2)]) hx hb dX4_limb_55 hl (by decide) rfl (fun ls hl => ?_)
            refine lv_iload_n hx hb dX4_limb_57 rfl (lv_at hl 3 rfl) ?_
            refine lv_if_ne (tgt := 69) hx hb dX4_limb_58 (by decide) (fun c_28 => ?_) (fun c_28 => ?_)
            · have hw := hw.1 c_28
              refine lv_aload hx hb dX4_limb_69 (lv_at hl 0 rfl) ?_
              refine k_get hx hb hts uX4_limb_X0 hown hK hP 8 0 rfl rfl 1 (by decide) fX4_limb_152 (.ref Agd) rfl dX4_limb_71 ?_
              refine lv_astore (lv' := [(5, .ref Agd), (4, .ref Ag), (0, .ref Ax), (1, .int p0), (2, .int p1), (3, .int p2)]) hx hb dX4_limb_74 hl (by decide) rfl (fun ls hl => ?_)
              refine lv_iload_n hx hb dX4_limb_76 rfl (lv_at hl 5 rfl) ?_
              refine lv_iconst (v := (-1)) hx hb dX4_limb_77 (by decide) ?_
              refine lv_icmp_ne (tgt := 87) hx hb dX4_limb_78 (by decide) (fun c_23 => ?_) (fun c_23 => ?_)
              · have hw := hw.1 c_23
                refine lv_iload_n hx hb dX4_limb_87 rfl (lv_at hl 5 rfl) ?_
                refine lv_if_lt (tgt := 109) hx hb dX4_limb_88 (by decide) (fun c_22 => ?_) (fun c_22 => ?_)
                · have hw := hw.1 c_22
                  refine lv_iconst (v := (-1)) hx hb dX4_limb_109 (by decide) ?_
                  exact hret _ () _ _ _ _ hw hP hD hS dX4_limb_110
                · have hw := hw.2 c_22
                  refine lv_iload_n hx hb dX4_limb_91 rfl (lv_at hl 5 rfl) ?_
                  refine lv_aload hx hb dX4_limb_92 (lv_at hl 0 rfl) ?_
                  refine k_get hx hb hts uX4_limb_X1 hown hK hP 11 1 rfl rfl 1 (by decide) fX4_limb_155 (.int ngd) rfl dX4_limb_94 ?_
                  refine lv_icmp_ge (tgt := 109) hx hb dX4_limb_97 (by decide) (fun c_21 => ?_) (fun c_21 => ?_)
                  · have hw := hw.1 c_21
                    refine lv_iconst (v := (-1)) hx hb dX4_limb_109 (by decide) ?_
                    exact hret _ () _ _ _ _ hw hP hD hS dX4_limb_110
                  · have hw := hw.2 c_21
                    refine lv_aload hx hb dX4_limb_100 (lv_at hl 0 rfl) ?_
                    refine lv_iload_n hx hb dX4_limb_102 rfl (lv_at hl 5 rfl) ?_
                    refine k_Vi (M_X1_limbAt l G cI cJ Agd Bgd lgd ngd p2 _ hw) ⟨hx, hb, hml, hown, hts⟩ (cwV 1 hts gX4_limb_X1_limbAt rfl rfl rfl (by decide +kernel) ⟨Nat.le_of_ble_eq_true rfl, Nat.le_of_ble_eq_true rfl⟩) hK hP hD hS hA [11, 12] [0, 1, 2, 3, 4, 5, 6, 7, 8, 9, 10, 13, 14, 15, 16, 17, 18, 19, 20, 21, 22] [0, 1, 2, 3, 4, 5, 6, 7, 8, 9, 10, 21, 22, 11, 12, 13, 14, 15, 16, 17, 18, 19, 20] (wr := [(Ax, .inr (4, [.ref Bx, .int rc, .ref Aw, .ref As, .ref Ag, .ref Ae, .ref Af, .int ans, .int rfc, .int rfb])), (Bx, .inl (cI, 60, .inl row)), (Aw, .inr (3, [.int wa, .int wb, .int wlo, .int whi, .long wtot])), (As, .inr (2, [.ref Asm, .ref Ast])), (Asm, .inr (1, [.ref Bsm, .int nsm])), (Bsm, .inl (cI, 64, .inl lsm)), (Ast, .inr (1, [.ref Bst, .int nst])), (Bst, .inl (cI, 64, .inl lst)), (Ag, .inr (0, [.ref Agu, .ref Agd])), (Agu, .inr (1, [.ref Bgu, .int ngu])), (Bgu, .inl (cI, 64, .inl lgu)), (Ae, .inr (0, [.ref Aeu, .ref Aed])), (Aeu, .inr (1, [.ref Beu, .int neu])), (Beu, .inl (cI, 64, .inl leu)), (Aed, .inr (1, [.ref Bed, .int ned])), (Bed, .inl (cI, 64, .inl led)), (Af, .inr (0, [.ref Afu, .ref Afd])), (Afu, .inr (1, [.ref Bfu, .int nfu])), (Bfu, .inl (cI, 64, .inl lfu)), (Afd, .inr (1, [.ref Bfd, .int nfd])), (Bfd, .inl (cI, 64, .inl lfd))]) (wn := fun u : Unit => (wX4 cI cJ Ax Bx Aw As Asm Bsm Ast Bst Ag Agu Bgu Agd Bgd Ae Aeu Beu Aed Bed Af Afu Bfu Afd Bfd row rc wa wb wlo whi wtot lsm nsm lst nst lgu ngu lgd ngd leu neu led ned lfu nfu lfd nfd ans rfc rfb)) rfl rfl (by decide) (by decide) (by decide) (by decide) (fun _ => rfl) (rest := []) (q0 := 0) rfl rfl rfl hl.1 rfl (Nat.le_of_ble_eq_true rfl) (Nat.zero_le _) (Nat.zero_le _) dX4_limb_103 (fun r_20 u H locs hw hP hD hS => ?_)
                    refine lv_goto (tgt := 110) hx hb dX4_limb_106 (by decide) ?_
                    exact hret _ () _ _ _ _ hw hP hD hS dX4_limb_110
              · have hw := hw.2 c_23
                refine lv_aload hx hb dX4_limb_81 (lv_at hl 0 rfl) ?_
                refine k_get hx hb hts uX4_limb_X1 hown hK hP 11 1 rfl rfl 1 (by decide) fX4_limb_155 (.int ngd) rfl dX4_limb_83 ?_
                exact hret _ () _ _ _ _ hw hP hD hS dX4_limb_86
            · have hw := hw.2 c_28
              refine lv_aload hx hb dX4_limb_61 (lv_at hl 0 rfl) ?_
              refine k_get hx hb hts uX4_limb_X0 hown hK hP 8 0 rfl rfl 0 (by decide) fX4_limb_148 (.ref Agu) rfl dX4_limb_63 ?_
              refine lv_goto (tgt := 74) hx hb dX4_limb_66 (by decide) ?_
              refine lv_astore (lv' := [(5, .ref Agu), (4, .ref Ag), (0, .ref Ax), (1, .int p0), (2, .int p1), (3, .int p2)]) hx hb dX4_limb_74 hl (by decide) rfl (fun ls hl => ?_)
              refine lv_iload_n hx hb dX4_limb_76 rfl (lv_at hl 5 rfl) ?_
              refine lv_iconst (v := (-1)) hx hb dX4_limb_77 (by decide) ?_
              refine lv_icmp_ne (tgt := 87) hx hb dX4_limb_78 (by decide) (fun c_27 => ?_) (fun c_27 => ?_)
              · have hw := hw.1 c_27
                refine lv_iload_n hx hb dX4_limb_87 rfl (lv_at hl 5 rfl) ?_
                refine lv_if_lt (tgt := 109) hx hb dX4_limb_88 (by decide) (fun c_26 => ?_) (fun c_26 => ?_)
                · have hw := hw.1 c_26
                  refine lv_iconst (v := (-1)) hx hb dX4_limb_109 (by decide) ?_
                  exact hret _ () _ _ _ _ hw hP hD hS dX4_limb_110
                · have hw := hw.2 c_26
                  refine lv_iload_n hx hb dX4_limb_91 rfl (lv_at hl 5 rfl) ?_
                  refine lv_aload hx hb dX4_limb_92 (lv_at hl 0 rfl) ?_
                  refine k_get hx hb hts uX4_limb_X1 hown hK hP 9 1 rfl rfl 1 (by decide) fX4_limb_155 (.int ngu) rfl dX4_limb_94 ?_
                  refine lv_icmp_ge (tgt := 109) hx hb dX4_limb_97 (by decide) (fun c_25 => ?_) (fun c_25 => ?_)
                  · have hw := hw.1 c_25
                    refine lv_iconst (v := (-1)) hx hb dX4_limb_109 (by decide) ?_
                    exact hret _ () _ _ _ _ hw hP hD hS dX4_limb_110
                  · have hw := hw.2 c_25
                    refine lv_aload hx hb dX4_limb_100 (lv_at hl 0 rfl) ?_
                    refine lv_iload_n hx hb dX4_limb_102 rfl (lv_at hl 5 rfl) ?_
                    refine k_Vi (M_X1_limbAt l G cI cJ Agu Bgu lgu ngu p2 _ hw) ⟨hx, hb, hml, hown, hts⟩ (cwV 1 hts gX4_limb_X1_limbAt rfl rfl rfl (by decide +kernel) ⟨Nat.le_of_ble_eq_true rfl, Nat.le_of_ble_eq_true rfl⟩) hK hP hD hS hA [9, 10] [0, 1, 2, 3, 4, 5, 6, 7, 8, 11, 12, 13, 14, 15, 16, 17, 18, 19, 20, 21, 22] [0, 1, 2, 3, 4, 5, 6, 7, 8, 21, 22, 9, 10, 11, 12, 13, 14, 15, 16, 17, 18, 19, 20] (wr := [(Ax, .inr (4, [.ref Bx, .int rc, .ref Aw, .ref As, .ref Ag, .ref Ae, .ref Af, .int ans, .int rfc, .int rfb])), (Bx, .inl (cI, 60, .inl row)), (Aw, .inr (3, [.int wa, .int wb, .int wlo, .int whi, .long wtot])), (As, .inr (2, [.ref Asm, .ref Ast])), (Asm, .inr (1, [.ref Bsm, .int nsm])), (Bsm, .inl (cI, 64, .inl lsm)), (Ast, .inr (1, [.ref Bst, .int nst])), (Bst, .inl (cI, 64, .inl lst)), (Ag, .inr (0, [.ref Agu, .ref Agd])), (Agd, .inr (1, [.ref Bgd, .int ngd])), (Bgd, .inl (cI, 64, .inl lgd)), (Ae, .inr (0, [.ref Aeu, .ref Aed])), (Aeu, .inr (1, [.ref Beu, .int neu])), (Beu, .inl (cI, 64, .inl leu)), (Aed, .inr (1, [.ref Bed, .int ned])), (Bed, .inl (cI, 64, .inl led)), (Af, .inr (0, [.ref Afu, .ref Afd])), (Afu, .inr (1, [.ref Bfu, .int nfu])), (Bfu, .inl (cI, 64, .inl lfu)), (Afd, .inr (1, [.ref Bfd, .int nfd])), (Bfd, .inl (cI, 64, .inl lfd))]) (wn := fun u : Unit => (wX4 cI cJ Ax Bx Aw As Asm Bsm Ast Bst Ag Agu Bgu Agd Bgd Ae Aeu Beu Aed Bed Af Afu Bfu Afd Bfd row rc wa wb wlo whi wtot lsm nsm lst nst lgu ngu lgd ngd leu neu led ned lfu nfu lfd nfd ans rfc rfb)) rfl rfl (by decide) (by decide) (by decide) (by decide) (fun _ => rfl) (rest := []) (q0 := 0) rfl rfl rfl hl.1 rfl (Nat.le_of_ble_eq_true rfl) (Nat.zero_le _) (Nat.zero_le _) dX4_limb_103 (fun r_24 u H locs hw hP hD hS => ?_)
                    refine lv_goto (tgt := 110) hx hb dX4_limb_106 (by decide) ?_
                    exact hret _ () _ _ _ _ hw hP hD hS dX4_limb_110
              · have hw := hw.2 c_27
                refine lv_aload hx hb dX4_limb_81 (lv_at hl 0 rfl) ?_
                refine k_get hx hb hts uX4_limb_X1 hown hK hP 9 1 rfl rfl 1 (by decide) fX4_limb_155 (.int ngu) rfl dX4_limb_83 ?_
                exact hret _ () _ _ _ _ hw hP hD hS dX4_limb_86
        · have hw := hw.2 c_30
          exact hthr _ _ _ _ hw hP hD hS hl.1 dX4_limb_18 dX4_limb_21 dX4_limb_22 dX4_limb_24 dX4_limb_27
theorem fX4_told_44 : Cond.fieldLink RX4 44 "PrivateCounts" "answered" "I" ∈ wsX4_told := by decide +kernel
theorem uX4_told_X4 : ∀ w ∈ u_ws RX4 TX4 10, w ∈ wsX4_told := by decide +kernel
theorem fX4_told_47 : Cond.fieldLink RX4 47 "PrivateCounts" "refusedForCost" "I" ∈ wsX4_told := by decide +kernel
theorem fX4_told_50 : Cond.fieldLink RX4 50 "PrivateCounts" "refusedForBudget" "I" ∈ wsX4_told := by decide +kernel
theorem fX4_told_13 : Cond.fieldLink RX4 13 "PrivateCounts" "rowCount" "I" ∈ wsX4_told := by decide +kernel
theorem fX4_told_20 : Cond.fieldLink RX4 20 "PrivateCounts" "weights" "LPrivateCounts$Table;" ∈ wsX4_told := by decide +kernel
theorem fX4_told_163 : Cond.fieldLink RX4 163 "PrivateCounts$Table" "low" "I" ∈ wsX4_told := by decide +kernel
theorem uX4_told_X3 : ∀ w ∈ u_ws RX3 TX3 5, w ∈ wsX4_told := by decide +kernel
theorem fX4_told_166 : Cond.fieldLink RX4 166 "PrivateCounts$Table" "high" "I" ∈ wsX4_told := by decide +kernel
theorem fX4_told_169 : Cond.fieldLink RX4 169 "PrivateCounts$Table" "a" "I" ∈ wsX4_told := by decide +kernel
theorem fX4_told_172 : Cond.fieldLink RX4 172 "PrivateCounts$Table" "b" "I" ∈ wsX4_told := by decide +kernel
set_option maxHeartbeats 4000000 in
set_option maxRecDepth 100000 in
theorem M_X4_told (l : Launch) (hst : l.stackTraces = false) (sa : Nat → Nat) (G : va_G) (cI cJ : ClassId) (Ax Bx Aw As Asm Bsm Ast Bst Ag Agu Bgu Agd Bgd Ae Aeu Beu Aed Bed Af Afu Bfu Afd Bfd : Nat) (row : Nat → Int32) (rc : Int32) (wa : Int32) (wb : Int32) (wlo : Int32) (whi : Int32) (wtot : Int64) (lsm : Nat → Int32) (nsm : Int32) (lst : Nat → Int32) (nst : Int32) (lgu : Nat → Int32) (ngu : Int32) (lgd : Nat → Int32) (ngd : Int32) (leu : Nat → Int32) (neu : Int32) (led : Nat → Int32) (ned : Int32) (lfu : Nat → Int32) (nfu : Int32) (lfd : Nat → Int32) (nfd : Int32) (ans : Int32) (rfc : Int32) (rfb : Int32) (p0 : Int32) (X : Prop) (Q : Int32 → Prop) (hw : w_X4_told rc wa wb wlo whi ans rfc rfb p0 X Q) : Kxi l yX4_told wsX4_told rm_X4_told xTx sa G cI cJ [.ref Ax, .int p0] (wX4 cI cJ Ax Bx Aw As Asm Bsm Ast Bst Ag Agu Bgu Agd Bgd Ae Aeu Beu Aed Bed Af Afu Bfu Afd Bfd row rc wa wb wlo whi wtot lsm nsm lst nst lgu ngu lgd ngd leu neu led ned lfu nfu lfd nfd ans rfc rfb) (fun (r : Int32) (u : Unit) => Q r) (fun u => (wX4 cI cJ Ax Bx Aw As Asm Bsm Ast Bst Ag Agu Bgu Agd Bgd Ae Aeu Beu Aed Bed Af Afu Bfu Afd Bfd row rc wa wb wlo whi wtot lsm nsm lst nst lgu ngu lgd ngd leu neu led ned lfu nfu lfd nfd ans rfc rfb)) "java/lang/IndexOutOfBoundsException" X := by
  refine kxi_intro (cc := cX4_told) (maxL := 2) (E := "java/lang/IndexOutOfBoundsException") (text := "another what") 53 175 57 hst (Nat.le_refl _) (Nat.le_refl _) (Nat.le_of_ble_eq_true rfl) (Nat.le_of_ble_eq_true rfl) (by decide) rfl rfl (Nat.le_of_ble_eq_true rfl) (by decide +kernel) (by decide +kernel) (by decide +kernel) (by decide +kernel) (by decide +kernel) (by decide +kernel) (by decide +kernel) ?_
  intro p e s m args below meth c A Z ls hx hb hml hts hown hP hK hD hS hA hl hret hthr
  have hl : lv_has ls 2 [(0, .ref Ax), (1, .int p0)] := hl
  unfold w_X4_told at hw
  refine lv_iload_n hx hb dX4_told_0 rfl (lv_at hl 1 rfl) ?_
  by_cases c_1 : p0 = 0
  · have hw := hw.1 c_1
    refine lv_tableIn (off := 47) (tgt := 48) hx hb dX4_told_1 (by rw [c_1]; decide) (by rw [c_1]; decide) (by rw [c_1]; rfl) (by decide) ?_
    refine lv_aload_n hx hb dX4_told_48 rfl (lv_at hl 0 rfl) ?_
    refine k_get hx hb hts uX4_told_X4 hown hK hP 0 4 rfl rfl 7 (by decide) fX4_told_44 (.int ans) rfl dX4_told_49 ?_
    exact hret _ () _ _ _ _ hw hP hD hS dX4_told_52
  have hw := hw.2 c_1
  by_cases c_2 : p0 = 1
  · have hw := hw.1 c_2
    refine lv_tableIn (off := 52) (tgt := 53) hx hb dX4_told_1 (by rw [c_2]; decide) (by rw [c_2]; decide) (by rw [c_2]; rfl) (by decide) ?_
    refine lv_aload_n hx hb dX4_told_53 rfl (lv_at hl 0 rfl) ?_
    refine k_get hx hb hts uX4_told_X4 hown hK hP 0 4 rfl rfl 8 (by decide) fX4_told_47 (.int rfc) rfl dX4_told_54 ?_
    exact hret _ () _ _ _ _ hw hP hD hS dX4_told_57
  have hw := hw.2 c_2
  by_cases c_3 : p0 = 2
  · have hw := hw.1 c_3
    refine lv_tableIn (off := 57) (tgt := 58) hx hb dX4_told_1 (by rw [c_3]; decide) (by rw [c_3]; decide) (by rw [c_3]; rfl) (by decide) ?_
    refine lv_aload_n hx hb dX4_told_58 rfl (lv_at hl 0 rfl) ?_
    refine k_get hx hb hts uX4_told_X4 hown hK hP 0 4 rfl rfl 9 (by decide) fX4_told_50 (.int rfb) rfl dX4_told_59 ?_
    exact hret _ () _ _ _ _ hw hP hD hS dX4_told_62
  have hw := hw.2 c_3
  by_cases c_4 : p0 = 3
  · have hw := hw.1 c_4
    refine lv_tableIn (off := 62) (tgt := 63) hx hb dX4_told_1 (by rw [c_4]; decide) (by rw [c_4]; decide) (by rw [c_4]; rfl) (by decide) ?_
    refine lv_aload_n hx hb dX4_told_63 rfl (lv_at hl 0 rfl) ?_
    refine k_get hx hb hts uX4_told_X4 hown hK hP 0 4 rfl rfl 1 (by decide) fX4_told_13 (.int rc) rfl dX4_told_64 ?_
    exact hret _ () _ _ _ _ hw hP hD hS dX4_told_67
  have hw := hw.2 c_4
  by_cases c_5 : p0 = 4
  · have hw := hw.1 c_5
    refine lv_tableIn (off := 67) (tgt := 68) hx hb dX4_told_1 (by rw [c_5]; decide) (by rw [c_5]; decide) (by rw [c_5]; rfl) (by decide) ?_
    refine lv_aload_n hx hb dX4_told_68 rfl (lv_at hl 0 rfl) ?_
    refine k_get hx hb hts uX4_told_X4 hown hK hP 0 4 rfl rfl 2 (by decide) fX4_told_20 (.ref Aw) rfl dX4_told_69 ?_
    refine k_get hx hb hts uX4_told_X3 hown hK hP 2 3 rfl rfl 2 (by decide) fX4_told_163 (.int wlo) rfl dX4_told_72 ?_
    exact hret _ () _ _ _ _ hw hP hD hS dX4_told_75
  have hw := hw.2 c_5
  by_cases c_6 : p0 = 5
  · have hw := hw.1 c_6
    refine lv_tableIn (off := 75) (tgt := 76) hx hb dX4_told_1 (by rw [c_6]; decide) (by rw [c_6]; decide) (by rw [c_6]; rfl) (by decide) ?_
    refine lv_aload_n hx hb dX4_told_76 rfl (lv_at hl 0 rfl) ?_
    refine k_get hx hb hts uX4_told_X4 hown hK hP 0 4 rfl rfl 2 (by decide) fX4_told_20 (.ref Aw) rfl dX4_told_77 ?_
    refine k_get hx hb hts uX4_told_X3 hown hK hP 2 3 rfl rfl 3 (by decide) fX4_told_166 (.int whi) rfl dX4_told_80 ?_
    exact hret _ () _ _ _ _ hw hP hD hS dX4_told_83
  have hw := hw.2 c_6
  by_cases c_7 : p0 = 6
  · have hw := hw.1 c_7
    refine lv_tableIn (off := 83) (tgt := 84) hx hb dX4_told_1 (by rw [c_7]; decide) (by rw [c_7]; decide) (by rw [c_7]; rfl) (by decide) ?_
    refine lv_aload_n hx hb dX4_told_84 rfl (lv_at hl 0 rfl) ?_
    refine k_get hx hb hts uX4_told_X4 hown hK hP 0 4 rfl rfl 2 (by decide) fX4_told_20 (.ref Aw) rfl dX4_told_85 ?_
    refine k_get hx hb hts uX4_told_X3 hown hK hP 2 3 rfl rfl 0 (by decide) fX4_told_169 (.int wa) rfl dX4_told_88 ?_
    exact hret _ () _ _ _ _ hw hP hD hS dX4_told_91
  have hw := hw.2 c_7
  by_cases c_8 : p0 = 7
  · have hw := hw.1 c_8
    refine lv_tableIn (off := 91) (tgt := 92) hx hb dX4_told_1 (by rw [c_8]; decide) (by rw [c_8]; decide) (by rw [c_8]; rfl) (by decide) ?_
    refine lv_aload_n hx hb dX4_told_92 rfl (lv_at hl 0 rfl) ?_
    refine k_get hx hb hts uX4_told_X4 hown hK hP 0 4 rfl rfl 2 (by decide) fX4_told_20 (.ref Aw) rfl dX4_told_93 ?_
    refine k_get hx hb hts uX4_told_X3 hown hK hP 2 3 rfl rfl 1 (by decide) fX4_told_172 (.int wb) rfl dX4_told_96 ?_
    exact hret _ () _ _ _ _ hw hP hD hS dX4_told_99
  have hw := hw.2 c_8
  refine lv_tableOut (tgt := 100) hx hb dX4_told_1 (k_sw7 c_1 c_2 c_3 c_4 c_5 c_6 c_7 c_8) (by decide) ?_
  exact hthr _ _ _ _ hw hP hD hS hl.1 dX4_told_100 dX4_told_103 dX4_told_104 dX4_told_106 dX4_told_109
