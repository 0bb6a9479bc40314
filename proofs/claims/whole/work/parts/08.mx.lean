/-! PrivateCounts, methods that never throw: predicates and walks (laid by wip/whole/gen.py) -/
def wX4 (cI cJ : ClassId) (Ax Bx Aw As Asm Bsm Ast Bst Ag Agu Bgu Agd Bgd Ae Aeu Beu Aed Bed Af Afu Bfu Afd Bfd : Nat) (row : Nat → Int32) (rc : Int32) (wa : Int32) (wb : Int32) (wlo : Int32) (whi : Int32) (wtot : Int64) (lsm : Nat → Int32) (nsm : Int32) (lst : Nat → Int32) (nst : Int32) (lgu : Nat → Int32) (ngu : Int32) (lgd : Nat → Int32) (ngd : Int32) (leu : Nat → Int32) (neu : Int32) (led : Nat → Int32) (ned : Int32) (lfu : Nat → Int32) (nfu : Int32) (lfd : Nat → Int32) (nfd : Int32) (ans : Int32) (rfc : Int32) (rfb : Int32) : va_W := [(Ax, .inr (4, [.ref Bx, .int rc, .ref Aw, .ref As, .ref Ag, .ref Ae, .ref Af, .int ans, .int rfc, .int rfb])), (Bx, .inl (cI, 60, .inl row)), (Aw, .inr (3, [.int wa, .int wb, .int wlo, .int whi, .long wtot])), (As, .inr (2, [.ref Asm, .ref Ast])), (Asm, .inr (1, [.ref Bsm, .int nsm])), (Bsm, .inl (cI, 64, .inl lsm)), (Ast, .inr (1, [.ref Bst, .int nst])), (Bst, .inl (cI, 64, .inl lst)), (Ag, .inr (0, [.ref Agu, .ref Agd])), (Agu, .inr (1, [.ref Bgu, .int ngu])), (Bgu, .inl (cI, 64, .inl lgu)), (Agd, .inr (1, [.ref Bgd, .int ngd])), (Bgd, .inl (cI, 64, .inl lgd)), (Ae, .inr (0, [.ref Aeu, .ref Aed])), (Aeu, .inr (1, [.ref Beu, .int neu])), (Beu, .inl (cI, 64, .inl leu)), (Aed, .inr (1, [.ref Bed, .int ned])), (Bed, .inl (cI, 64, .inl led)), (Af, .inr (0, [.ref Afu, .ref Afd])), (Afu, .inr (1, [.ref Bfu, .int nfu])), (Bfu, .inl (cI, 64, .inl lfu)), (Afd, .inr (1, [.ref Bfd, .int nfd])), (Bfd, .inl (cI, 64, .inl lfd))]
abbrev rm_X4_add : Room := { frames := 0, cells := 0, slots := 0, locals := 0 }
abbrev rm_X4_count : Room := { frames := 0, cells := 0, slots := 0, locals := 0 }
abbrev rm_X4_all : Room := { frames := 0, cells := 0, slots := 0, locals := 0 }
abbrev rm_X4_weight : Room := { frames := 2, cells := 0, slots := 0, locals := 48 }
abbrev rm_X4_upTo : Room := { frames := 3, cells := 0, slots := 0, locals := 73 }
abbrev rm_X4_isDenominator : Room := { frames := 0, cells := 0, slots := 0, locals := 0 }
abbrev rm_X4_isGrant : Room := { frames := 1, cells := 0, slots := 0, locals := 20 }
abbrev rm_X4_isCost : Room := { frames := 1, cells := 0, slots := 0, locals := 20 }
def w_X4_add (row : Nat → Int32) (rc : Int32) (p0 : Int32) (Q : Int32 → (Nat → Int32) → Int32 → Prop) : Prop :=
  ((rc < 0 →
    Q ((-1) : Int32) row rc
   ) ∧ (¬ rc < 0 →
    ((rc < 60 →
      vp_in rc 60 ∧
      ∀ (row_1 : Nat → Int32), row_1 = upd row rc.toNatClampNeg p0 →
      ∀ (rc_2 : Int32), rc_2 = rc + 1 →
      Q (rc_2 - 1) row_1 rc_2
     ) ∧ (¬ rc < 60 →
      Q ((-1) : Int32) row rc
     ))
   ))

def w_X4_count (row : Nat → Int32) (rc : Int32) (p0 : Int32) (p1 : Int32) (Q : Int32 → Prop) : Prop :=
  ∃ (I5_3 : Int32 → Int32 → Prop) (μ5_3 : Int32 → Int32 → Nat), I5_3 (0 : Int32) (0 : Int32) ∧ ∀ (i4_1 : Int32) (i3_2 : Int32), I5_3 i4_1 i3_2 →
    ((rc ≤ i4_1 →
      Q i3_2
     ) ∧ (¬ rc ≤ i4_1 →
      ((60 ≤ i4_1 →
        Q i3_2
       ) ∧ (¬ 60 ≤ i4_1 →
        vp_in i4_1 60 ∧
        (((row i4_1.toNatClampNeg) < p0 →
          ∀ (i4_4 : Int32), i4_4 = i4_1 + 1 →
          I5_3 i4_4 i3_2 ∧ μ5_3 i4_4 i3_2 < μ5_3 i4_1 i3_2
         ) ∧ (¬ (row i4_1.toNatClampNeg) < p0 →
          vp_in i4_1 60 ∧
          ((p1 < (row i4_1.toNatClampNeg) →
            ∀ (i4_5 : Int32), i4_5 = i4_1 + 1 →
            I5_3 i4_5 i3_2 ∧ μ5_3 i4_5 i3_2 < μ5_3 i4_1 i3_2
           ) ∧ (¬ p1 < (row i4_1.toNatClampNeg) →
            ∀ (i3_6 : Int32), i3_6 = i3_2 + 1 →
            ∀ (i4_7 : Int32), i4_7 = i4_1 + 1 →
            I5_3 i4_7 i3_6 ∧ μ5_3 i4_7 i3_6 < μ5_3 i4_1 i3_2
           ))
         ))
       ))
     ))

def w_X4_all (wtot : Int64) (Q : Int64 → Prop) : Prop :=
  Q wtot

def w_X4_weight (wa : Int32) (wb : Int32) (wlo : Int32) (whi : Int32) (wtot : Int64) (p0 : Int32) (p1 : Int32) (Q : Int64 → Prop) : Prop :=
  w_X3_weightOf wa wb wlo whi wtot p0 p1 (fun (r_1 : Int64) =>
  Q r_1)

def w_X4_upTo (wa : Int32) (wb : Int32) (wlo : Int32) (whi : Int32) (wtot : Int64) (p0 : Int32) (p1 : Int32) (Q : Int64 → Prop) : Prop :=
  w_X3_sumTo wa wb wlo whi wtot p0 p1 (fun (r_1 : Int64) =>
  Q r_1)

def w_X4_isDenominator (p0 : Int32) (Q : Int32 → Prop) : Prop :=
  ((p0 < 1 →
    Q (0 : Int32)
   ) ∧ (¬ p0 < 1 →
    ((1000 < p0 →
      Q (0 : Int32)
     ) ∧ (¬ 1000 < p0 →
      Q (1 : Int32)
     ))
   ))

def w_X4_isGrant (p0 : Int32) (p1 : Int32) (Q : Int32 → Prop) : Prop :=
  ((p0 < 0 →
    Q (0 : Int32)
   ) ∧ (¬ p0 < 0 →
    w_X4_isDenominator p1 (fun (r_1 : Int32) =>
    ((r_1 = 0 →
      Q (0 : Int32)
     ) ∧ (¬ r_1 = 0 →
      Q (1 : Int32)
     )))
   ))

def w_X4_isCost (p0 : Int32) (p1 : Int32) (Q : Int32 → Prop) : Prop :=
  ((p0 < 0 →
    Q (0 : Int32)
   ) ∧ (¬ p0 < 0 →
    ((3000 < p0 →
      Q (0 : Int32)
     ) ∧ (¬ 3000 < p0 →
      w_X4_isDenominator p1 (fun (r_1 : Int32) =>
      ((r_1 = 0 →
        Q (0 : Int32)
       ) ∧ (¬ r_1 = 0 →
        Q (1 : Int32)
       )))
     ))
   ))

theorem fX4_add_13 : Cond.fieldLink RX4 13 "PrivateCounts" "rowCount" "I" ∈ wsX4_add := by decide +kernel
theorem uX4_add_X4 : ∀ w ∈ u_ws RX4 TX4 10, w ∈ wsX4_add := by decide +kernel
theorem fX4_add_9 : Cond.fieldLink RX4 9 "PrivateCounts" "rows" "[I" ∈ wsX4_add := by decide +kernel
set_option maxHeartbeats 4000000 in
set_option maxRecDepth 100000 in
theorem M_X4_add (l : Launch) (G : va_G) (cI cJ : ClassId) (Ax Bx Aw As Asm Bsm Ast Bst Ag Agu Bgu Agd Bgd Ae Aeu Beu Aed Bed Af Afu Bfu Afd Bfd : Nat) (row : Nat → Int32) (rc : Int32) (wa : Int32) (wb : Int32) (wlo : Int32) (whi : Int32) (wtot : Int64) (lsm : Nat → Int32) (nsm : Int32) (lst : Nat → Int32) (nst : Int32) (lgu : Nat → Int32) (ngu : Int32) (lgd : Nat → Int32) (ngd : Int32) (leu : Nat → Int32) (neu : Int32) (led : Nat → Int32) (ned : Int32) (lfu : Nat → Int32) (nfu : Int32) (lfd : Nat → Int32) (nfd : Int32) (ans : Int32) (rfc : Int32) (rfb : Int32) (p0 : Int32) (Q : Int32 → (Nat → Int32) → Int32 → Prop) (hw : w_X4_add row rc p0 Q) : Ki l yX4_add wsX4_add rm_X4_add G cI cJ [.ref Ax, .int p0] (wX4 cI cJ Ax Bx Aw As Asm Bsm Ast Bst Ag Agu Bgu Agd Bgd Ae Aeu Beu Aed Bed Af Afu Bfu Afd Bfd row rc wa wb wlo whi wtot lsm nsm lst nst lgu ngu lgd ngd leu neu led ned lfu nfu lfd nfd ans rfc rfb) (fun (r : Int32) (u : (Nat → Int32) × (Int32)) => Q r u.1 u.2) (fun u => (wX4 cI cJ Ax Bx Aw As Asm Bsm Ast Bst Ag Agu Bgu Agd Bgd Ae Aeu Beu Aed Bed Af Afu Bfu Afd Bfd u.1 u.2 wa wb wlo whi wtot lsm nsm lst nst lgu ngu lgd ngd leu neu led ned lfu nfu lfd nfd ans rfc rfb)) := by
  refine ki_intro (cc := cX4_add) (maxL := 2) rfl rfl (by decide) rfl (Nat.le_of_ble_eq_true rfl) ?_
  intro p e s m args below meth c A Z ls hx hb hml hts hown hP hK hD hS hA hl hret
  have hl : lv_has ls 2 [(0, .ref Ax), (1, .int p0)] := hl
  unfold w_X4_add at hw
  refine lv_aload_n hx hb dX4_add_0 rfl (lv_at hl 0 rfl) ?_
  refine k_get hx hb hts uX4_add_X4 hown hK hP 0 4 rfl rfl 1 (by decide) fX4_add_13 (.int rc) rfl dX4_add_1 ?_
  refine lv_if_lt (tgt := 19) hx hb dX4_add_4 (by decide) (fun c_4 => ?_) (fun c_4 => ?_)
  · have hw := hw.1 c_4
    refine lv_iconst (v := (-1)) hx hb dX4_add_19 (by decide) ?_
    exact hret _ (row, rc) _ _ _ _ hw hP hD hS dX4_add_20
  · have hw := hw.2 c_4
    refine lv_aload_n hx hb dX4_add_7 rfl (lv_at hl 0 rfl) ?_
    refine k_get hx hb hts uX4_add_X4 hown hK hP 0 4 rfl rfl 1 (by decide) fX4_add_13 (.int rc) rfl dX4_add_8 ?_
    refine lv_aload_n hx hb dX4_add_11 rfl (lv_at hl 0 rfl) ?_
    refine k_get hx hb hts uX4_add_X4 hown hK hP 0 4 rfl rfl 0 (by decide) fX4_add_9 (.ref Bx) rfl dX4_add_12 ?_
    refine k_alen hx hb hK hP 1 rfl 60 rfl dX4_add_15 ?_
    refine lv_icmp_lt (tgt := 21) hx hb dX4_add_16 (by decide) (fun c_3 => ?_) (fun c_3 => ?_)
    · have hw := hw.1 c_3
      refine lv_aload_n hx hb dX4_add_21 rfl (lv_at hl 0 rfl) ?_
      refine k_get hx hb hts uX4_add_X4 hown hK hP 0 4 rfl rfl 0 (by decide) fX4_add_9 (.ref Bx) rfl dX4_add_22 ?_
      refine lv_aload_n hx hb dX4_add_25 rfl (lv_at hl 0 rfl) ?_
      refine k_get hx hb hts uX4_add_X4 hown hK hP 0 4 rfl rfl 1 (by decide) fX4_add_13 (.int rc) rfl dX4_add_26 ?_
      refine lv_iload_n hx hb dX4_add_29 rfl (lv_at hl 1 rfl) ?_
      obtain ⟨hin, hw⟩ := hw
      refine k_iast hx hb hK hP hD hS 1 rfl hin (w' := fun g => (wX4 cI cJ Ax Bx Aw As Asm Bsm Ast Bst Ag Agu Bgu Agd Bgd Ae Aeu Beu Aed Bed Af Afu Bfu Afd Bfd g rc wa wb wlo whi wtot lsm nsm lst nst lgu ngu lgd ngd leu neu led ned lfu nfu lfd nfd ans rfc rfb)) (fun _ => rfl) dX4_add_30 (fun row_1 erow_1 H locs hP hD hS => ?_)
      have hw := hw row_1 erow_1
      refine lv_aload_n hx hb dX4_add_31 rfl (lv_at hl 0 rfl) ?_
      refine lv_dup hx hb dX4_add_32 rfl ?_
      refine k_get hx hb hts uX4_add_X4 hown hK hP 0 4 rfl rfl 1 (by decide) fX4_add_13 (.int rc) rfl dX4_add_33 ?_
      refine lv_iconst (v := 1) hx hb dX4_add_36 (by decide) ?_
      refine lv_iadd hx hb dX4_add_37 ?_
      refine lv_topi (fun rc_2 erc_2 => ?_)
      have hw := hw rc_2 erc_2
      refine k_put hx hb hts uX4_add_X4 tyX4 tyX4_ok nmX4 hown hK hP hD hS 0 4 rfl rfl 1 (by decide) fX4_add_13 rfl rfl rfl (Nat.le_of_ble_eq_true rfl) (w' := (wX4 cI cJ Ax Bx Aw As Asm Bsm Ast Bst Ag Agu Bgu Agd Bgd Ae Aeu Beu Aed Bed Af Afu Bfu Afd Bfd row_1 rc_2 wa wb wlo whi wtot lsm nsm lst nst lgu ngu lgd ngd leu neu led ned lfu nfu lfd nfd ans rfc rfb)) rfl dX4_add_38 (fun H locs hP hD hS => ?_)
      refine lv_aload_n hx hb dX4_add_41 rfl (lv_at hl 0 rfl) ?_
      refine k_get hx hb hts uX4_add_X4 hown hK hP 0 4 rfl rfl 1 (by decide) fX4_add_13 (.int rc_2) rfl dX4_add_42 ?_
      refine lv_iconst (v := 1) hx hb dX4_add_45 (by decide) ?_
      refine lv_isub hx hb dX4_add_46 ?_
      exact hret _ (row_1, rc_2) _ _ _ _ hw hP hD hS dX4_add_47
    · have hw := hw.2 c_3
      refine lv_iconst (v := (-1)) hx hb dX4_add_19 (by decide) ?_
      exact hret _ (row, rc) _ _ _ _ hw hP hD hS dX4_add_20
theorem fX4_count_13 : Cond.fieldLink RX4 13 "PrivateCounts" "rowCount" "I" ∈ wsX4_count := by decide +kernel
theorem uX4_count_X4 : ∀ w ∈ u_ws RX4 TX4 10, w ∈ wsX4_count := by decide +kernel
theorem fX4_count_9 : Cond.fieldLink RX4 9 "PrivateCounts" "rows" "[I" ∈ wsX4_count := by decide +kernel
set_option maxHeartbeats 4000000 in
set_option maxRecDepth 100000 in
theorem M_X4_count (l : Launch) (G : va_G) (cI cJ : ClassId) (Ax Bx Aw As Asm Bsm Ast Bst Ag Agu Bgu Agd Bgd Ae Aeu Beu Aed Bed Af Afu Bfu Afd Bfd : Nat) (row : Nat → Int32) (rc : Int32) (wa : Int32) (wb : Int32) (wlo : Int32) (whi : Int32) (wtot : Int64) (lsm : Nat → Int32) (nsm : Int32) (lst : Nat → Int32) (nst : Int32) (lgu : Nat → Int32) (ngu : Int32) (lgd : Nat → Int32) (ngd : Int32) (leu : Nat → Int32) (neu : Int32) (led : Nat → Int32) (ned : Int32) (lfu : Nat → Int32) (nfu : Int32) (lfd : Nat → Int32) (nfd : Int32) (ans : Int32) (rfc : Int32) (rfb : Int32) (p0 : Int32) (p1 : Int32) (Q : Int32 → Prop) (hw : w_X4_count row rc p0 p1 Q) : Ki l yX4_count wsX4_count rm_X4_count G cI cJ [.ref Ax, .int p0, .int p1] (wX4 cI cJ Ax Bx Aw As Asm Bsm Ast Bst Ag Agu Bgu Agd Bgd Ae Aeu Beu Aed Bed Af Afu Bfu Afd Bfd row rc wa wb wlo whi wtot lsm nsm lst nst lgu ngu lgd ngd leu neu led ned lfu nfu lfd nfd ans rfc rfb) (fun (r : Int32) (u : Unit) => Q r) (fun u => (wX4 cI cJ Ax Bx Aw As Asm Bsm Ast Bst Ag Agu Bgu Agd Bgd Ae Aeu Beu Aed Bed Af Afu Bfu Afd Bfd row rc wa wb wlo whi wtot lsm nsm lst nst lgu ngu lgd ngd leu neu led ned lfu nfu lfd nfd ans rfc rfb)) := by
  refine ki_intro (cc := cX4_count) (maxL := 5) rfl rfl (by decide) rfl (Nat.le_of_ble_eq_true rfl) ?_
  intro p e s m args below meth c A Z ls hx hb hml hts hown hP hK hD hS hA hl hret
  have hl : lv_has ls 5 [(0, .ref Ax), (1, .int p0), (2, .int p1)] := hl
  unfold w_X4_count at hw
  refine lv_iconst (v := 0) hx hb dX4_count_0 (by decide) ?_
  refine lv_istore_n (lv' := [(3, .int 0), (0, .ref Ax), (1, .int p0), (2, .int p1)]) hx hb dX4_count_1 rfl hl (by decide) rfl (fun ls hl => ?_)
  refine lv_iconst (v := 0) hx hb dX4_count_2 (by decide) ?_
  refine lv_istore (lv' := [(4, .int 0), (3, .int 0), (0, .ref Ax), (1, .int p0), (2, .int p1)]) hx hb dX4_count_3 hl (by decide) rfl (fun ls hl => ?_)
  obtain ⟨I5_3, μ5_3, hi, hw⟩ := hw
  suffices hLI5_3 : ∀ (N : Nat) (i4_1 : Int32) (i3_2 : Int32) (_ : μ5_3 i4_1 i3_2 = N) (_ : I5_3 i4_1 i3_2) (H : Heap) (locs : List Loc) (ls : Array Slot), va_P G vwCl (wX4 cI cJ Ax Bx Aw As Asm Bsm Ast Bst Ag Agu Bgu Agd Bgd Ae Aeu Beu Aed Bed Af Afu Bfu Afd Bfd row rc wa wb wlo whi wtot lsm nsm lst nst lgu ngu lgd ngd leu neu led ned lfu nfu lfd nfd ans rfc rfb) H → va_D A (wX4 cI cJ Ax Bx Aw As Asm Bsm Ast Bst Ag Agu Bgu Agd Bgd Ae Aeu Beu Aed Bed Af Afu Bfu Afd Bfd row rc wa wb wlo whi wtot lsm nsm lst nst lgu ngu lgd ngd leu neu led ned lfu nfu lfd nfd ans rfc rfb) → va_S A s.heap H locs → lv_has ls 5 [(4, .int i4_1), (3, .int i3_2), (0, .ref Ax), (1, .int p0), (2, .int p1)] → W p l e rm_X4_count s m args below meth c H locs 0 0 Z (F0 m 5 ls []) from
    hLI5_3 _ (0 : Int32) (0 : Int32) rfl hi _ _ _ hP hD hS (lv_sub hl [0, 1, 2, 3, 4] rfl)
  clear hi hP hD hS hl
  intro N
  induction N using Nat.strongRecOn with
  | ind N ihI5_3 =>
    intro i4_1 i3_2 hNI5_3 hi H locs ls hP hD hS hl
    have hw := hw i4_1 i3_2 hi
    refine lv_iload hx hb dX4_count_5 (lv_at hl 0 rfl) ?_
    refine lv_aload_n hx hb dX4_count_7 rfl (lv_at hl 2 rfl) ?_
    refine k_get hx hb hts uX4_count_X4 hown hK hP 0 4 rfl rfl 1 (by decide) fX4_count_13 (.int rc) rfl dX4_count_8 ?_
    refine lv_icmp_ge (tgt := 55) hx hb dX4_count_11 (by decide) (fun c_11 => ?_) (fun c_11 => ?_)
    · have hw := hw.1 c_11
      refine lv_iload_n hx hb dX4_count_55 rfl (lv_at hl 1 rfl) ?_
      exact hret _ () _ _ _ _ hw hP hD hS dX4_count_56
    · have hw := hw.2 c_11
      refine lv_iload hx hb dX4_count_14 (lv_at hl 0 rfl) ?_
      refine lv_aload_n hx hb dX4_count_16 rfl (lv_at hl 2 rfl) ?_
      refine k_get hx hb hts uX4_count_X4 hown hK hP 0 4 rfl rfl 0 (by decide) fX4_count_9 (.ref Bx) rfl dX4_count_17 ?_
      refine k_alen hx hb hK hP 1 rfl 60 rfl dX4_count_20 ?_
      refine lv_icmp_ge (tgt := 55) hx hb dX4_count_21 (by decide) (fun c_10 => ?_) (fun c_10 => ?_)
      · have hw := hw.1 c_10
        refine lv_iload_n hx hb dX4_count_55 rfl (lv_at hl 1 rfl) ?_
        exact hret _ () _ _ _ _ hw hP hD hS dX4_count_56
      · have hw := hw.2 c_10
        refine lv_aload_n hx hb dX4_count_24 rfl (lv_at hl 2 rfl) ?_
        refine k_get hx hb hts uX4_count_X4 hown hK hP 0 4 rfl rfl 0 (by decide) fX4_count_9 (.ref Bx) rfl dX4_count_25 ?_
        refine lv_iload hx hb dX4_count_28 (lv_at hl 0 rfl) ?_
        obtain ⟨hin, hw⟩ := hw
        refine k_iald hx hb hK hP 1 rfl hin dX4_count_30 ?_
        refine lv_iload_n hx hb dX4_count_31 rfl (lv_at hl 3 rfl) ?_
        refine lv_icmp_lt (tgt := 49) hx hb dX4_count_32 (by decide) (fun c_9 => ?_) (fun c_9 => ?_)
        · have hw := hw.1 c_9
          obtain ⟨i4_4, ei4_4⟩ : ∃ y : Int32, y = i4_1 + 1 := ⟨_, rfl⟩
          have hw := hw i4_4 ei4_4
          refine lv_iinc (v := i4_4) (lv' := [(4, .int i4_4), (3, .int i3_2), (0, .ref Ax), (1, .int p0), (2, .int p1)]) hx hb dX4_count_49 hl (k := 0) rfl (by rw [ei4_4]; rfl) (by decide) rfl (fun ls hl => ?_)
          refine lv_goto (tgt := 5) hx hb dX4_count_52 (by decide) ?_
          exact ihI5_3 _ (by rw [← hNI5_3]; exact hw.2) i4_4 i3_2 rfl hw.1 _ _ _ hP hD hS (lv_sub hl [0, 1, 2, 3, 4] rfl)
        · have hw := hw.2 c_9
          refine lv_aload_n hx hb dX4_count_35 rfl (lv_at hl 2 rfl) ?_
          refine k_get hx hb hts uX4_count_X4 hown hK hP 0 4 rfl rfl 0 (by decide) fX4_count_9 (.ref Bx) rfl dX4_count_36 ?_
          refine lv_iload hx hb dX4_count_39 (lv_at hl 0 rfl) ?_
          obtain ⟨hin, hw⟩ := hw
          refine k_iald hx hb hK hP 1 rfl hin dX4_count_41 ?_
          refine lv_iload_n hx hb dX4_count_42 rfl (lv_at hl 4 rfl) ?_
          refine lv_icmp_gt (tgt := 49) hx hb dX4_count_43 (by decide) (fun c_8 => ?_) (fun c_8 => ?_)
          · have hw := hw.1 c_8
            obtain ⟨i4_5, ei4_5⟩ : ∃ y : Int32, y = i4_1 + 1 := ⟨_, rfl⟩
            have hw := hw i4_5 ei4_5
            refine lv_iinc (v := i4_5) (lv' := [(4, .int i4_5), (3, .int i3_2), (0, .ref Ax), (1, .int p0), (2, .int p1)]) hx hb dX4_count_49 hl (k := 0) rfl (by rw [ei4_5]; rfl) (by decide) rfl (fun ls hl => ?_)
            refine lv_goto (tgt := 5) hx hb dX4_count_52 (by decide) ?_
            exact ihI5_3 _ (by rw [← hNI5_3]; exact hw.2) i4_5 i3_2 rfl hw.1 _ _ _ hP hD hS (lv_sub hl [0, 1, 2, 3, 4] rfl)
          · have hw := hw.2 c_8
            obtain ⟨i3_6, ei3_6⟩ : ∃ y : Int32, y = i3_2 + 1 := ⟨_, rfl⟩
            have hw := hw i3_6 ei3_6
            refine lv_iinc (v := i3_6) (lv' := [(3, .int i3_6), (4, .int i4_1), (0, .ref Ax), (1, .int p0), (2, .int p1)]) hx hb dX4_count_46 hl (k := 1) rfl (by rw [ei3_6]; rfl) (by decide) rfl (fun ls hl => ?_)
            obtain ⟨i4_7, ei4_7⟩ : ∃ y : Int32, y = i4_1 + 1 := ⟨_, rfl⟩
            have hw := hw i4_7 ei4_7
            refine lv_iinc (v := i4_7) (lv' := [(4, .int i4_7), (3, .int i3_6), (0, .ref Ax), (1, .int p0), (2, .int p1)]) hx hb dX4_count_49 hl (k := 1) rfl (by rw [ei4_7]; rfl) (by decide) rfl (fun ls hl => ?_)
            refine lv_goto (tgt := 5) hx hb dX4_count_52 (by decide) ?_
            exact ihI5_3 _ (by rw [← hNI5_3]; exact hw.2) i4_7 i3_6 rfl hw.1 _ _ _ hP hD hS (lv_sub hl [0, 1, 2, 3, 4] rfl)
theorem fX4_all_20 : Cond.fieldLink RX4 20 "PrivateCounts" "weights" "LPrivateCounts$Table;" ∈ wsX4_all := by decide +kernel
theorem uX4_all_X4 : ∀ w ∈ u_ws RX4 TX4 10, w ∈ wsX4_all := by decide +kernel
theorem fX4_all_73 : Cond.fieldLink RX4 73 "PrivateCounts$Table" "total" "J" ∈ wsX4_all := by decide +kernel
theorem uX4_all_X3 : ∀ w ∈ u_ws RX3 TX3 5, w ∈ wsX4_all := by decide +kernel
set_option maxHeartbeats 4000000 in
set_option maxRecDepth 100000 in
theorem M_X4_all (l : Launch) (G : va_G) (cI cJ : ClassId) (Ax Bx Aw As Asm Bsm Ast Bst Ag Agu Bgu Agd Bgd Ae Aeu Beu Aed Bed Af Afu Bfu Afd Bfd : Nat) (row : Nat → Int32) (rc : Int32) (wa : Int32) (wb : Int32) (wlo : Int32) (whi : Int32) (wtot : Int64) (lsm : Nat → Int32) (nsm : Int32) (lst : Nat → Int32) (nst : Int32) (lgu : Nat → Int32) (ngu : Int32) (lgd : Nat → Int32) (ngd : Int32) (leu : Nat → Int32) (neu : Int32) (led : Nat → Int32) (ned : Int32) (lfu : Nat → Int32) (nfu : Int32) (lfd : Nat → Int32) (nfd : Int32) (ans : Int32) (rfc : Int32) (rfb : Int32) (Q : Int64 → Prop) (hw : w_X4_all wtot Q) : Kl l yX4_all wsX4_all rm_X4_all G cI cJ [.ref Ax] (wX4 cI cJ Ax Bx Aw As Asm Bsm Ast Bst Ag Agu Bgu Agd Bgd Ae Aeu Beu Aed Bed Af Afu Bfu Afd Bfd row rc wa wb wlo whi wtot lsm nsm lst nst lgu ngu lgd ngd leu neu led ned lfu nfu lfd nfd ans rfc rfb) (fun (r : Int64) (u : Unit) => Q r) (fun u => (wX4 cI cJ Ax Bx Aw As Asm Bsm Ast Bst Ag Agu Bgu Agd Bgd Ae Aeu Beu Aed Bed Af Afu Bfu Afd Bfd row rc wa wb wlo whi wtot lsm nsm lst nst lgu ngu lgd ngd leu neu led ned lfu nfu lfd nfd ans rfc rfb)) := by
  refine kl_intro (cc := cX4_all) (maxL := 1) rfl rfl (by decide) rfl (Nat.le_of_ble_eq_true rfl) ?_
  intro p e s m args below meth c A Z ls hx hb hml hts hown hP hK hD hS hA hl hret
  have hl : lv_has ls 1 [(0, .ref Ax)] := hl
  unfold w_X4_all at hw
  refine lv_aload_n hx hb dX4_all_0 rfl (lv_at hl 0 rfl) ?_
  refine k_get hx hb hts uX4_all_X4 hown hK hP 0 4 rfl rfl 2 (by decide) fX4_all_20 (.ref Aw) rfl dX4_all_1 ?_
  refine k_get hx hb hts uX4_all_X3 hown hK hP 2 3 rfl rfl 4 (by decide) fX4_all_73 (.long wtot) rfl dX4_all_4 ?_
  exact hret _ () _ _ _ _ hw hP hD hS dX4_all_7
theorem fX4_weight_20 : Cond.fieldLink RX4 20 "PrivateCounts" "weights" "LPrivateCounts$Table;" ∈ wsX4_weight := by decide +kernel
theorem uX4_weight_X4 : ∀ w ∈ u_ws RX4 TX4 10, w ∈ wsX4_weight := by decide +kernel
set_option maxHeartbeats 4000000 in
set_option maxRecDepth 100000 in
theorem M_X4_weight (l : Launch) (G : va_G) (cI cJ : ClassId) (Ax Bx Aw As Asm Bsm Ast Bst Ag Agu Bgu Agd Bgd Ae Aeu Beu Aed Bed Af Afu Bfu Afd Bfd : Nat) (row : Nat → Int32) (rc : Int32) (wa : Int32) (wb : Int32) (wlo : Int32) (whi : Int32) (wtot : Int64) (lsm : Nat → Int32) (nsm : Int32) (lst : Nat → Int32) (nst : Int32) (lgu : Nat → Int32) (ngu : Int32) (lgd : Nat → Int32) (ngd : Int32) (leu : Nat → Int32) (neu : Int32) (led : Nat → Int32) (ned : Int32) (lfu : Nat → Int32) (nfu : Int32) (lfd : Nat → Int32) (nfd : Int32) (ans : Int32) (rfc : Int32) (rfb : Int32) (p0 : Int32) (p1 : Int32) (Q : Int64 → Prop) (hw : w_X4_weight wa wb wlo whi wtot p0 p1 Q) : Kl l yX4_weight wsX4_weight rm_X4_weight G cI cJ [.ref Ax, .int p0, .int p1] (wX4 cI cJ Ax Bx Aw As Asm Bsm Ast Bst Ag Agu Bgu Agd Bgd Ae Aeu Beu Aed Bed Af Afu Bfu Afd Bfd row rc wa wb wlo whi wtot lsm nsm lst nst lgu ngu lgd ngd leu neu led ned lfu nfu lfd nfd ans rfc rfb) (fun (r : Int64) (u : Unit) => Q r) (fun u => (wX4 cI cJ Ax Bx Aw As Asm Bsm Ast Bst Ag Agu Bgu Agd Bgd Ae Aeu Beu Aed Bed Af Afu Bfu Afd Bfd row rc wa wb wlo whi wtot lsm nsm lst nst lgu ngu lgd ngd leu neu led ned lfu nfu lfd nfd ans rfc rfb)) := by
  refine kl_intro (cc := cX4_weight) (maxL := 3) rfl rfl (by decide) rfl (Nat.le_of_ble_eq_true rfl) ?_
  intro p e s m args below meth c A Z ls hx hb hml hts hown hP hK hD hS hA hl hret
  have hl : lv_has ls 3 [(0, .ref Ax), (1, .int p0), (2, .int p1)] := hl
  unfold w_X4_weight at hw
  refine lv_aload_n hx hb dX4_weight_0 rfl (lv_at hl 0 rfl) ?_
  refine k_get hx hb hts uX4_weight_X4 hown hK hP 0 4 rfl rfl 2 (by decide) fX4_weight_20 (.ref Aw) rfl dX4_weight_1 ?_
  refine lv_iload_n hx hb dX4_weight_4 rfl (lv_at hl 1 rfl) ?_
  refine lv_iload_n hx hb dX4_weight_5 rfl (lv_at hl 2 rfl) ?_
  refine k_Vl (M_X3_weightOf l G cI cJ Aw wa wb wlo whi wtot p0 p1 _ hw) ⟨hx, hb, hml, hown, hts⟩ (cwV 2 hts gX4_weight_X3_weightOf rfl rfl rfl (by decide +kernel) ⟨Nat.le_of_ble_eq_true rfl, Nat.le_of_ble_eq_true rfl⟩) hK hP hD hS hA [2] [0, 1, 3, 4, 5, 6, 7, 8, 9, 10, 11, 12, 13, 14, 15, 16, 17, 18, 19, 20, 21, 22] [0, 1, 22, 2, 3, 4, 5, 6, 7, 8, 9, 10, 11, 12, 13, 14, 15, 16, 17, 18, 19, 20, 21] (wr := [(Ax, .inr (4, [.ref Bx, .int rc, .ref Aw, .ref As, .ref Ag, .ref Ae, .ref Af, .int ans, .int rfc, .int rfb])), (Bx, .inl (cI, 60, .inl row)), (As, .inr (2, [.ref Asm, .ref Ast])), (Asm, .inr (1, [.ref Bsm, .int nsm])), (Bsm, .inl (cI, 64, .inl lsm)), (Ast, .inr (1, [.ref Bst, .int nst])), (Bst, .inl (cI, 64, .inl lst)), (Ag, .inr (0, [.ref Agu, .ref Agd])), (Agu, .inr (1, [.ref Bgu, .int ngu])), (Bgu, .inl (cI, 64, .inl lgu)), (Agd, .inr (1, [.ref Bgd, .int ngd])), (Bgd, .inl (cI, 64, .inl lgd)), (Ae, .inr (0, [.ref Aeu, .ref Aed])), (Aeu, .inr (1, [.ref Beu, .int neu])), (Beu, .inl (cI, 64, .inl leu)), (Aed, .inr (1, [.ref Bed, .int ned])), (Bed, .inl (cI, 64, .inl led)), (Af, .inr (0, [.ref Afu, .ref Afd])), (Afu, .inr (1, [.ref Bfu, .int nfu])), (Bfu, .inl (cI, 64, .inl lfu)), (Afd, .inr (1, [.ref Bfd, .int nfd])), (Bfd, .inl (cI, 64, .inl lfd))]) (wn := fun u : Unit => (wX4 cI cJ Ax Bx Aw As Asm Bsm Ast Bst Ag Agu Bgu Agd Bgd Ae Aeu Beu Aed Bed Af Afu Bfu Afd Bfd row rc wa wb wlo whi wtot lsm nsm lst nst lgu ngu lgd ngd leu neu led ned lfu nfu lfd nfd ans rfc rfb)) rfl rfl (by decide) (by decide) (by decide) (by decide) (fun _ => rfl) (rest := []) (q0 := 0) rfl rfl rfl hl.1 rfl (Nat.le_of_ble_eq_true rfl) (Nat.zero_le _) (Nat.zero_le _) dX4_weight_6 (fun r_1 u H locs hw hP hD hS => ?_)
  exact hret _ () _ _ _ _ hw hP hD hS dX4_weight_9
theorem fX4_upTo_20 : Cond.fieldLink RX4 20 "PrivateCounts" "weights" "LPrivateCounts$Table;" ∈ wsX4_upTo := by decide +kernel
theorem uX4_upTo_X4 : ∀ w ∈ u_ws RX4 TX4 10, w ∈ wsX4_upTo := by decide +kernel
set_option maxHeartbeats 4000000 in
set_option maxRecDepth 100000 in
theorem M_X4_upTo (l : Launch) (G : va_G) (cI cJ : ClassId) (Ax Bx Aw As Asm Bsm Ast Bst Ag Agu Bgu Agd Bgd Ae Aeu Beu Aed Bed Af Afu Bfu Afd Bfd : Nat) (row : Nat → Int32) (rc : Int32) (wa : Int32) (wb : Int32) (wlo : Int32) (whi : Int32) (wtot : Int64) (lsm : Nat → Int32) (nsm : Int32) (lst : Nat → Int32) (nst : Int32) (lgu : Nat → Int32) (ngu : Int32) (lgd : Nat → Int32) (ngd : Int32) (leu : Nat → Int32) (neu : Int32) (led : Nat → Int32) (ned : Int32) (lfu : Nat → Int32) (nfu : Int32) (lfd : Nat → Int32) (nfd : Int32) (ans : Int32) (rfc : Int32) (rfb : Int32) (p0 : Int32) (p1 : Int32) (Q : Int64 → Prop) (hw : w_X4_upTo wa wb wlo whi wtot p0 p1 Q) : Kl l yX4_upTo wsX4_upTo rm_X4_upTo G cI cJ [.ref Ax, .int p0, .int p1] (wX4 cI cJ Ax Bx Aw As Asm Bsm Ast Bst Ag Agu Bgu Agd Bgd Ae Aeu Beu Aed Bed Af Afu Bfu Afd Bfd row rc wa wb wlo whi wtot lsm nsm lst nst lgu ngu lgd ngd leu neu led ned lfu nfu lfd nfd ans rfc rfb) (fun (r : Int64) (u : Unit) => Q r) (fun u => (wX4 cI cJ Ax Bx Aw As Asm Bsm Ast Bst Ag Agu Bgu Agd Bgd Ae Aeu Beu Aed Bed Af Afu Bfu Afd Bfd row rc wa wb wlo whi wtot lsm nsm lst nst lgu ngu lgd ngd leu neu led ned lfu nfu lfd nfd ans rfc rfb)) := by
  refine kl_intro (cc := cX4_upTo) (maxL := 3) rfl rfl (by decide) rfl (Nat.le_of_ble_eq_true rfl) ?_
  intro p e s m args below meth c A Z ls hx hb hml hts hown hP hK hD hS hA hl hret
  have hl : lv_has ls 3 [(0, .ref Ax), (1, .int p0), (2, .int p1)] := hl
  unfold w_X4_upTo at hw
  refine lv_aload_n hx hb dX4_upTo_0 rfl (lv_at hl 0 rfl) ?_
  refine k_get hx hb hts uX4_upTo_X4 hown hK hP 0 4 rfl rfl 2 (by decide) fX4_upTo_20 (.ref Aw) rfl dX4_upTo_1 ?_
  refine lv_iload_n hx hb dX4_upTo_4 rfl (lv_at hl 1 rfl) ?_
  refine lv_iload_n hx hb dX4_upTo_5 rfl (lv_at hl 2 rfl) ?_
  refine k_Vl (M_X3_sumTo l G cI cJ Aw wa wb wlo whi wtot p0 p1 _ hw) ⟨hx, hb, hml, hown, hts⟩ (cwV 2 hts gX4_upTo_X3_sumTo rfl rfl rfl (by decide +kernel) ⟨Nat.le_of_ble_eq_true rfl, Nat.le_of_ble_eq_true rfl⟩) hK hP hD hS hA [2] [0, 1, 3, 4, 5, 6, 7, 8, 9, 10, 11, 12, 13, 14, 15, 16, 17, 18, 19, 20, 21, 22] [0, 1, 22, 2, 3, 4, 5, 6, 7, 8, 9, 10, 11, 12, 13, 14, 15, 16, 17, 18, 19, 20, 21] (wr := [(Ax, .inr (4, [.ref Bx, .int rc, .ref Aw, .ref As, .ref Ag, .ref Ae, .ref Af, .int ans, .int rfc, .int rfb])), (Bx, .inl (cI, 60, .inl row)), (As, .inr (2, [.ref Asm, .ref Ast])), (Asm, .inr (1, [.ref Bsm, .int nsm])), (Bsm, .inl (cI, 64, .inl lsm)), (Ast, .inr (1, [.ref Bst, .int nst])), (Bst, .inl (cI, 64, .inl lst)), (Ag, .inr (0, [.ref Agu, .ref Agd])), (Agu, .inr (1, [.ref Bgu, .int ngu])), (Bgu, .inl (cI, 64, .inl lgu)), (Agd, .inr (1, [.ref Bgd, .int ngd])), (Bgd, .inl (cI, 64, .inl lgd)), (Ae, .inr (0, [.ref Aeu, .ref Aed])), (Aeu, .inr (1, [.ref Beu, .int neu])), (Beu, .inl (cI, 64, .inl leu)), (Aed, .inr (1, [.ref Bed, .int ned])), (Bed, .inl (cI, 64, .inl led)), (Af, .inr (0, [.ref Afu, .ref Afd])), (Afu, .inr (1, [.ref Bfu, .int nfu])), (Bfu, .inl (cI, 64, .inl lfu)), (Afd, .inr (1, [.ref Bfd, .int nfd])), (Bfd, .inl (cI, 64, .inl lfd))]) (wn := fun u : Unit => (wX4 cI cJ Ax Bx Aw As Asm Bsm Ast Bst Ag Agu Bgu Agd Bgd Ae Aeu Beu Aed Bed Af Afu Bfu Afd Bfd row rc wa wb wlo whi wtot lsm nsm lst nst lgu ngu lgd ngd leu neu led ned lfu nfu lfd nfd ans rfc rfb)) rfl rfl (by decide) (by decide) (by decide) (by decide) (fun _ => rfl) (rest := []) (q0 := 0) rfl rfl rfl hl.1 rfl (Nat.le_of_ble_eq_true rfl) (Nat.zero_le _) (Nat.zero_le _) dX4_upTo_6 (fun r_1 u H locs hw hP hD hS => ?_)
  exact hret _ () _ _ _ _ hw hP hD hS dX4_upTo_9
set_option maxHeartbeats 4000000 in
set_option maxRecDepth 100000 in
theorem M_X4_isDenominator (l : Launch) (G : va_G) (cI cJ : ClassId) (p0 : Int32) (Q : Int32 → Prop) (hw : w_X4_isDenominator p0 Q) : Ki l yX4_isDenominator wsX4_isDenominator rm_X4_isDenominator G cI cJ [.int p0] (w0 cI cJ) (fun (r : Int32) (u : Unit) => wB r ∧ Q r) (fun u => (w0 cI cJ)) := by
  refine kz_intro (cc := cX4_isDenominator) (maxL := 1) rfl rfl (by decide) rfl (Nat.le_of_ble_eq_true rfl) ?_
  intro p e s m args below meth c A Z ls hx hb hml hts hown hP hK hD hS hA hl hret
  have hl : lv_has ls 1 [(0, .int p0)] := hl
  unfold w_X4_isDenominator at hw
  refine lv_iload_n hx hb dX4_isDenominator_0 rfl (lv_at hl 0 rfl) ?_
  refine lv_iconst (v := 1) hx hb dX4_isDenominator_1 (by decide) ?_
  refine lv_icmp_lt (tgt := 16) hx hb dX4_isDenominator_2 (by decide) (fun c_2 => ?_) (fun c_2 => ?_)
  · have hw := hw.1 c_2
    refine lv_iconst (v := 0) hx hb dX4_isDenominator_16 (by decide) ?_
    exact hret _ () _ _ _ _ (Or.inl rfl) hw hP hD hS dX4_isDenominator_17
  · have hw := hw.2 c_2
    refine lv_iload_n hx hb dX4_isDenominator_5 rfl (lv_at hl 0 rfl) ?_
    refine lv_sipush (v := 1000) hx hb dX4_isDenominator_6 (by decide) ?_
    refine lv_icmp_gt (tgt := 16) hx hb dX4_isDenominator_9 (by decide) (fun c_1 => ?_) (fun c_1 => ?_)
    · have hw := hw.1 c_1
      refine lv_iconst (v := 0) hx hb dX4_isDenominator_16 (by decide) ?_
      exact hret _ () _ _ _ _ (Or.inl rfl) hw hP hD hS dX4_isDenominator_17
    · have hw := hw.2 c_1
      refine lv_iconst (v := 1) hx hb dX4_isDenominator_12 (by decide) ?_
      refine lv_goto (tgt := 17) hx hb dX4_isDenominator_13 (by decide) ?_
      exact hret _ () _ _ _ _ (Or.inr rfl) hw hP hD hS dX4_isDenominator_17
set_option maxHeartbeats 4000000 in
set_option maxRecDepth 100000 in
theorem M_X4_isGrant (l : Launch) (G : va_G) (cI cJ : ClassId) (p0 : Int32) (p1 : Int32) (Q : Int32 → Prop) (hw : w_X4_isGrant p0 p1 Q) : Ki l yX4_isGrant wsX4_isGrant rm_X4_isGrant G cI cJ [.int p0, .int p1] (w0 cI cJ) (fun (r : Int32) (u : Unit) => wB r ∧ Q r) (fun u => (w0 cI cJ)) := by
  refine kz_intro (cc := cX4_isGrant) (maxL := 2) rfl rfl (by decide) rfl (Nat.le_of_ble_eq_true rfl) ?_
  intro p e s m args below meth c A Z ls hx hb hml hts hown hP hK hD hS hA hl hret
  have hl : lv_has ls 2 [(0, .int p0), (1, .int p1)] := hl
  unfold w_X4_isGrant at hw
  refine lv_iload_n hx hb dX4_isGrant_0 rfl (lv_at hl 0 rfl) ?_
  refine lv_if_lt (tgt := 15) hx hb dX4_isGrant_1 (by decide) (fun c_3 => ?_) (fun c_3 => ?_)
  · have hw := hw.1 c_3
    refine lv_iconst (v := 0) hx hb dX4_isGrant_15 (by decide) ?_
    exact hret _ () _ _ _ _ (Or.inl rfl) hw hP hD hS dX4_isGrant_16
  · have hw := hw.2 c_3
    refine lv_iload_n hx hb dX4_isGrant_4 rfl (lv_at hl 1 rfl) ?_
    refine k_Si (M_X4_isDenominator l G cI cJ p1 _ hw) ⟨hx, hb, hml, hown, hts⟩ (va_cwS 1 hts gX4_isGrant_X4_isDenominator rfl rfl rfl (by decide +kernel) ⟨Nat.le_of_ble_eq_true rfl, Nat.le_of_ble_eq_true rfl⟩) hK hP hD hS hA [] [] [] (wr := []) (wn := fun u : Unit => (w0 cI cJ)) rfl rfl (by decide) (by decide) (by decide) (by decide) (fun _ => rfl) (rest := []) rfl hl.1 rfl (Nat.le_of_ble_eq_true rfl) (Nat.zero_le _) (Nat.zero_le _) dX4_isGrant_5 (fun r_1 u H locs hw hP hD hS => ?_)
    obtain ⟨hzr_1, hw⟩ := hw
    refine lv_if_eq (tgt := 15) hx hb dX4_isGrant_8 (by decide) (fun c_2 => ?_) (fun c_2 => ?_)
    · have hw := hw.1 c_2
      refine lv_iconst (v := 0) hx hb dX4_isGrant_15 (by decide) ?_
      exact hret _ () _ _ _ _ (Or.inl rfl) hw hP hD hS dX4_isGrant_16
    · have hw := hw.2 c_2
      refine lv_iconst (v := 1) hx hb dX4_isGrant_11 (by decide) ?_
      refine lv_goto (tgt := 16) hx hb dX4_isGrant_12 (by decide) ?_
      exact hret _ () _ _ _ _ (Or.inr rfl) hw hP hD hS dX4_isGrant_16
set_option maxHeartbeats 4000000 in
set_option maxRecDepth 100000 in
theorem M_X4_isCost (l : Launch) (G : va_G) (cI cJ : ClassId) (p0 : Int32) (p1 : Int32) (Q : Int32 → Prop) (hw : w_X4_isCost p0 p1 Q) : Ki l yX4_isCost wsX4_isCost rm_X4_isCost G cI cJ [.int p0, .int p1] (w0 cI cJ) (fun (r : Int32) (u : Unit) => wB r ∧ Q r) (fun u => (w0 cI cJ)) := by
  refine kz_intro (cc := cX4_isCost) (maxL := 2) rfl rfl (by decide) rfl (Nat.le_of_ble_eq_true rfl) ?_
  intro p e s m args below meth c A Z ls hx hb hml hts hown hP hK hD hS hA hl hret
  have hl : lv_has ls 2 [(0, .int p0), (1, .int p1)] := hl
  unfold w_X4_isCost at hw
  refine lv_iload_n hx hb dX4_isCost_0 rfl (lv_at hl 0 rfl) ?_
  refine lv_if_lt (tgt := 22) hx hb dX4_isCost_1 (by decide) (fun c_4 => ?_) (fun c_4 => ?_)
  · have hw := hw.1 c_4
    refine lv_iconst (v := 0) hx hb dX4_isCost_22 (by decide) ?_
    exact hret _ () _ _ _ _ (Or.inl rfl) hw hP hD hS dX4_isCost_23
  · have hw := hw.2 c_4
    refine lv_iload_n hx hb dX4_isCost_4 rfl (lv_at hl 0 rfl) ?_
    refine lv_sipush (v := 3000) hx hb dX4_isCost_5 (by decide) ?_
    refine lv_icmp_gt (tgt := 22) hx hb dX4_isCost_8 (by decide) (fun c_3 => ?_) (fun c_3 => ?_)
    · have hw := hw.1 c_3
      refine lv_iconst (v := 0) hx hb dX4_isCost_22 (by decide) ?_
      exact hret _ () _ _ _ _ (Or.inl rfl) hw hP hD hS dX4_isCost_23
    · have hw := hw.2 c_3
      refine lv_iload_n hx hb dX4_isCost_11 rfl (lv_at hl 1 rfl) ?_
      refine k_Si (M_X4_isDenominator l G cI cJ p1 _ hw) ⟨hx, hb, hml, hown, hts⟩ (va_cwS 1 hts gX4_isCost_X4_isDenominator rfl rfl rfl (by decide +kernel) ⟨Nat.le_of_ble_eq_true rfl, Nat.le_of_ble_eq_true rfl⟩) hK hP hD hS hA [] [] [] (wr := []) (wn := fun u : Unit => (w0 cI cJ)) rfl rfl (by decide) (by decide) (by decide) (by decide) (fun _ => rfl) (rest := []) rfl hl.1 rfl (Nat.le_of_ble_eq_true rfl) (Nat.zero_le _) (Nat.zero_le _) dX4_isCost_12 (fun r_1 u H locs hw hP hD hS => ?_)
      obtain ⟨hzr_1, hw⟩ := hw
      refine lv_if_eq (tgt := 22) hx hb dX4_isCost_15 (by decide) (fun c_2 => ?_) (fun c_2 => ?_)
      · have hw := hw.1 c_2
        refine lv_iconst (v := 0) hx hb dX4_isCost_22 (by decide) ?_
        exact hret _ () _ _ _ _ (Or.inl rfl) hw hP hD hS dX4_isCost_23
      · have hw := hw.2 c_2
        refine lv_iconst (v := 1) hx hb dX4_isCost_18 (by decide) ?_
        refine lv_goto (tgt := 23) hx hb dX4_isCost_19 (by decide) ?_
        exact hret _ () _ _ _ _ (Or.inr rfl) hw hP hD hS dX4_isCost_23
