/-! Table: predicates and walks (laid by wip/whole/gen.py) -/
def wX3 (cI cJ : ClassId) (Aw : Nat) (wa : Int32) (wb : Int32) (wlo : Int32) (whi : Int32) (wtot : Int64) : va_W := [(Aw, .inr (3, [.int wa, .int wb, .int wlo, .int whi, .long wtot]))]
abbrev rm_X3_isAllowed : Room := { frames := 0, cells := 0, slots := 0, locals := 0 }
abbrev rm_X3_power : Room := { frames := 0, cells := 0, slots := 0, locals := 0 }
abbrev rm_X3_become : Room := { frames := 1, cells := 0, slots := 0, locals := 24 }
abbrev rm_X3_holds : Room := { frames := 0, cells := 0, slots := 0, locals := 0 }
abbrev rm_X3_hasCoin : Room := { frames := 0, cells := 0, slots := 0, locals := 0 }
abbrev rm_X3_nearestTo : Room := { frames := 0, cells := 0, slots := 0, locals := 0 }
abbrev rm_X3_weightOf : Room := { frames := 1, cells := 0, slots := 0, locals := 24 }
abbrev rm_X3_sumTo : Room := { frames := 2, cells := 0, slots := 0, locals := 48 }
abbrev rm_X3_outcomeOf : Room := { frames := 2, cells := 0, slots := 0, locals := 48 }
abbrev rm_X3_isWithinRatio : Room := { frames := 2, cells := 0, slots := 0, locals := 48 }
def w_X3_isAllowed (p0 : Int32) (p1 : Int32) (p2 : Int32) (p3 : Int32) (Q : Int32 → Prop) : Prop :=
  ((p0 < 1 →
    Q (0 : Int32)
   ) ∧ (¬ p0 < 1 →
    ((p1 ≤ p0 →
      Q (0 : Int32)
     ) ∧ (¬ p1 ≤ p0 →
      ((10 < p1 →
        Q (0 : Int32)
       ) ∧ (¬ 10 < p1 →
        ((p2 < (-1000) →
          Q (0 : Int32)
         ) ∧ (¬ p2 < (-1000) →
          ((1000 < p3 →
            Q (0 : Int32)
           ) ∧ (¬ 1000 < p3 →
            ((p3 < p2 →
              Q (0 : Int32)
             ) ∧ (¬ p3 < p2 →
              ((14 < (p3 - p2) →
                Q (0 : Int32)
               ) ∧ (¬ 14 < (p3 - p2) →
                Q (1 : Int32)
               ))
             ))
           ))
         ))
       ))
     ))
   ))

def w_X3_power (p0 : Int32) (p1 : Int32) (Q : Int64 → Prop) : Prop :=
  ∃ (I5_3 : Int32 → Int64 → Prop) (μ5_3 : Int32 → Int64 → Nat), I5_3 (0 : Int32) (1 : Int64) ∧ ∀ (i4_1 : Int32) (i2_2 : Int64), I5_3 i4_1 i2_2 →
    ((p1 ≤ i4_1 →
      Q i2_2
     ) ∧ (¬ p1 ≤ i4_1 →
      ∀ (i2_4 : Int64), i2_4 = i2_2 * p0.toInt64 →
      ∀ (i4_5 : Int32), i4_5 = i4_1 + 1 →
      I5_3 i4_5 i2_4 ∧ μ5_3 i4_5 i2_4 < μ5_3 i4_1 i2_2
     ))

def w_X3_become (wa : Int32) (wb : Int32) (wlo : Int32) (whi : Int32) (wtot : Int64) (p0 : Int32) (p1 : Int32) (p2 : Int32) (p3 : Int32) (Q : Int32 → Int32 → Int32 → Int32 → Int64 → Prop) : Prop :=
  w_X3_power p1 (p3 - p2) (fun (r_1 : Int64) =>
  ∀ (v_2 : Int64), v_2 = ((p0 + p1).toInt64) * r_1 →
  Q p0 p1 p2 p3 v_2)

def w_X3_holds (wlo : Int32) (whi : Int32) (p0 : Int32) (Q : Int32 → Prop) : Prop :=
  ((p0 < wlo →
    Q (0 : Int32)
   ) ∧ (¬ p0 < wlo →
    ((whi < p0 →
      Q (0 : Int32)
     ) ∧ (¬ whi < p0 →
      Q (1 : Int32)
     ))
   ))

def w_X3_hasCoin (wtot : Int64) (p0 : Int64) (Q : Int32 → Prop) : Prop :=
  ((p0 < 0 →
    Q (0 : Int32)
   ) ∧ (¬ p0 < 0 →
    ((wtot ≤ p0 →
      Q (0 : Int32)
     ) ∧ (¬ wtot ≤ p0 →
      Q (1 : Int32)
     ))
   ))

def w_X3_nearestTo (wlo : Int32) (whi : Int32) (p0 : Int32) (Q : Int32 → Prop) : Prop :=
  ((wlo ≤ p0 →
    ((p0 ≤ whi →
      Q p0
     ) ∧ (¬ p0 ≤ whi →
      Q whi
     ))
   ) ∧ (¬ wlo ≤ p0 →
    Q wlo
   ))

def w_X3_weightOf (wa : Int32) (wb : Int32) (wlo : Int32) (whi : Int32) (wtot : Int64) (p0 : Int32) (p1 : Int32) (Q : Int64 → Prop) : Prop :=
  w_X3_holds wlo whi p0 (fun (r_1 : Int32) =>
  ((r_1 = 0 →
    Q (0 : Int64)
   ) ∧ (¬ r_1 = 0 →
    w_X3_holds wlo whi p1 (fun (r_2 : Int32) =>
    ((¬ r_2 = 0 →
      ((¬ wlo = whi →
        ∀ (i3_3 : Int32), i3_3 = whi - wlo →
        ∃ (J58_5 : Int32 → Prop), (
          ((p1 ≤ p0 →
            J58_5 (p0 - p1)
           ) ∧ (¬ p1 ≤ p0 →
            J58_5 (p1 - p0)
           ))
         ) ∧ (∀ (t_4 : Int32), J58_5 t_4 →
          ((p1 = wlo →
            ∀ (v_7 : Int32), v_7 = (i3_3 + 1) - t_4 →
            w_X3_power wb v_7 (fun (r_8 : Int64) =>
            w_X3_power wa t_4 (fun (r_9 : Int64) =>
            Q (r_8 * r_9)))
           ) ∧ (¬ p1 = wlo →
            ((¬ p1 = whi →
              w_X3_power wb (i3_3 - t_4) (fun (r_10 : Int64) =>
              ∀ (v_11 : Int64), v_11 = ((wb - wa).toInt64) * r_10 →
              w_X3_power wa t_4 (fun (r_12 : Int64) =>
              Q (v_11 * r_12)))
             ) ∧ (p1 = whi →
              ∀ (v_13 : Int32), v_13 = (i3_3 + 1) - t_4 →
              w_X3_power wb v_13 (fun (r_14 : Int64) =>
              w_X3_power wa t_4 (fun (r_15 : Int64) =>
              Q (r_14 * r_15)))
             ))
           ))
         )
       ) ∧ (wlo = whi →
        Q wtot
       ))
     ) ∧ (r_2 = 0 →
      Q (0 : Int64)
     )))
   )))

def w_X3_sumTo (wa : Int32) (wb : Int32) (wlo : Int32) (whi : Int32) (wtot : Int64) (p0 : Int32) (p1 : Int32) (Q : Int64 → Prop) : Prop :=
  ∃ (I8_3 : Int32 → Int64 → Prop) (μ8_3 : Int32 → Int64 → Nat), I8_3 wlo (0 : Int64) ∧ ∀ (i5_1 : Int32) (i3_2 : Int64), I8_3 i5_1 i3_2 →
    ((whi < i5_1 →
      Q i3_2
     ) ∧ (¬ whi < i5_1 →
      ((p1 < i5_1 →
        Q i3_2
       ) ∧ (¬ p1 < i5_1 →
        w_X3_weightOf wa wb wlo whi wtot p0 i5_1 (fun (r_4 : Int64) =>
        ∀ (i3_5 : Int64), i3_5 = i3_2 + r_4 →
        ∀ (i5_6 : Int32), i5_6 = i5_1 + 1 →
        I8_3 i5_6 i3_5 ∧ μ8_3 i5_6 i3_5 < μ8_3 i5_1 i3_2)
       ))
     ))

def w_X3_outcomeOf (wa : Int32) (wb : Int32) (wlo : Int32) (whi : Int32) (wtot : Int64) (p0 : Int32) (p1 : Int64) (Q : Int32 → Prop) : Prop :=
  ∃ (I9_3 : Int32 → Int64 → Prop) (μ9_3 : Int32 → Int64 → Nat), I9_3 wlo (0 : Int64) ∧ ∀ (i6_1 : Int32) (i4_2 : Int64), I9_3 i6_1 i4_2 →
    ((whi ≤ i6_1 →
      Q whi
     ) ∧ (¬ whi ≤ i6_1 →
      w_X3_weightOf wa wb wlo whi wtot p0 i6_1 (fun (r_4 : Int64) =>
      ∀ (i4_5 : Int64), i4_5 = i4_2 + r_4 →
      ((i4_5 ≤ p1 →
        ∀ (i6_6 : Int32), i6_6 = i6_1 + 1 →
        I9_3 i6_6 i4_5 ∧ μ9_3 i6_6 i4_5 < μ9_3 i6_1 i4_2
       ) ∧ (¬ i4_5 ≤ p1 →
        Q i6_1
       )))
     ))

def w_X3_isWithinRatio (wa : Int32) (wb : Int32) (wlo : Int32) (whi : Int32) (wtot : Int64) (p0 : Int32) (p1 : Int32) (Q : Int32 → Prop) : Prop :=
  ∃ (I5_2 : Int32 → Prop) (μ5_2 : Int32 → Nat), I5_2 wlo ∧ ∀ (i3_1 : Int32), I5_2 i3_1 →
    ((whi < i3_1 →
      Q (1 : Int32)
     ) ∧ (¬ whi < i3_1 →
      w_X3_weightOf wa wb wlo whi wtot p0 i3_1 (fun (r_3 : Int64) =>
      w_X3_weightOf wa wb wlo whi wtot p1 i3_1 (fun (r_4 : Int64) =>
      (((wa.toInt64 * r_3) ≤ (wb.toInt64 * r_4) →
        ∀ (i3_5 : Int32), i3_5 = i3_1 + 1 →
        I5_2 i3_5 ∧ μ5_2 i3_5 < μ5_2 i3_1
       ) ∧ (¬ (wa.toInt64 * r_3) ≤ (wb.toInt64 * r_4) →
        Q (0 : Int32)
       ))))
     ))

set_option maxHeartbeats 4000000 in
set_option maxRecDepth 100000 in
theorem M_X3_isAllowed (l : Launch) (G : va_G) (cI cJ : ClassId) (p0 : Int32) (p1 : Int32) (p2 : Int32) (p3 : Int32) (Q : Int32 → Prop) (hw : w_X3_isAllowed p0 p1 p2 p3 Q) : Ki l yX3_isAllowed wsX3_isAllowed rm_X3_isAllowed G cI cJ [.int p0, .int p1, .int p2, .int p3] (w0 cI cJ) (fun (r : Int32) (u : Unit) => wB r ∧ Q r) (fun u => (w0 cI cJ)) := by
  refine kz_intro (cc := cX3_isAllowed) (maxL := 4) rfl rfl (by decide) rfl (Nat.le_of_ble_eq_true rfl) ?_
  intro p e s m args below meth c A Z ls hx hb hml hts hown hP hK hD hS hA hl hret
  have hl : lv_has ls 4 [(0, .int p0), (1, .int p1), (2, .int p2), (3, .int p3)] := hl
  unfold w_X3_isAllowed at hw
  refine lv_iload_n hx hb dX3_isAllowed_0 rfl (lv_at hl 0 rfl) ?_
  refine lv_iconst (v := 1) hx hb dX3_isAllowed_1 (by decide) ?_
  refine lv_icmp_lt (tgt := 47) hx hb dX3_isAllowed_2 (by decide) (fun c_7 => ?_) (fun c_7 => ?_)
  · have hw := hw.1 c_7
    refine lv_iconst (v := 0) hx hb dX3_isAllowed_47 (by decide) ?_
    exact hret _ () _ _ _ _ (Or.inl rfl) hw hP hD hS dX3_isAllowed_48
  · have hw := hw.2 c_7
    refine lv_iload_n hx hb dX3_isAllowed_5 rfl (lv_at hl 0 rfl) ?_
    refine lv_iload_n hx hb dX3_isAllowed_6 rfl (lv_at hl 1 rfl) ?_
    refine lv_icmp_ge (tgt := 47) hx hb dX3_isAllowed_7 (by decide) (fun c_6 => ?_) (fun c_6 => ?_)
    · have hw := hw.1 c_6
      refine lv_iconst (v := 0) hx hb dX3_isAllowed_47 (by decide) ?_
      exact hret _ () _ _ _ _ (Or.inl rfl) hw hP hD hS dX3_isAllowed_48
    · have hw := hw.2 c_6
      refine lv_iload_n hx hb dX3_isAllowed_10 rfl (lv_at hl 1 rfl) ?_
      refine lv_bipush (v := 10) hx hb dX3_isAllowed_11 (by decide) ?_
      refine lv_icmp_gt (tgt := 47) hx hb dX3_isAllowed_13 (by decide) (fun c_5 => ?_) (fun c_5 => ?_)
      · have hw := hw.1 c_5
        refine lv_iconst (v := 0) hx hb dX3_isAllowed_47 (by decide) ?_
        exact hret _ () _ _ _ _ (Or.inl rfl) hw hP hD hS dX3_isAllowed_48
      · have hw := hw.2 c_5
        refine lv_iload_n hx hb dX3_isAllowed_16 rfl (lv_at hl 2 rfl) ?_
        refine lv_sipush (v := (-1000)) hx hb dX3_isAllowed_17 (by decide) ?_
        refine lv_icmp_lt (tgt := 47) hx hb dX3_isAllowed_20 (by decide) (fun c_4 => ?_) (fun c_4 => ?_)
        · have hw := hw.1 c_4
          refine lv_iconst (v := 0) hx hb dX3_isAllowed_47 (by decide) ?_
          exact hret _ () _ _ _ _ (Or.inl rfl) hw hP hD hS dX3_isAllowed_48
        · have hw := hw.2 c_4
          refine lv_iload_n hx hb dX3_isAllowed_23 rfl (lv_at hl 3 rfl) ?_
          refine lv_sipush (v := 1000) hx hb dX3_isAllowed_24 (by decide) ?_
          refine lv_icmp_gt (tgt := 47) hx hb dX3_isAllowed_27 (by decide) (fun c_3 => ?_) (fun c_3 => ?_)
          · have hw := hw.1 c_3
            refine lv_iconst (v := 0) hx hb dX3_isAllowed_47 (by decide) ?_
            exact hret _ () _ _ _ _ (Or.inl rfl) hw hP hD hS dX3_isAllowed_48
          · have hw := hw.2 c_3
            refine lv_iload_n hx hb dX3_isAllowed_30 rfl (lv_at hl 2 rfl) ?_
            refine lv_iload_n hx hb dX3_isAllowed_31 rfl (lv_at hl 3 rfl) ?_
            refine lv_icmp_gt (tgt := 47) hx hb dX3_isAllowed_32 (by decide) (fun c_2 => ?_) (fun c_2 => ?_)
            · have hw := hw.1 c_2
              refine lv_iconst (v := 0) hx hb dX3_isAllowed_47 (by decide) ?_
              exact hret _ () _ _ _ _ (Or.inl rfl) hw hP hD hS dX3_isAllowed_48
            · have hw := hw.2 c_2
              refine lv_iload_n hx hb dX3_isAllowed_35 rfl (lv_at hl 3 rfl) ?_
              refine lv_iload_n hx hb dX3_isAllowed_36 rfl (lv_at hl 2 rfl) ?_
              refine lv_isub hx hb dX3_isAllowed_37 ?_
              refine lv_bipush (v := 14) hx hb dX3_isAllowed_38 (by decide) ?_
              refine lv_icmp_gt (tgt := 47) hx hb dX3_isAllowed_40 (by decide) (fun c_1 => ?_) (fun c_1 => ?_)
              · have hw := hw.1 c_1
                refine lv_iconst (v := 0) hx hb dX3_isAllowed_47 (by decide) ?_
                exact hret _ () _ _ _ _ (Or.inl rfl) hw hP hD hS dX3_isAllowed_48
              · have hw := hw.2 c_1
                refine lv_iconst (v := 1) hx hb dX3_isAllowed_43 (by decide) ?_
                refine lv_goto (tgt := 48) hx hb dX3_isAllowed_44 (by decide) ?_
                exact hret _ () _ _ _ _ (Or.inr rfl) hw hP hD hS dX3_isAllowed_48
set_option maxHeartbeats 4000000 in
set_option maxRecDepth 100000 in
theorem M_X3_power (l : Launch) (G : va_G) (cI cJ : ClassId) (p0 : Int32) (p1 : Int32) (Q : Int64 → Prop) (hw : w_X3_power p0 p1 Q) : Kl l yX3_power wsX3_power rm_X3_power G cI cJ [.int p0, .int p1] (w0 cI cJ) (fun (r : Int64) (u : Unit) => Q r) (fun u => (w0 cI cJ)) := by
  refine kl_intro (cc := cX3_power) (maxL := 5) rfl rfl (by decide) rfl (Nat.le_of_ble_eq_true rfl) ?_
  intro p e s m args below meth c A Z ls hx hb hml hts hown hP hK hD hS hA hl hret
  have hl : lv_has ls 5 [(0, .int p0), (1, .int p1)] := hl
  unfold w_X3_power at hw
  refine lv_lconst (v := 1) hx hb dX3_power_0 (by decide) ?_
  refine lv_lstore_n (lv' := [(2, .long 1), (0, .int p0), (1, .int p1)]) hx hb dX3_power_1 rfl hl (by decide) rfl (fun ls hl => ?_)
  refine lv_iconst (v := 0) hx hb dX3_power_2 (by decide) ?_
  refine lv_istore (lv' := [(4, .int 0), (2, .long 1), (0, .int p0), (1, .int p1)]) hx hb dX3_power_3 hl (by decide) rfl (fun ls hl => ?_)
  obtain ⟨I5_3, μ5_3, hi, hw⟩ := hw
  suffices hLI5_3 : ∀ (N : Nat) (i4_1 : Int32) (i2_2 : Int64) (_ : μ5_3 i4_1 i2_2 = N) (_ : I5_3 i4_1 i2_2) (H : Heap) (locs : List Loc) (ls : Array Slot), va_P G vwCl (w0 cI cJ) H → va_D A (w0 cI cJ) → va_S A s.heap H locs → lv_has ls 5 [(4, .int i4_1), (2, .long i2_2), (0, .int p0), (1, .int p1)] → W p l e rm_X3_power s m args below meth c H locs 0 0 Z (F0 m 5 ls []) from
    hLI5_3 _ (0 : Int32) (1 : Int64) rfl hi _ _ _ hP hD hS (lv_sub hl [0, 1, 2, 3] rfl)
  clear hi hP hD hS hl
  intro N
  induction N using Nat.strongRecOn with
  | ind N ihI5_3 =>
    intro i4_1 i2_2 hNI5_3 hi H locs ls hP hD hS hl
    have hw := hw i4_1 i2_2 hi
    refine lv_iload hx hb dX3_power_5 (lv_at hl 0 rfl) ?_
    refine lv_iload_n hx hb dX3_power_7 rfl (lv_at hl 3 rfl) ?_
    refine lv_icmp_ge (tgt := 22) hx hb dX3_power_8 (by decide) (fun c_6 => ?_) (fun c_6 => ?_)
    · have hw := hw.1 c_6
      refine lv_lload_n hx hb dX3_power_22 rfl (lv_at hl 1 rfl) ?_
      exact hret _ () _ _ _ _ hw hP hD hS dX3_power_23
    · have hw := hw.2 c_6
      refine lv_lload_n hx hb dX3_power_11 rfl (lv_at hl 1 rfl) ?_
      refine lv_iload_n hx hb dX3_power_12 rfl (lv_at hl 2 rfl) ?_
      refine lv_i2l (v := p0.toInt64) hx hb dX3_power_13 rfl ?_
      refine lv_lmul hx hb dX3_power_14 ?_
      refine lv_topl (fun i2_4 ei2_4 => ?_)
      have hw := hw i2_4 ei2_4
      refine lv_lstore_n (lv' := [(2, .long i2_4), (4, .int i4_1), (0, .int p0), (1, .int p1)]) hx hb dX3_power_15 rfl hl (by decide) rfl (fun ls hl => ?_)
      obtain ⟨i4_5, ei4_5⟩ : ∃ y : Int32, y = i4_1 + 1 := ⟨_, rfl⟩
      have hw := hw i4_5 ei4_5
      refine lv_iinc (v := i4_5) (lv' := [(4, .int i4_5), (2, .long i2_4), (0, .int p0), (1, .int p1)]) hx hb dX3_power_16 hl (k := 1) rfl (by rw [ei4_5]; rfl) (by decide) rfl (fun ls hl => ?_)
      refine lv_goto (tgt := 5) hx hb dX3_power_19 (by decide) ?_
      exact ihI5_3 _ (by rw [← hNI5_3]; exact hw.2) i4_5 i2_4 rfl hw.1 _ _ _ hP hD hS (lv_sub hl [0, 1, 2, 3] rfl)
theorem fX3_become_13 : Cond.fieldLink RX3 13 "PrivateCounts$Table" "a" "I" ∈ wsX3_become := by decide +kernel
theorem uX3_become_X3 : ∀ w ∈ u_ws RX3 TX3 5, w ∈ wsX3_become := by decide +kernel
theorem fX3_become_17 : Cond.fieldLink RX3 17 "PrivateCounts$Table" "b" "I" ∈ wsX3_become := by decide +kernel
theorem fX3_become_20 : Cond.fieldLink RX3 20 "PrivateCounts$Table" "low" "I" ∈ wsX3_become := by decide +kernel
theorem fX3_become_23 : Cond.fieldLink RX3 23 "PrivateCounts$Table" "high" "I" ∈ wsX3_become := by decide +kernel
theorem fX3_become_30 : Cond.fieldLink RX3 30 "PrivateCounts$Table" "total" "J" ∈ wsX3_become := by decide +kernel
set_option maxHeartbeats 4000000 in
set_option maxRecDepth 100000 in
theorem M_X3_become (l : Launch) (G : va_G) (cI cJ : ClassId) (Aw : Nat) (wa : Int32) (wb : Int32) (wlo : Int32) (whi : Int32) (wtot : Int64) (p0 : Int32) (p1 : Int32) (p2 : Int32) (p3 : Int32) (Q : Int32 → Int32 → Int32 → Int32 → Int64 → Prop) (hw : w_X3_become wa wb wlo whi wtot p0 p1 p2 p3 Q) : Kv l yX3_become wsX3_become rm_X3_become G cI cJ [.ref Aw, .int p0, .int p1, .int p2, .int p3] (wX3 cI cJ Aw wa wb wlo whi wtot) (fun (u : (Int32) × (Int32) × (Int32) × (Int32) × (Int64)) => Q u.1 u.2.1 u.2.2.1 u.2.2.2.1 u.2.2.2.2) (fun u => (wX3 cI cJ Aw u.1 u.2.1 u.2.2.1 u.2.2.2.1 u.2.2.2.2)) := by
  refine kv_intro (cc := cX3_become) (maxL := 5) rfl rfl (by decide) rfl (Nat.le_of_ble_eq_true rfl) ?_
  intro p e s m args below meth c A Z ls hx hb hml hts hown hP hK hD hS hA hl hret
  have hl : lv_has ls 5 [(0, .ref Aw), (1, .int p0), (2, .int p1), (3, .int p2), (4, .int p3)] := hl
  unfold w_X3_become at hw
  refine lv_aload_n hx hb dX3_become_0 rfl (lv_at hl 0 rfl) ?_
  refine lv_iload_n hx hb dX3_become_1 rfl (lv_at hl 1 rfl) ?_
  refine k_put hx hb hts uX3_become_X3 tyX3 tyX3_ok nmX3 hown hK hP hD hS 0 3 rfl rfl 0 (by decide) fX3_become_13 rfl rfl rfl (Nat.le_of_ble_eq_true rfl) (w' := (wX3 cI cJ Aw p0 wb wlo whi wtot)) rfl dX3_become_2 (fun H locs hP hD hS => ?_)
  refine lv_aload_n hx hb dX3_become_5 rfl (lv_at hl 0 rfl) ?_
  refine lv_iload_n hx hb dX3_become_6 rfl (lv_at hl 2 rfl) ?_
  refine k_put hx hb hts uX3_become_X3 tyX3 tyX3_ok nmX3 hown hK hP hD hS 0 3 rfl rfl 1 (by decide) fX3_become_17 rfl rfl rfl (Nat.le_of_ble_eq_true rfl) (w' := (wX3 cI cJ Aw p0 p1 wlo whi wtot)) rfl dX3_become_7 (fun H locs hP hD hS => ?_)
  refine lv_aload_n hx hb dX3_become_10 rfl (lv_at hl 0 rfl) ?_
  refine lv_iload_n hx hb dX3_become_11 rfl (lv_at hl 3 rfl) ?_
  refine k_put hx hb hts uX3_become_X3 tyX3 tyX3_ok nmX3 hown hK hP hD hS 0 3 rfl rfl 2 (by decide) fX3_become_20 rfl rfl rfl (Nat.le_of_ble_eq_true rfl) (w' := (wX3 cI cJ Aw p0 p1 p2 whi wtot)) rfl dX3_become_12 (fun H locs hP hD hS => ?_)
  refine lv_aload_n hx hb dX3_become_15 rfl (lv_at hl 0 rfl) ?_
  refine lv_iload hx hb dX3_become_16 (lv_at hl 4 rfl) ?_
  refine k_put hx hb hts uX3_become_X3 tyX3 tyX3_ok nmX3 hown hK hP hD hS 0 3 rfl rfl 3 (by decide) fX3_become_23 rfl rfl rfl (Nat.le_of_ble_eq_true rfl) (w' := (wX3 cI cJ Aw p0 p1 p2 p3 wtot)) rfl dX3_become_18 (fun H locs hP hD hS => ?_)
  refine lv_aload_n hx hb dX3_become_21 rfl (lv_at hl 0 rfl) ?_
  refine lv_iload_n hx hb dX3_become_22 rfl (lv_at hl 1 rfl) ?_
  refine lv_iload_n hx hb dX3_become_23 rfl (lv_at hl 2 rfl) ?_
  refine lv_iadd hx hb dX3_become_24 ?_
  refine lv_i2l (v := (p0 + p1).toInt64) hx hb dX3_become_25 rfl ?_
  refine lv_iload_n hx hb dX3_become_26 rfl (lv_at hl 2 rfl) ?_
  refine lv_iload hx hb dX3_become_27 (lv_at hl 4 rfl) ?_
  refine lv_iload_n hx hb dX3_become_29 rfl (lv_at hl 3 rfl) ?_
  refine lv_isub hx hb dX3_become_30 ?_
  refine k_Sl (M_X3_power l G cI cJ p1 (p3 - p2) _ hw) ⟨hx, hb, hml, hown, hts⟩ (va_cwS 2 hts gX3_become_X3_power rfl rfl rfl (by decide +kernel) ⟨Nat.le_of_ble_eq_true rfl, Nat.le_of_ble_eq_true rfl⟩) hK hP hD hS hA [] [0] [0] (wr := [(Aw, .inr (3, [.int p0, .int p1, .int p2, .int p3, .long wtot]))]) (wn := fun u : Unit => (wX3 cI cJ Aw p0 p1 p2 p3 wtot)) rfl rfl (by decide) (by decide) (by decide) (by decide) (fun _ => rfl) (rest := [.long ((p0 + p1).toInt64), .ref Aw]) rfl hl.1 rfl (Nat.le_of_ble_eq_true rfl) (Nat.zero_le _) (Nat.zero_le _) dX3_become_31 (fun r_1 u H locs hw hP hD hS => ?_)
  refine lv_lmul hx hb dX3_become_34 ?_
  refine lv_topl (fun v_2 ev_2 => ?_)
  have hw := hw v_2 ev_2
  refine k_put hx hb hts uX3_become_X3 tyX3 tyX3_ok nmX3 hown hK hP hD hS 0 3 rfl rfl 4 (by decide) fX3_become_30 rfl rfl rfl (Nat.le_of_ble_eq_true rfl) (w' := (wX3 cI cJ Aw p0 p1 p2 p3 v_2)) rfl dX3_become_35 (fun H locs hP hD hS => ?_)
  exact hret (p0, p1, p2, p3, v_2) _ _ _ _ hw hP hD hS dX3_become_38
theorem fX3_holds_20 : Cond.fieldLink RX3 20 "PrivateCounts$Table" "low" "I" ∈ wsX3_holds := by decide +kernel
theorem uX3_holds_X3 : ∀ w ∈ u_ws RX3 TX3 5, w ∈ wsX3_holds := by decide +kernel
theorem fX3_holds_23 : Cond.fieldLink RX3 23 "PrivateCounts$Table" "high" "I" ∈ wsX3_holds := by decide +kernel
set_option maxHeartbeats 4000000 in
set_option maxRecDepth 100000 in
theorem M_X3_holds (l : Launch) (G : va_G) (cI cJ : ClassId) (Aw : Nat) (wa : Int32) (wb : Int32) (wlo : Int32) (whi : Int32) (wtot : Int64) (p0 : Int32) (Q : Int32 → Prop) (hw : w_X3_holds wlo whi p0 Q) : Ki l yX3_holds wsX3_holds rm_X3_holds G cI cJ [.ref Aw, .int p0] (wX3 cI cJ Aw wa wb wlo whi wtot) (fun (r : Int32) (u : Unit) => wB r ∧ Q r) (fun u => (wX3 cI cJ Aw wa wb wlo whi wtot)) := by
  refine kz_intro (cc := cX3_holds) (maxL := 2) rfl rfl (by decide) rfl (Nat.le_of_ble_eq_true rfl) ?_
  intro p e s m args below meth c A Z ls hx hb hml hts hown hP hK hD hS hA hl hret
  have hl : lv_has ls 2 [(0, .ref Aw), (1, .int p0)] := hl
  unfold w_X3_holds at hw
  refine lv_iload_n hx hb dX3_holds_0 rfl (lv_at hl 1 rfl) ?_
  refine lv_aload_n hx hb dX3_holds_1 rfl (lv_at hl 0 rfl) ?_
  refine k_get hx hb hts uX3_holds_X3 hown hK hP 0 3 rfl rfl 2 (by decide) fX3_holds_20 (.int wlo) rfl dX3_holds_2 ?_
  refine lv_icmp_lt (tgt := 20) hx hb dX3_holds_5 (by decide) (fun c_2 => ?_) (fun c_2 => ?_)
  · have hw := hw.1 c_2
    refine lv_iconst (v := 0) hx hb dX3_holds_20 (by decide) ?_
    exact hret _ () _ _ _ _ (Or.inl rfl) hw hP hD hS dX3_holds_21
  · have hw := hw.2 c_2
    refine lv_iload_n hx hb dX3_holds_8 rfl (lv_at hl 1 rfl) ?_
    refine lv_aload_n hx hb dX3_holds_9 rfl (lv_at hl 0 rfl) ?_
    refine k_get hx hb hts uX3_holds_X3 hown hK hP 0 3 rfl rfl 3 (by decide) fX3_holds_23 (.int whi) rfl dX3_holds_10 ?_
    refine lv_icmp_gt (tgt := 20) hx hb dX3_holds_13 (by decide) (fun c_1 => ?_) (fun c_1 => ?_)
    · have hw := hw.1 c_1
      refine lv_iconst (v := 0) hx hb dX3_holds_20 (by decide) ?_
      exact hret _ () _ _ _ _ (Or.inl rfl) hw hP hD hS dX3_holds_21
    · have hw := hw.2 c_1
      refine lv_iconst (v := 1) hx hb dX3_holds_16 (by decide) ?_
      refine lv_goto (tgt := 21) hx hb dX3_holds_17 (by decide) ?_
      exact hret _ () _ _ _ _ (Or.inr rfl) hw hP hD hS dX3_holds_21
theorem fX3_hasCoin_30 : Cond.fieldLink RX3 30 "PrivateCounts$Table" "total" "J" ∈ wsX3_hasCoin := by decide +kernel
theorem uX3_hasCoin_X3 : ∀ w ∈ u_ws RX3 TX3 5, w ∈ wsX3_hasCoin := by decide +kernel
set_option maxHeartbeats 4000000 in
set_option maxRecDepth 100000 in
theorem M_X3_hasCoin (l : Launch) (G : va_G) (cI cJ : ClassId) (Aw : Nat) (wa : Int32) (wb : Int32) (wlo : Int32) (whi : Int32) (wtot : Int64) (p0 : Int64) (Q : Int32 → Prop) (hw : w_X3_hasCoin wtot p0 Q) : Ki l yX3_hasCoin wsX3_hasCoin rm_X3_hasCoin G cI cJ [.ref Aw, .long p0] (wX3 cI cJ Aw wa wb wlo whi wtot) (fun (r : Int32) (u : Unit) => wB r ∧ Q r) (fun u => (wX3 cI cJ Aw wa wb wlo whi wtot)) := by
  refine kz_intro (cc := cX3_hasCoin) (maxL := 3) rfl rfl (by decide) rfl (Nat.le_of_ble_eq_true rfl) ?_
  intro p e s m args below meth c A Z ls hx hb hml hts hown hP hK hD hS hA hl hret
  have hl : lv_has ls 3 [(0, .ref Aw), (1, .long p0)] := hl
  unfold w_X3_hasCoin at hw
  refine lv_lload_n hx hb dX3_hasCoin_0 rfl (lv_at hl 1 rfl) ?_
  refine lv_lconst (v := 0) hx hb dX3_hasCoin_1 (by decide) ?_
  refine k_lif_lt (tgt := 19) hx hb dX3_hasCoin_2 dX3_hasCoin_3 (by decide) (fun c_2 => ?_) (fun c_2 => ?_)
  · have hw := hw.1 c_2
    refine lv_iconst (v := 0) hx hb dX3_hasCoin_19 (by decide) ?_
    exact hret _ () _ _ _ _ (Or.inl rfl) hw hP hD hS dX3_hasCoin_20
  · have hw := hw.2 c_2
    refine lv_lload_n hx hb dX3_hasCoin_6 rfl (lv_at hl 1 rfl) ?_
    refine lv_aload_n hx hb dX3_hasCoin_7 rfl (lv_at hl 0 rfl) ?_
    refine k_get hx hb hts uX3_hasCoin_X3 hown hK hP 0 3 rfl rfl 4 (by decide) fX3_hasCoin_30 (.long wtot) rfl dX3_hasCoin_8 ?_
    refine k_lif_ge (tgt := 19) hx hb dX3_hasCoin_11 dX3_hasCoin_12 (by decide) (fun c_1 => ?_) (fun c_1 => ?_)
    · have hw := hw.1 c_1
      refine lv_iconst (v := 0) hx hb dX3_hasCoin_19 (by decide) ?_
      exact hret _ () _ _ _ _ (Or.inl rfl) hw hP hD hS dX3_hasCoin_20
    · have hw := hw.2 c_1
      refine lv_iconst (v := 1) hx hb dX3_hasCoin_15 (by decide) ?_
      refine lv_goto (tgt := 20) hx hb dX3_hasCoin_16 (by decide) ?_
      exact hret _ () _ _ _ _ (Or.inr rfl) hw hP hD hS dX3_hasCoin_20
theorem fX3_nearestTo_20 : Cond.fieldLink RX3 20 "PrivateCounts$Table" "low" "I" ∈ wsX3_nearestTo := by decide +kernel
theorem uX3_nearestTo_X3 : ∀ w ∈ u_ws RX3 TX3 5, w ∈ wsX3_nearestTo := by decide +kernel
theorem fX3_nearestTo_23 : Cond.fieldLink RX3 23 "PrivateCounts$Table" "high" "I" ∈ wsX3_nearestTo := by decide +kernel
set_option maxHeartbeats 4000000 in
set_option maxRecDepth 100000 in
theorem M_X3_nearestTo (l : Launch) (G : va_G) (cI cJ : ClassId) (Aw : Nat) (wa : Int32) (wb : Int32) (wlo : Int32) (whi : Int32) (wtot : Int64) (p0 : Int32) (Q : Int32 → Prop) (hw : w_X3_nearestTo wlo whi p0 Q) : Ki l yX3_nearestTo wsX3_nearestTo rm_X3_nearestTo G cI cJ [.ref Aw, .int p0] (wX3 cI cJ Aw wa wb wlo whi wtot) (fun (r : Int32) (u : Unit) => Q r) (fun u => (wX3 cI cJ Aw wa wb wlo whi wtot)) := by
  refine ki_intro (cc := cX3_nearestTo) (maxL := 2) rfl rfl (by decide) rfl (Nat.le_of_ble_eq_true rfl) ?_
  intro p e s m args below meth c A Z ls hx hb hml hts hown hP hK hD hS hA hl hret
  have hl : lv_has ls 2 [(0, .ref Aw), (1, .int p0)] := hl
  unfold w_X3_nearestTo at hw
  refine lv_iload_n hx hb dX3_nearestTo_0 rfl (lv_at hl 1 rfl) ?_
  refine lv_aload_n hx hb dX3_nearestTo_1 rfl (lv_at hl 0 rfl) ?_
  refine k_get hx hb hts uX3_nearestTo_X3 hown hK hP 0 3 rfl rfl 2 (by decide) fX3_nearestTo_20 (.int wlo) rfl dX3_nearestTo_2 ?_
  refine lv_icmp_ge (tgt := 15) hx hb dX3_nearestTo_5 (by decide) (fun c_2 => ?_) (fun c_2 => ?_)
  · have hw := hw.1 c_2
    refine lv_iload_n hx hb dX3_nearestTo_15 rfl (lv_at hl 1 rfl) ?_
    refine lv_aload_n hx hb dX3_nearestTo_16 rfl (lv_at hl 0 rfl) ?_
    refine k_get hx hb hts uX3_nearestTo_X3 hown hK hP 0 3 rfl rfl 3 (by decide) fX3_nearestTo_23 (.int whi) rfl dX3_nearestTo_17 ?_
    refine lv_icmp_le (tgt := 30) hx hb dX3_nearestTo_20 (by decide) (fun c_1 => ?_) (fun c_1 => ?_)
    · have hw := hw.1 c_1
      refine lv_iload_n hx hb dX3_nearestTo_30 rfl (lv_at hl 1 rfl) ?_
      exact hret _ () _ _ _ _ hw hP hD hS dX3_nearestTo_31
    · have hw := hw.2 c_1
      refine lv_aload_n hx hb dX3_nearestTo_23 rfl (lv_at hl 0 rfl) ?_
      refine k_get hx hb hts uX3_nearestTo_X3 hown hK hP 0 3 rfl rfl 3 (by decide) fX3_nearestTo_23 (.int whi) rfl dX3_nearestTo_24 ?_
      refine lv_goto (tgt := 31) hx hb dX3_nearestTo_27 (by decide) ?_
      exact hret _ () _ _ _ _ hw hP hD hS dX3_nearestTo_31
  · have hw := hw.2 c_2
    refine lv_aload_n hx hb dX3_nearestTo_8 rfl (lv_at hl 0 rfl) ?_
    refine k_get hx hb hts uX3_nearestTo_X3 hown hK hP 0 3 rfl rfl 2 (by decide) fX3_nearestTo_20 (.int wlo) rfl dX3_nearestTo_9 ?_
    refine lv_goto (tgt := 31) hx hb dX3_nearestTo_12 (by decide) ?_
    exact hret _ () _ _ _ _ hw hP hD hS dX3_nearestTo_31
theorem fX3_weightOf_20 : Cond.fieldLink RX3 20 "PrivateCounts$Table" "low" "I" ∈ wsX3_weightOf := by decide +kernel
theorem uX3_weightOf_X3 : ∀ w ∈ u_ws RX3 TX3 5, w ∈ wsX3_weightOf := by decide +kernel
theorem fX3_weightOf_23 : Cond.fieldLink RX3 23 "PrivateCounts$Table" "high" "I" ∈ wsX3_weightOf := by decide +kernel
theorem fX3_weightOf_17 : Cond.fieldLink RX3 17 "PrivateCounts$Table" "b" "I" ∈ wsX3_weightOf := by decide +kernel
theorem fX3_weightOf_13 : Cond.fieldLink RX3 13 "PrivateCounts$Table" "a" "I" ∈ wsX3_weightOf := by decide +kernel
theorem fX3_weightOf_30 : Cond.fieldLink RX3 30 "PrivateCounts$Table" "total" "J" ∈ wsX3_weightOf := by decide +kernel
set_option maxHeartbeats 4000000 in
set_option maxRecDepth 100000 in
theorem M_X3_weightOf (l : Launch) (G : va_G) (cI cJ : ClassId) (Aw : Nat) (wa : Int32) (wb : Int32) (wlo : Int32) (whi : Int32) (wtot : Int64) (p0 : Int32) (p1 : Int32) (Q : Int64 → Prop) (hw : w_X3_weightOf wa wb wlo whi wtot p0 p1 Q) : Kl l yX3_weightOf wsX3_weightOf rm_X3_weightOf G cI cJ [.ref Aw, .int p0, .int p1] (wX3 cI cJ Aw wa wb wlo whi wtot) (fun (r : Int64) (u : Unit) => Q r) (fun u => (wX3 cI cJ Aw wa wb wlo whi wtot)) := by
  refine kl_intro (cc := cX3_weightOf) (maxL := 5) rfl rfl (by decide) rfl (Nat.le_of_ble_eq_true rfl) ?_
  intro p e s m args below meth c A Z ls hx hb hml hts hown hP hK hD hS hA hl hret
  have hl : lv_has ls 5 [(0, .ref Aw), (1, .int p0), (2, .int p1)] := hl
  unfold w_X3_weightOf at hw
  refine lv_aload_n hx hb dX3_weightOf_0 rfl (lv_at hl 0 rfl) ?_
  refine lv_iload_n hx hb dX3_weightOf_1 rfl (lv_at hl 1 rfl) ?_
  refine k_Vi (M_X3_holds l G cI cJ Aw wa wb wlo whi wtot p0 _ hw) ⟨hx, hb, hml, hown, hts⟩ (cwV 1 hts gX3_weightOf_X3_holds rfl rfl rfl (by decide +kernel) ⟨Nat.le_of_ble_eq_true rfl, Nat.le_of_ble_eq_true rfl⟩) hK hP hD hS hA [0] [] [0] (wr := []) (wn := fun u : Unit => (wX3 cI cJ Aw wa wb wlo whi wtot)) rfl rfl (by decide) (by decide) (by decide) (by decide) (fun _ => rfl) (rest := []) (q0 := 0) rfl rfl rfl hl.1 rfl (Nat.le_of_ble_eq_true rfl) (Nat.zero_le _) (Nat.zero_le _) dX3_weightOf_2 (fun r_1 u H locs hw hP hD hS => ?_)
  obtain ⟨hzr_1, hw⟩ := hw
  refine lv_if_eq (tgt := 16) hx hb dX3_weightOf_5 (by decide) (fun c_20 => ?_) (fun c_20 => ?_)
  · have hw := hw.1 c_20
    refine lv_lconst (v := 0) hx hb dX3_weightOf_16 (by decide) ?_
    exact hret _ () _ _ _ _ hw hP hD hS dX3_weightOf_17
  · have hw := hw.2 c_20
    refine lv_aload_n hx hb dX3_weightOf_8 rfl (lv_at hl 0 rfl) ?_
    refine lv_iload_n hx hb dX3_weightOf_9 rfl (lv_at hl 2 rfl) ?_
    refine k_Vi (M_X3_holds l G cI cJ Aw wa wb wlo whi wtot p1 _ hw) ⟨hx, hb, hml, hown, hts⟩ (cwV 1 hts gX3_weightOf_X3_holds rfl rfl rfl (by decide +kernel) ⟨Nat.le_of_ble_eq_true rfl, Nat.le_of_ble_eq_true rfl⟩) hK hP hD hS hA [0] [] [0] (wr := []) (wn := fun u : Unit => (wX3 cI cJ Aw wa wb wlo whi wtot)) rfl rfl (by decide) (by decide) (by decide) (by decide) (fun _ => rfl) (rest := []) (q0 := 0) rfl rfl rfl hl.1 rfl (Nat.le_of_ble_eq_true rfl) (Nat.zero_le _) (Nat.zero_le _) dX3_weightOf_10 (fun r_2 u H locs hw hP hD hS => ?_)
    obtain ⟨hzr_2, hw⟩ := hw
    refine lv_if_ne (tgt := 18) hx hb dX3_weightOf_13 (by decide) (fun c_19 => ?_) (fun c_19 => ?_)
    · have hw := hw.1 c_19
      refine lv_aload_n hx hb dX3_weightOf_18 rfl (lv_at hl 0 rfl) ?_
      refine k_get hx hb hts uX3_weightOf_X3 hown hK hP 0 3 rfl rfl 2 (by decide) fX3_weightOf_20 (.int wlo) rfl dX3_weightOf_19 ?_
      refine lv_aload_n hx hb dX3_weightOf_22 rfl (lv_at hl 0 rfl) ?_
      refine k_get hx hb hts uX3_weightOf_X3 hown hK hP 0 3 rfl rfl 3 (by decide) fX3_weightOf_23 (.int whi) rfl dX3_weightOf_23 ?_
      refine lv_icmp_ne (tgt := 34) hx hb dX3_weightOf_26 (by decide) (fun c_18 => ?_) (fun c_18 => ?_)
      · have hw := hw.1 c_18
        refine lv_aload_n hx hb dX3_weightOf_34 rfl (lv_at hl 0 rfl) ?_
        refine k_get hx hb hts uX3_weightOf_X3 hown hK hP 0 3 rfl rfl 3 (by decide) fX3_weightOf_23 (.int whi) rfl dX3_weightOf_35 ?_
        refine lv_aload_n hx hb dX3_weightOf_38 rfl (lv_at hl 0 rfl) ?_
        refine k_get hx hb hts uX3_weightOf_X3 hown hK hP 0 3 rfl rfl 2 (by decide) fX3_weightOf_20 (.int wlo) rfl dX3_weightOf_39 ?_
        refine lv_isub hx hb dX3_weightOf_42 ?_
        refine lv_topi (fun i3_3 ei3_3 => ?_)
        have hw := hw i3_3 ei3_3
        refine lv_istore_n (lv' := [(3, .int i3_3), (0, .ref Aw), (1, .int p0), (2, .int p1)]) hx hb dX3_weightOf_43 rfl hl (by decide) rfl (fun ls hl => ?_)
        refine lv_iload_n hx hb dX3_weightOf_44 rfl (lv_at hl 2 rfl) ?_
        refine lv_iload_n hx hb dX3_weightOf_45 rfl (lv_at hl 3 rfl) ?_
        obtain ⟨J58_5, hw, hR⟩ := hw
        have hJ58_5 : ∀ (t_4 : Int32) (_ : J58_5 t_4) (H : Heap) (locs : List Loc) (ls : Array Slot), va_P G vwCl (wX3 cI cJ Aw wa wb wlo whi wtot) H → va_D A (wX3 cI cJ Aw wa wb wlo whi wtot) → va_S A s.heap H locs → lv_has ls 5 [(3, .int i3_3), (0, .ref Aw), (2, .int p1)] → W p l e rm_X3_weightOf s m args below meth c H locs 0 0 Z (F0 m 58 ls [.int t_4]) := by
          intro t_4 hw H locs ls hP hD hS hl
          have hw := hR _ hw
          refine lv_istore (lv' := [(4, .int t_4), (3, .int i3_3), (0, .ref Aw), (2, .int p1)]) hx hb dX3_weightOf_58 hl (by decide) rfl (fun ls hl => ?_)
          refine lv_iload_n hx hb dX3_weightOf_60 rfl (lv_at hl 3 rfl) ?_
          refine lv_aload_n hx hb dX3_weightOf_61 rfl (lv_at hl 2 rfl) ?_
          refine k_get hx hb hts uX3_weightOf_X3 hown hK hP 0 3 rfl rfl 2 (by decide) fX3_weightOf_20 (.int wlo) rfl dX3_weightOf_62 ?_
          refine lv_icmp_eq (tgt := 76) hx hb dX3_weightOf_65 (by decide) (fun c_17 => ?_) (fun c_17 => ?_)
          · have hw := hw.1 c_17
            refine lv_aload_n hx hb dX3_weightOf_76 rfl (lv_at hl 2 rfl) ?_
            refine k_get hx hb hts uX3_weightOf_X3 hown hK hP 0 3 rfl rfl 1 (by decide) fX3_weightOf_17 (.int wb) rfl dX3_weightOf_77 ?_
            refine lv_iload_n hx hb dX3_weightOf_80 rfl (lv_at hl 1 rfl) ?_
            refine lv_iconst (v := 1) hx hb dX3_weightOf_81 (by decide) ?_
            refine lv_iadd hx hb dX3_weightOf_82 ?_
            refine lv_iload hx hb dX3_weightOf_83 (lv_at hl 0 rfl) ?_
            refine lv_isub hx hb dX3_weightOf_85 ?_
            refine lv_topi (fun v_7 ev_7 => ?_)
            have hw := hw v_7 ev_7
            refine k_Sl (M_X3_power l G cI cJ wb v_7 _ hw) ⟨hx, hb, hml, hown, hts⟩ (va_cwS 2 hts gX3_weightOf_X3_power rfl rfl rfl (by decide +kernel) ⟨Nat.le_of_ble_eq_true rfl, Nat.le_of_ble_eq_true rfl⟩) hK hP hD hS hA [] [0] [0] (wr := [(Aw, .inr (3, [.int wa, .int wb, .int wlo, .int whi, .long wtot]))]) (wn := fun u : Unit => (wX3 cI cJ Aw wa wb wlo whi wtot)) rfl rfl (by decide) (by decide) (by decide) (by decide) (fun _ => rfl) (rest := []) rfl hl.1 rfl (Nat.le_of_ble_eq_true rfl) (Nat.zero_le _) (Nat.zero_le _) dX3_weightOf_86 (fun r_8 u H locs hw hP hD hS => ?_)
            refine lv_aload_n hx hb dX3_weightOf_89 rfl (lv_at hl 2 rfl) ?_
            refine k_get hx hb hts uX3_weightOf_X3 hown hK hP 0 3 rfl rfl 0 (by decide) fX3_weightOf_13 (.int wa) rfl dX3_weightOf_90 ?_
            refine lv_iload hx hb dX3_weightOf_93 (lv_at hl 0 rfl) ?_
            refine k_Sl (M_X3_power l G cI cJ wa t_4 _ hw) ⟨hx, hb, hml, hown, hts⟩ (va_cwS 2 hts gX3_weightOf_X3_power rfl rfl rfl (by decide +kernel) ⟨Nat.le_of_ble_eq_true rfl, Nat.le_of_ble_eq_true rfl⟩) hK hP hD hS hA [] [0] [0] (wr := [(Aw, .inr (3, [.int wa, .int wb, .int wlo, .int whi, .long wtot]))]) (wn := fun u : Unit => (wX3 cI cJ Aw wa wb wlo whi wtot)) rfl rfl (by decide) (by decide) (by decide) (by decide) (fun _ => rfl) (rest := [.long r_8]) rfl hl.1 rfl (Nat.le_of_ble_eq_true rfl) (Nat.zero_le _) (Nat.zero_le _) dX3_weightOf_95 (fun r_9 u H locs hw hP hD hS => ?_)
            refine lv_lmul hx hb dX3_weightOf_98 ?_
            exact hret _ () _ _ _ _ hw hP hD hS dX3_weightOf_99
          · have hw := hw.2 c_17
            refine lv_iload_n hx hb dX3_weightOf_68 rfl (lv_at hl 3 rfl) ?_
            refine lv_aload_n hx hb dX3_weightOf_69 rfl (lv_at hl 2 rfl) ?_
            refine k_get hx hb hts uX3_weightOf_X3 hown hK hP 0 3 rfl rfl 3 (by decide) fX3_weightOf_23 (.int whi) rfl dX3_weightOf_70 ?_
            refine lv_icmp_ne (tgt := 100) hx hb dX3_weightOf_73 (by decide) (fun c_16 => ?_) (fun c_16 => ?_)
            · have hw := hw.1 c_16
              refine lv_aload_n hx hb dX3_weightOf_100 rfl (lv_at hl 2 rfl) ?_
              refine k_get hx hb hts uX3_weightOf_X3 hown hK hP 0 3 rfl rfl 1 (by decide) fX3_weightOf_17 (.int wb) rfl dX3_weightOf_101 ?_
              refine lv_aload_n hx hb dX3_weightOf_104 rfl (lv_at hl 2 rfl) ?_
              refine k_get hx hb hts uX3_weightOf_X3 hown hK hP 0 3 rfl rfl 0 (by decide) fX3_weightOf_13 (.int wa) rfl dX3_weightOf_105 ?_
              refine lv_isub hx hb dX3_weightOf_108 ?_
              refine lv_i2l (v := (wb - wa).toInt64) hx hb dX3_weightOf_109 rfl ?_
              refine lv_aload_n hx hb dX3_weightOf_110 rfl (lv_at hl 2 rfl) ?_
              refine k_get hx hb hts uX3_weightOf_X3 hown hK hP 0 3 rfl rfl 1 (by decide) fX3_weightOf_17 (.int wb) rfl dX3_weightOf_111 ?_
              refine lv_iload_n hx hb dX3_weightOf_114 rfl (lv_at hl 1 rfl) ?_
              refine lv_iload hx hb dX3_weightOf_115 (lv_at hl 0 rfl) ?_
              refine lv_isub hx hb dX3_weightOf_117 ?_
              refine k_Sl (M_X3_power l G cI cJ wb (i3_3 - t_4) _ hw) ⟨hx, hb, hml, hown, hts⟩ (va_cwS 2 hts gX3_weightOf_X3_power rfl rfl rfl (by decide +kernel) ⟨Nat.le_of_ble_eq_true rfl, Nat.le_of_ble_eq_true rfl⟩) hK hP hD hS hA [] [0] [0] (wr := [(Aw, .inr (3, [.int wa, .int wb, .int wlo, .int whi, .long wtot]))]) (wn := fun u : Unit => (wX3 cI cJ Aw wa wb wlo whi wtot)) rfl rfl (by decide) (by decide) (by decide) (by decide) (fun _ => rfl) (rest := [.long ((wb - wa).toInt64)]) rfl hl.1 rfl (Nat.le_of_ble_eq_true rfl) (Nat.zero_le _) (Nat.zero_le _) dX3_weightOf_118 (fun r_10 u H locs hw hP hD hS => ?_)
              refine lv_lmul hx hb dX3_weightOf_121 ?_
              refine lv_topl (fun v_11 ev_11 => ?_)
              have hw := hw v_11 ev_11
              refine lv_aload_n hx hb dX3_weightOf_122 rfl (lv_at hl 2 rfl) ?_
              refine k_get hx hb hts uX3_weightOf_X3 hown hK hP 0 3 rfl rfl 0 (by decide) fX3_weightOf_13 (.int wa) rfl dX3_weightOf_123 ?_
              refine lv_iload hx hb dX3_weightOf_126 (lv_at hl 0 rfl) ?_
              refine k_Sl (M_X3_power l G cI cJ wa t_4 _ hw) ⟨hx, hb, hml, hown, hts⟩ (va_cwS 2 hts gX3_weightOf_X3_power rfl rfl rfl (by decide +kernel) ⟨Nat.le_of_ble_eq_true rfl, Nat.le_of_ble_eq_true rfl⟩) hK hP hD hS hA [] [0] [0] (wr := [(Aw, .inr (3, [.int wa, .int wb, .int wlo, .int whi, .long wtot]))]) (wn := fun u : Unit => (wX3 cI cJ Aw wa wb wlo whi wtot)) rfl rfl (by decide) (by decide) (by decide) (by decide) (fun _ => rfl) (rest := [.long v_11]) rfl hl.1 rfl (Nat.le_of_ble_eq_true rfl) (Nat.zero_le _) (Nat.zero_le _) dX3_weightOf_128 (fun r_12 u H locs hw hP hD hS => ?_)
              refine lv_lmul hx hb dX3_weightOf_131 ?_
              exact hret _ () _ _ _ _ hw hP hD hS dX3_weightOf_132
            · have hw := hw.2 c_16
              refine lv_aload_n hx hb dX3_weightOf_76 rfl (lv_at hl 2 rfl) ?_
              refine k_get hx hb hts uX3_weightOf_X3 hown hK hP 0 3 rfl rfl 1 (by decide) fX3_weightOf_17 (.int wb) rfl dX3_weightOf_77 ?_
              refine lv_iload_n hx hb dX3_weightOf_80 rfl (lv_at hl 1 rfl) ?_
              refine lv_iconst (v := 1) hx hb dX3_weightOf_81 (by decide) ?_
              refine lv_iadd hx hb dX3_weightOf_82 ?_
              refine lv_iload hx hb dX3_weightOf_83 (lv_at hl 0 rfl) ?_
              refine lv_isub hx hb dX3_weightOf_85 ?_
              refine lv_topi (fun v_13 ev_13 => ?_)
              have hw := hw v_13 ev_13
              refine k_Sl (M_X3_power l G cI cJ wb v_13 _ hw) ⟨hx, hb, hml, hown, hts⟩ (va_cwS 2 hts gX3_weightOf_X3_power rfl rfl rfl (by decide +kernel) ⟨Nat.le_of_ble_eq_true rfl, Nat.le_of_ble_eq_true rfl⟩) hK hP hD hS hA [] [0] [0] (wr := [(Aw, .inr (3, [.int wa, .int wb, .int wlo, .int whi, .long wtot]))]) (wn := fun u : Unit => (wX3 cI cJ Aw wa wb wlo whi wtot)) rfl rfl (by decide) (by decide) (by decide) (by decide) (fun _ => rfl) (rest := []) rfl hl.1 rfl (Nat.le_of_ble_eq_true rfl) (Nat.zero_le _) (Nat.zero_le _) dX3_weightOf_86 (fun r_14 u H locs hw hP hD hS => ?_)
              refine lv_aload_n hx hb dX3_weightOf_89 rfl (lv_at hl 2 rfl) ?_
              refine k_get hx hb hts uX3_weightOf_X3 hown hK hP 0 3 rfl rfl 0 (by decide) fX3_weightOf_13 (.int wa) rfl dX3_weightOf_90 ?_
              refine lv_iload hx hb dX3_weightOf_93 (lv_at hl 0 rfl) ?_
              refine k_Sl (M_X3_power l G cI cJ wa t_4 _ hw) ⟨hx, hb, hml, hown, hts⟩ (va_cwS 2 hts gX3_weightOf_X3_power rfl rfl rfl (by decide +kernel) ⟨Nat.le_of_ble_eq_true rfl, Nat.le_of_ble_eq_true rfl⟩) hK hP hD hS hA [] [0] [0] (wr := [(Aw, .inr (3, [.int wa, .int wb, .int wlo, .int whi, .long wtot]))]) (wn := fun u : Unit => (wX3 cI cJ Aw wa wb wlo whi wtot)) rfl rfl (by decide) (by decide) (by decide) (by decide) (fun _ => rfl) (rest := [.long r_14]) rfl hl.1 rfl (Nat.le_of_ble_eq_true rfl) (Nat.zero_le _) (Nat.zero_le _) dX3_weightOf_95 (fun r_15 u H locs hw hP hD hS => ?_)
              refine lv_lmul hx hb dX3_weightOf_98 ?_
              exact hret _ () _ _ _ _ hw hP hD hS dX3_weightOf_99
        clear hR
        refine lv_icmp_ge (tgt := 55) hx hb dX3_weightOf_46 (by decide) (fun c_6 => ?_) (fun c_6 => ?_)
        · have hw := hw.1 c_6
          refine lv_iload_n hx hb dX3_weightOf_55 rfl (lv_at hl 2 rfl) ?_
          refine lv_iload_n hx hb dX3_weightOf_56 rfl (lv_at hl 3 rfl) ?_
          refine lv_isub hx hb dX3_weightOf_57 ?_
          exact hJ58_5 (p0 - p1) hw _ _ _ hP hD hS (lv_sub hl [0, 1, 3] rfl)
        · have hw := hw.2 c_6
          refine lv_iload_n hx hb dX3_weightOf_49 rfl (lv_at hl 3 rfl) ?_
          refine lv_iload_n hx hb dX3_weightOf_50 rfl (lv_at hl 2 rfl) ?_
          refine lv_isub hx hb dX3_weightOf_51 ?_
          refine lv_goto (tgt := 58) hx hb dX3_weightOf_52 (by decide) ?_
          exact hJ58_5 (p1 - p0) hw _ _ _ hP hD hS (lv_sub hl [0, 1, 3] rfl)
      · have hw := hw.2 c_18
        refine lv_aload_n hx hb dX3_weightOf_29 rfl (lv_at hl 0 rfl) ?_
        refine k_get hx hb hts uX3_weightOf_X3 hown hK hP 0 3 rfl rfl 4 (by decide) fX3_weightOf_30 (.long wtot) rfl dX3_weightOf_30 ?_
        exact hret _ () _ _ _ _ hw hP hD hS dX3_weightOf_33
    · have hw := hw.2 c_19
      refine lv_lconst (v := 0) hx hb dX3_weightOf_16 (by decide) ?_
      exact hret _ () _ _ _ _ hw hP hD hS dX3_weightOf_17
theorem fX3_sumTo_20 : Cond.fieldLink RX3 20 "PrivateCounts$Table" "low" "I" ∈ wsX3_sumTo := by decide +kernel
theorem uX3_sumTo_X3 : ∀ w ∈ u_ws RX3 TX3 5, w ∈ wsX3_sumTo := by decide +kernel
theorem fX3_sumTo_23 : Cond.fieldLink RX3 23 "PrivateCounts$Table" "high" "I" ∈ wsX3_sumTo := by decide +kernel
set_option maxHeartbeats 4000000 in
set_option maxRecDepth 100000 in
theorem M_X3_sumTo (l : Launch) (G : va_G) (cI cJ : ClassId) (Aw : Nat) (wa : Int32) (wb : Int32) (wlo : Int32) (whi : Int32) (wtot : Int64) (p0 : Int32) (p1 : Int32) (Q : Int64 → Prop) (hw : w_X3_sumTo wa wb wlo whi wtot p0 p1 Q) : Kl l yX3_sumTo wsX3_sumTo rm_X3_sumTo G cI cJ [.ref Aw, .int p0, .int p1] (wX3 cI cJ Aw wa wb wlo whi wtot) (fun (r : Int64) (u : Unit) => Q r) (fun u => (wX3 cI cJ Aw wa wb wlo whi wtot)) := by
  refine kl_intro (cc := cX3_sumTo) (maxL := 6) rfl rfl (by decide) rfl (Nat.le_of_ble_eq_true rfl) ?_
  intro p e s m args below meth c A Z ls hx hb hml hts hown hP hK hD hS hA hl hret
  have hl : lv_has ls 6 [(0, .ref Aw), (1, .int p0), (2, .int p1)] := hl
  unfold w_X3_sumTo at hw
  refine lv_lconst (v := 0) hx hb dX3_sumTo_0 (by decide) ?_
  refine lv_lstore_n (lv' := [(3, .long 0), (0, .ref Aw), (1, .int p0), (2, .int p1)]) hx hb dX3_sumTo_1 rfl hl (by decide) rfl (fun ls hl => ?_)
  refine lv_aload_n hx hb dX3_sumTo_2 rfl (lv_at hl 1 rfl) ?_
  refine k_get hx hb hts uX3_sumTo_X3 hown hK hP 0 3 rfl rfl 2 (by decide) fX3_sumTo_20 (.int wlo) rfl dX3_sumTo_3 ?_
  refine lv_istore (lv' := [(5, .int wlo), (3, .long 0), (0, .ref Aw), (1, .int p0), (2, .int p1)]) hx hb dX3_sumTo_6 hl (by decide) rfl (fun ls hl => ?_)
  obtain ⟨I8_3, μ8_3, hi, hw⟩ := hw
  suffices hLI8_3 : ∀ (N : Nat) (i5_1 : Int32) (i3_2 : Int64) (_ : μ8_3 i5_1 i3_2 = N) (_ : I8_3 i5_1 i3_2) (H : Heap) (locs : List Loc) (ls : Array Slot), va_P G vwCl (wX3 cI cJ Aw wa wb wlo whi wtot) H → va_D A (wX3 cI cJ Aw wa wb wlo whi wtot) → va_S A s.heap H locs → lv_has ls 6 [(5, .int i5_1), (3, .long i3_2), (0, .ref Aw), (1, .int p0), (2, .int p1)] → W p l e rm_X3_sumTo s m args below meth c H locs 0 0 Z (F0 m 8 ls []) from
    hLI8_3 _ wlo (0 : Int64) rfl hi _ _ _ hP hD hS (lv_sub hl [0, 1, 2, 3, 4] rfl)
  clear hi hP hD hS hl
  intro N
  induction N using Nat.strongRecOn with
  | ind N ihI8_3 =>
    intro i5_1 i3_2 hNI8_3 hi H locs ls hP hD hS hl
    have hw := hw i5_1 i3_2 hi
    refine lv_iload hx hb dX3_sumTo_8 (lv_at hl 0 rfl) ?_
    refine lv_aload_n hx hb dX3_sumTo_10 rfl (lv_at hl 2 rfl) ?_
    refine k_get hx hb hts uX3_sumTo_X3 hown hK hP 0 3 rfl rfl 3 (by decide) fX3_sumTo_23 (.int whi) rfl dX3_sumTo_11 ?_
    refine lv_icmp_gt (tgt := 39) hx hb dX3_sumTo_14 (by decide) (fun c_8 => ?_) (fun c_8 => ?_)
    · have hw := hw.1 c_8
      refine lv_lload_n hx hb dX3_sumTo_39 rfl (lv_at hl 1 rfl) ?_
      exact hret _ () _ _ _ _ hw hP hD hS dX3_sumTo_40
    · have hw := hw.2 c_8
      refine lv_iload hx hb dX3_sumTo_17 (lv_at hl 0 rfl) ?_
      refine lv_iload_n hx hb dX3_sumTo_19 rfl (lv_at hl 4 rfl) ?_
      refine lv_icmp_gt (tgt := 39) hx hb dX3_sumTo_20 (by decide) (fun c_7 => ?_) (fun c_7 => ?_)
      · have hw := hw.1 c_7
        refine lv_lload_n hx hb dX3_sumTo_39 rfl (lv_at hl 1 rfl) ?_
        exact hret _ () _ _ _ _ hw hP hD hS dX3_sumTo_40
      · have hw := hw.2 c_7
        refine lv_lload_n hx hb dX3_sumTo_23 rfl (lv_at hl 1 rfl) ?_
        refine lv_aload_n hx hb dX3_sumTo_24 rfl (lv_at hl 2 rfl) ?_
        refine lv_iload_n hx hb dX3_sumTo_25 rfl (lv_at hl 3 rfl) ?_
        refine lv_iload hx hb dX3_sumTo_26 (lv_at hl 0 rfl) ?_
        refine k_Vl (M_X3_weightOf l G cI cJ Aw wa wb wlo whi wtot p0 i5_1 _ hw) ⟨hx, hb, hml, hown, hts⟩ (cwV 2 hts gX3_sumTo_X3_weightOf rfl rfl rfl (by decide +kernel) ⟨Nat.le_of_ble_eq_true rfl, Nat.le_of_ble_eq_true rfl⟩) hK hP hD hS hA [0] [] [0] (wr := []) (wn := fun u : Unit => (wX3 cI cJ Aw wa wb wlo whi wtot)) rfl rfl (by decide) (by decide) (by decide) (by decide) (fun _ => rfl) (rest := [.long i3_2]) (q0 := 0) rfl rfl rfl hl.1 rfl (Nat.le_of_ble_eq_true rfl) (Nat.zero_le _) (Nat.zero_le _) dX3_sumTo_28 (fun r_4 u H locs hw hP hD hS => ?_)
        refine lv_ladd hx hb dX3_sumTo_31 ?_
        refine lv_topl (fun i3_5 ei3_5 => ?_)
        have hw := hw i3_5 ei3_5
        refine lv_lstore_n (lv' := [(3, .long i3_5), (5, .int i5_1), (0, .ref Aw), (1, .int p0), (2, .int p1)]) hx hb dX3_sumTo_32 rfl hl (by decide) rfl (fun ls hl => ?_)
        obtain ⟨i5_6, ei5_6⟩ : ∃ y : Int32, y = i5_1 + 1 := ⟨_, rfl⟩
        have hw := hw i5_6 ei5_6
        refine lv_iinc (v := i5_6) (lv' := [(5, .int i5_6), (3, .long i3_5), (0, .ref Aw), (1, .int p0), (2, .int p1)]) hx hb dX3_sumTo_33 hl (k := 1) rfl (by rw [ei5_6]; rfl) (by decide) rfl (fun ls hl => ?_)
        refine lv_goto (tgt := 8) hx hb dX3_sumTo_36 (by decide) ?_
        exact ihI8_3 _ (by rw [← hNI8_3]; exact hw.2) i5_6 i3_5 rfl hw.1 _ _ _ hP hD hS (lv_sub hl [0, 1, 2, 3, 4] rfl)
theorem fX3_outcomeOf_20 : Cond.fieldLink RX3 20 "PrivateCounts$Table" "low" "I" ∈ wsX3_outcomeOf := by decide +kernel
theorem uX3_outcomeOf_X3 : ∀ w ∈ u_ws RX3 TX3 5, w ∈ wsX3_outcomeOf := by decide +kernel
theorem fX3_outcomeOf_23 : Cond.fieldLink RX3 23 "PrivateCounts$Table" "high" "I" ∈ wsX3_outcomeOf := by decide +kernel
set_option maxHeartbeats 4000000 in
set_option maxRecDepth 100000 in
theorem M_X3_outcomeOf (l : Launch) (G : va_G) (cI cJ : ClassId) (Aw : Nat) (wa : Int32) (wb : Int32) (wlo : Int32) (whi : Int32) (wtot : Int64) (p0 : Int32) (p1 : Int64) (Q : Int32 → Prop) (hw : w_X3_outcomeOf wa wb wlo whi wtot p0 p1 Q) : Ki l yX3_outcomeOf wsX3_outcomeOf rm_X3_outcomeOf G cI cJ [.ref Aw, .int p0, .long p1] (wX3 cI cJ Aw wa wb wlo whi wtot) (fun (r : Int32) (u : Unit) => Q r) (fun u => (wX3 cI cJ Aw wa wb wlo whi wtot)) := by
  refine ki_intro (cc := cX3_outcomeOf) (maxL := 7) rfl rfl (by decide) rfl (Nat.le_of_ble_eq_true rfl) ?_
  intro p e s m args below meth c A Z ls hx hb hml hts hown hP hK hD hS hA hl hret
  have hl : lv_has ls 7 [(0, .ref Aw), (1, .int p0), (2, .long p1)] := hl
  unfold w_X3_outcomeOf at hw
  refine lv_lconst (v := 0) hx hb dX3_outcomeOf_0 (by decide) ?_
  refine lv_lstore (lv' := [(4, .long 0), (0, .ref Aw), (1, .int p0), (2, .long p1)]) hx hb dX3_outcomeOf_1 hl (by decide) rfl (fun ls hl => ?_)
  refine lv_aload_n hx hb dX3_outcomeOf_3 rfl (lv_at hl 1 rfl) ?_
  refine k_get hx hb hts uX3_outcomeOf_X3 hown hK hP 0 3 rfl rfl 2 (by decide) fX3_outcomeOf_20 (.int wlo) rfl dX3_outcomeOf_4 ?_
  refine lv_istore (lv' := [(6, .int wlo), (4, .long 0), (0, .ref Aw), (1, .int p0), (2, .long p1)]) hx hb dX3_outcomeOf_7 hl (by decide) rfl (fun ls hl => ?_)
  obtain ⟨I9_3, μ9_3, hi, hw⟩ := hw
  suffices hLI9_3 : ∀ (N : Nat) (i6_1 : Int32) (i4_2 : Int64) (_ : μ9_3 i6_1 i4_2 = N) (_ : I9_3 i6_1 i4_2) (H : Heap) (locs : List Loc) (ls : Array Slot), va_P G vwCl (wX3 cI cJ Aw wa wb wlo whi wtot) H → va_D A (wX3 cI cJ Aw wa wb wlo whi wtot) → va_S A s.heap H locs → lv_has ls 7 [(6, .int i6_1), (4, .long i4_2), (0, .ref Aw), (1, .int p0), (2, .long p1)] → W p l e rm_X3_outcomeOf s m args below meth c H locs 0 0 Z (F0 m 9 ls []) from
    hLI9_3 _ wlo (0 : Int64) rfl hi _ _ _ hP hD hS (lv_sub hl [0, 1, 2, 3, 4] rfl)
  clear hi hP hD hS hl
  intro N
  induction N using Nat.strongRecOn with
  | ind N ihI9_3 =>
    intro i6_1 i4_2 hNI9_3 hi H locs ls hP hD hS hl
    have hw := hw i6_1 i4_2 hi
    refine lv_iload hx hb dX3_outcomeOf_9 (lv_at hl 0 rfl) ?_
    refine lv_aload_n hx hb dX3_outcomeOf_11 rfl (lv_at hl 2 rfl) ?_
    refine k_get hx hb hts uX3_outcomeOf_X3 hown hK hP 0 3 rfl rfl 3 (by decide) fX3_outcomeOf_23 (.int whi) rfl dX3_outcomeOf_12 ?_
    refine lv_icmp_ge (tgt := 46) hx hb dX3_outcomeOf_15 (by decide) (fun c_8 => ?_) (fun c_8 => ?_)
    · have hw := hw.1 c_8
      refine lv_aload_n hx hb dX3_outcomeOf_46 rfl (lv_at hl 2 rfl) ?_
      refine k_get hx hb hts uX3_outcomeOf_X3 hown hK hP 0 3 rfl rfl 3 (by decide) fX3_outcomeOf_23 (.int whi) rfl dX3_outcomeOf_47 ?_
      exact hret _ () _ _ _ _ hw hP hD hS dX3_outcomeOf_50
    · have hw := hw.2 c_8
      refine lv_lload hx hb dX3_outcomeOf_18 (lv_at hl 1 rfl) ?_
      refine lv_aload_n hx hb dX3_outcomeOf_20 rfl (lv_at hl 2 rfl) ?_
      refine lv_iload_n hx hb dX3_outcomeOf_21 rfl (lv_at hl 3 rfl) ?_
      refine lv_iload hx hb dX3_outcomeOf_22 (lv_at hl 0 rfl) ?_
      refine k_Vl (M_X3_weightOf l G cI cJ Aw wa wb wlo whi wtot p0 i6_1 _ hw) ⟨hx, hb, hml, hown, hts⟩ (cwV 2 hts gX3_outcomeOf_X3_weightOf rfl rfl rfl (by decide +kernel) ⟨Nat.le_of_ble_eq_true rfl, Nat.le_of_ble_eq_true rfl⟩) hK hP hD hS hA [0] [] [0] (wr := []) (wn := fun u : Unit => (wX3 cI cJ Aw wa wb wlo whi wtot)) rfl rfl (by decide) (by decide) (by decide) (by decide) (fun _ => rfl) (rest := [.long i4_2]) (q0 := 0) rfl rfl rfl hl.1 rfl (Nat.le_of_ble_eq_true rfl) (Nat.zero_le _) (Nat.zero_le _) dX3_outcomeOf_24 (fun r_4 u H locs hw hP hD hS => ?_)
      refine lv_ladd hx hb dX3_outcomeOf_27 ?_
      refine lv_topl (fun i4_5 ei4_5 => ?_)
      have hw := hw i4_5 ei4_5
      refine lv_lstore (lv' := [(4, .long i4_5), (6, .int i6_1), (0, .ref Aw), (1, .int p0), (2, .long p1)]) hx hb dX3_outcomeOf_28 hl (by decide) rfl (fun ls hl => ?_)
      refine lv_lload hx hb dX3_outcomeOf_30 (lv_at hl 0 rfl) ?_
      refine lv_lload_n hx hb dX3_outcomeOf_32 rfl (lv_at hl 4 rfl) ?_
      refine k_lif_le (tgt := 40) hx hb dX3_outcomeOf_33 dX3_outcomeOf_34 (by decide) (fun c_7 => ?_) (fun c_7 => ?_)
      · have hw := hw.1 c_7
        obtain ⟨i6_6, ei6_6⟩ : ∃ y : Int32, y = i6_1 + 1 := ⟨_, rfl⟩
        have hw := hw i6_6 ei6_6
        refine lv_iinc (v := i6_6) (lv' := [(6, .int i6_6), (4, .long i4_5), (0, .ref Aw), (1, .int p0), (2, .long p1)]) hx hb dX3_outcomeOf_40 hl (k := 1) rfl (by rw [ei6_6]; rfl) (by decide) rfl (fun ls hl => ?_)
        refine lv_goto (tgt := 9) hx hb dX3_outcomeOf_43 (by decide) ?_
        exact ihI9_3 _ (by rw [← hNI9_3]; exact hw.2) i6_6 i4_5 rfl hw.1 _ _ _ hP hD hS (lv_sub hl [0, 1, 2, 3, 4] rfl)
      · have hw := hw.2 c_7
        refine lv_iload hx hb dX3_outcomeOf_37 (lv_at hl 1 rfl) ?_
        exact hret _ () _ _ _ _ hw hP hD hS dX3_outcomeOf_39
theorem fX3_isWithinRatio_20 : Cond.fieldLink RX3 20 "PrivateCounts$Table" "low" "I" ∈ wsX3_isWithinRatio := by decide +kernel
theorem uX3_isWithinRatio_X3 : ∀ w ∈ u_ws RX3 TX3 5, w ∈ wsX3_isWithinRatio := by decide +kernel
theorem fX3_isWithinRatio_23 : Cond.fieldLink RX3 23 "PrivateCounts$Table" "high" "I" ∈ wsX3_isWithinRatio := by decide +kernel
theorem fX3_isWithinRatio_13 : Cond.fieldLink RX3 13 "PrivateCounts$Table" "a" "I" ∈ wsX3_isWithinRatio := by decide +kernel
theorem fX3_isWithinRatio_17 : Cond.fieldLink RX3 17 "PrivateCounts$Table" "b" "I" ∈ wsX3_isWithinRatio := by decide +kernel
set_option maxHeartbeats 4000000 in
set_option maxRecDepth 100000 in
theorem M_X3_isWithinRatio (l : Launch) (G : va_G) (cI cJ : ClassId) (Aw : Nat) (wa : Int32) (wb : Int32) (wlo : Int32) (whi : Int32) (wtot : Int64) (p0 : Int32) (p1 : Int32) (Q : Int32 → Prop) (hw : w_X3_isWithinRatio wa wb wlo whi wtot p0 p1 Q) : Ki l yX3_isWithinRatio wsX3_isWithinRatio rm_X3_isWithinRatio G cI cJ [.ref Aw, .int p0, .int p1] (wX3 cI cJ Aw wa wb wlo whi wtot) (fun (r : Int32) (u : Unit) => wB r ∧ Q r) (fun u => (wX3 cI cJ Aw wa wb wlo whi wtot)) := by
  refine kz_intro (cc := cX3_isWithinRatio) (maxL := 4) rfl rfl (by decide) rfl (Nat.le_of_ble_eq_true rfl) ?_
  intro p e s m args below meth c A Z ls hx hb hml hts hown hP hK hD hS hA hl hret
  have hl : lv_has ls 4 [(0, .ref Aw), (1, .int p0), (2, .int p1)] := hl
  unfold w_X3_isWithinRatio at hw
  refine lv_aload_n hx hb dX3_isWithinRatio_0 rfl (lv_at hl 0 rfl) ?_
  refine k_get hx hb hts uX3_isWithinRatio_X3 hown hK hP 0 3 rfl rfl 2 (by decide) fX3_isWithinRatio_20 (.int wlo) rfl dX3_isWithinRatio_1 ?_
  refine lv_istore_n (lv' := [(3, .int wlo), (0, .ref Aw), (1, .int p0), (2, .int p1)]) hx hb dX3_isWithinRatio_4 rfl hl (by decide) rfl (fun ls hl => ?_)
  obtain ⟨I5_2, μ5_2, hi, hw⟩ := hw
  suffices hLI5_2 : ∀ (N : Nat) (i3_1 : Int32) (_ : μ5_2 i3_1 = N) (_ : I5_2 i3_1) (H : Heap) (locs : List Loc) (ls : Array Slot), va_P G vwCl (wX3 cI cJ Aw wa wb wlo whi wtot) H → va_D A (wX3 cI cJ Aw wa wb wlo whi wtot) → va_S A s.heap H locs → lv_has ls 4 [(3, .int i3_1), (0, .ref Aw), (1, .int p0), (2, .int p1)] → W p l e rm_X3_isWithinRatio s m args below meth c H locs 0 0 Z (F0 m 5 ls []) from
    hLI5_2 _ wlo rfl hi _ _ _ hP hD hS (lv_sub hl [0, 1, 2, 3] rfl)
  clear hi hP hD hS hl
  intro N
  induction N using Nat.strongRecOn with
  | ind N ihI5_2 =>
    intro i3_1 hNI5_2 hi H locs ls hP hD hS hl
    have hw := hw i3_1 hi
    refine lv_iload_n hx hb dX3_isWithinRatio_5 rfl (lv_at hl 0 rfl) ?_
    refine lv_aload_n hx hb dX3_isWithinRatio_6 rfl (lv_at hl 1 rfl) ?_
    refine k_get hx hb hts uX3_isWithinRatio_X3 hown hK hP 0 3 rfl rfl 3 (by decide) fX3_isWithinRatio_23 (.int whi) rfl dX3_isWithinRatio_7 ?_
    refine lv_icmp_gt (tgt := 49) hx hb dX3_isWithinRatio_10 (by decide) (fun c_7 => ?_) (fun c_7 => ?_)
    · have hw := hw.1 c_7
      refine lv_iconst (v := 1) hx hb dX3_isWithinRatio_49 (by decide) ?_
      exact hret _ () _ _ _ _ (Or.inr rfl) hw hP hD hS dX3_isWithinRatio_50
    · have hw := hw.2 c_7
      refine lv_aload_n hx hb dX3_isWithinRatio_13 rfl (lv_at hl 1 rfl) ?_
      refine k_get hx hb hts uX3_isWithinRatio_X3 hown hK hP 0 3 rfl rfl 0 (by decide) fX3_isWithinRatio_13 (.int wa) rfl dX3_isWithinRatio_14 ?_
      refine lv_i2l (v := wa.toInt64) hx hb dX3_isWithinRatio_17 rfl ?_
      refine lv_aload_n hx hb dX3_isWithinRatio_18 rfl (lv_at hl 1 rfl) ?_
      refine lv_iload_n hx hb dX3_isWithinRatio_19 rfl (lv_at hl 2 rfl) ?_
      refine lv_iload_n hx hb dX3_isWithinRatio_20 rfl (lv_at hl 0 rfl) ?_
      refine k_Vl (M_X3_weightOf l G cI cJ Aw wa wb wlo whi wtot p0 i3_1 _ hw) ⟨hx, hb, hml, hown, hts⟩ (cwV 2 hts gX3_isWithinRatio_X3_weightOf rfl rfl rfl (by decide +kernel) ⟨Nat.le_of_ble_eq_true rfl, Nat.le_of_ble_eq_true rfl⟩) hK hP hD hS hA [0] [] [0] (wr := []) (wn := fun u : Unit => (wX3 cI cJ Aw wa wb wlo whi wtot)) rfl rfl (by decide) (by decide) (by decide) (by decide) (fun _ => rfl) (rest := [.long wa.toInt64]) (q0 := 0) rfl rfl rfl hl.1 rfl (Nat.le_of_ble_eq_true rfl) (Nat.zero_le _) (Nat.zero_le _) dX3_isWithinRatio_21 (fun r_3 u H locs hw hP hD hS => ?_)
      refine lv_lmul hx hb dX3_isWithinRatio_24 ?_
      refine lv_aload_n hx hb dX3_isWithinRatio_25 rfl (lv_at hl 1 rfl) ?_
      refine k_get hx hb hts uX3_isWithinRatio_X3 hown hK hP 0 3 rfl rfl 1 (by decide) fX3_isWithinRatio_17 (.int wb) rfl dX3_isWithinRatio_26 ?_
      refine lv_i2l (v := wb.toInt64) hx hb dX3_isWithinRatio_29 rfl ?_
      refine lv_aload_n hx hb dX3_isWithinRatio_30 rfl (lv_at hl 1 rfl) ?_
      refine lv_iload_n hx hb dX3_isWithinRatio_31 rfl (lv_at hl 3 rfl) ?_
      refine lv_iload_n hx hb dX3_isWithinRatio_32 rfl (lv_at hl 0 rfl) ?_
      refine k_Vl (M_X3_weightOf l G cI cJ Aw wa wb wlo whi wtot p1 i3_1 _ hw) ⟨hx, hb, hml, hown, hts⟩ (cwV 2 hts gX3_isWithinRatio_X3_weightOf rfl rfl rfl (by decide +kernel) ⟨Nat.le_of_ble_eq_true rfl, Nat.le_of_ble_eq_true rfl⟩) hK hP hD hS hA [0] [] [0] (wr := []) (wn := fun u : Unit => (wX3 cI cJ Aw wa wb wlo whi wtot)) rfl rfl (by decide) (by decide) (by decide) (by decide) (fun _ => rfl) (rest := [.long wb.toInt64, .long (wa.toInt64 * r_3)]) (q0 := 0) rfl rfl rfl hl.1 rfl (Nat.le_of_ble_eq_true rfl) (Nat.zero_le _) (Nat.zero_le _) dX3_isWithinRatio_33 (fun r_4 u H locs hw hP hD hS => ?_)
      refine lv_lmul hx hb dX3_isWithinRatio_36 ?_
      refine k_lif_le (tgt := 43) hx hb dX3_isWithinRatio_37 dX3_isWithinRatio_38 (by decide) (fun c_6 => ?_) (fun c_6 => ?_)
      · have hw := hw.1 c_6
        obtain ⟨i3_5, ei3_5⟩ : ∃ y : Int32, y = i3_1 + 1 := ⟨_, rfl⟩
        have hw := hw i3_5 ei3_5
        refine lv_iinc (v := i3_5) (lv' := [(3, .int i3_5), (0, .ref Aw), (1, .int p0), (2, .int p1)]) hx hb dX3_isWithinRatio_43 hl (k := 0) rfl (by rw [ei3_5]; rfl) (by decide) rfl (fun ls hl => ?_)
        refine lv_goto (tgt := 5) hx hb dX3_isWithinRatio_46 (by decide) ?_
        exact ihI5_2 _ (by rw [← hNI5_2]; exact hw.2) i3_5 rfl hw.1 _ _ _ hP hD hS (lv_sub hl [0, 1, 2, 3] rfl)
      · have hw := hw.2 c_6
        refine lv_iconst (v := 0) hx hb dX3_isWithinRatio_41 (by decide) ?_
        exact hret _ () _ _ _ _ (Or.inl rfl) hw hP hD hS dX3_isWithinRatio_42
