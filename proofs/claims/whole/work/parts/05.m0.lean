/-! Fraction and Series: predicates and walks (laid by wip/whole/gen.py) -/
def w0 (cI cJ : ClassId) : va_W := []
def wX0 (cI cJ : ClassId) (Ak Aku Bku Akd Bkd : Nat) (lku : Nat → Int32) (nku : Int32) (lkd : Nat → Int32) (nkd : Int32) : va_W := [(Ak, .inr (0, [.ref Aku, .ref Akd])), (Aku, .inr (1, [.ref Bku, .int nku])), (Bku, .inl (cI, 64, .inl lku)), (Akd, .inr (1, [.ref Bkd, .int nkd])), (Bkd, .inl (cI, 64, .inl lkd))]
def wX2X3 (cI cJ : ClassId) (As Asm Bsm Ast Bst Aw : Nat) (lsm : Nat → Int32) (nsm : Int32) (lst : Nat → Int32) (nst : Int32) (wa : Int32) (wb : Int32) (wlo : Int32) (whi : Int32) (wtot : Int64) : va_W := [(As, .inr (2, [.ref Asm, .ref Ast])), (Asm, .inr (1, [.ref Bsm, .int nsm])), (Bsm, .inl (cI, 64, .inl lsm)), (Ast, .inr (1, [.ref Bst, .int nst])), (Bst, .inl (cI, 64, .inl lst)), (Aw, .inr (3, [.int wa, .int wb, .int wlo, .int whi, .long wtot]))]
abbrev rm_X0_commonDivisor : Room := { frames := 0, cells := 0, slots := 0, locals := 0 }
abbrev rm_X0_become : Room := { frames := 3, cells := 0, slots := 0, locals := 65 }
abbrev rm_X0_quotient : Room := { frames := 0, cells := 0, slots := 0, locals := 0 }
abbrev rm_X0_change : Room := { frames := 3, cells := 0, slots := 0, locals := 67 }
abbrev rm_X0_increase : Room := { frames := 4, cells := 0, slots := 0, locals := 95 }
abbrev rm_X0_decrease : Room := { frames := 4, cells := 0, slots := 0, locals := 95 }
abbrev rm_X0_isLessThan : Room := { frames := 2, cells := 0, slots := 0, locals := 48 }
abbrev rm_X2_reaches : Room := { frames := 3, cells := 0, slots := 0, locals := 67 }
def w_X0_commonDivisor (p0 : Int32) (p1 : Int32) (Q : Int32 → Prop) : Prop :=
  ∃ (I7_4 : Int32 → Int32 → Int32 → Prop) (μ7_4 : Int32 → Int32 → Int32 → Nat), I7_4 (0 : Int32) p1 p0 ∧ ∀ (i4_1 : Int32) (i3_2 : Int32) (i2_3 : Int32), I7_4 i4_1 i3_2 i2_3 →
    ((64 ≤ i4_1 →
      Q i2_3
     ) ∧ (¬ 64 ≤ i4_1 →
      ((i3_2 ≤ 0 →
        Q i2_3
       ) ∧ (¬ i3_2 ≤ 0 →
        ¬ i3_2 = 0 ∧
        ∀ (v_5 : Int32), v_5 = i2_3 - i2_3 / i3_2 * i3_2 →
        ∀ (i4_6 : Int32), i4_6 = i4_1 + 1 →
        I7_4 i4_6 v_5 i3_2 ∧ μ7_4 i4_6 v_5 i3_2 < μ7_4 i4_1 i3_2 i2_3
       ))
     ))

def w_X0_become (lku : Nat → Int32) (nku : Int32) (lkd : Nat → Int32) (nkd : Int32) (p0 : Int32) (p1 : Int32) (Q : (Nat → Int32) → Int32 → (Nat → Int32) → Int32 → Prop) : Prop :=
  w_X0_commonDivisor p0 p1 (fun (r_1 : Int32) =>
  w_X1_become lku nku p0 (fun (lku_2 : Nat → Int32) (nku_3 : Int32) =>
  w_X1_divideBy lku_2 nku_3 r_1 (fun (lku_4 : Nat → Int32) (nku_5 : Int32) =>
  w_X1_become lkd nkd p1 (fun (lkd_6 : Nat → Int32) (nkd_7 : Int32) =>
  w_X1_divideBy lkd_6 nkd_7 r_1 (fun (lkd_8 : Nat → Int32) (nkd_9 : Int32) =>
  Q lku_4 nku_5 lkd_8 nkd_9)))))

def w_X0_quotient (p0 : Int32) (p1 : Int32) (Q : Int32 → Prop) : Prop :=
  ((1 ≤ p1 →
    ¬ p1 = 0 ∧
    ∀ (v_1 : Int32), v_1 = p0 / p1 →
    Q v_1
   ) ∧ (¬ 1 ≤ p1 →
    Q p0
   ))

def w_X0_change (lku : Nat → Int32) (nku : Int32) (lkd : Nat → Int32) (nkd : Int32) (p0 : Int32) (p1 : Int32) (p2 : Int32) (Q : (Nat → Int32) → Int32 → (Nat → Int32) → Int32 → Prop) : Prop :=
  w_X0_commonDivisor p0 p1 (fun (r_1 : Int32) =>
  w_X0_quotient p0 r_1 (fun (r_2 : Int32) =>
  w_X0_quotient p1 r_1 (fun (r_3 : Int32) =>
  w_X1_restBy lkd nkd r_3 (fun (r_4 : Int32) =>
  w_X0_commonDivisor r_4 r_3 (fun (r_5 : Int32) =>
  w_X1_divideBy lkd nkd r_5 (fun (lkd_6 : Nat → Int32) (nkd_7 : Int32) =>
  w_X0_quotient r_3 r_5 (fun (r_8 : Int32) =>
  w_X1_times lku nku r_8 (fun (lku_9 : Nat → Int32) (nku_10 : Int32) =>
  w_X1_plusTimes lku_9 nku_10 lkd_6 nkd_7 (p2 * r_2) (fun (lku_11 : Nat → Int32) (nku_12 : Int32) =>
  w_X1_restBy lku_11 nku_12 r_5 (fun (r_13 : Int32) =>
  w_X0_commonDivisor r_13 r_5 (fun (r_14 : Int32) =>
  w_X1_divideBy lku_11 nku_12 r_14 (fun (lku_15 : Nat → Int32) (nku_16 : Int32) =>
  w_X0_quotient r_3 r_14 (fun (r_17 : Int32) =>
  w_X1_times lkd_6 nkd_7 r_17 (fun (lkd_18 : Nat → Int32) (nkd_19 : Int32) =>
  Q lku_15 nku_16 lkd_18 nkd_19))))))))))))))

def w_X0_increase (lku : Nat → Int32) (nku : Int32) (lkd : Nat → Int32) (nkd : Int32) (p0 : Int32) (p1 : Int32) (Q : (Nat → Int32) → Int32 → (Nat → Int32) → Int32 → Prop) : Prop :=
  w_X0_change lku nku lkd nkd p0 p1 (1 : Int32) (fun (lku_1 : Nat → Int32) (nku_2 : Int32) (lkd_3 : Nat → Int32) (nkd_4 : Int32) =>
  Q lku_1 nku_2 lkd_3 nkd_4)

def w_X0_decrease (lku : Nat → Int32) (nku : Int32) (lkd : Nat → Int32) (nkd : Int32) (p0 : Int32) (p1 : Int32) (Q : (Nat → Int32) → Int32 → (Nat → Int32) → Int32 → Prop) : Prop :=
  w_X0_change lku nku lkd nkd p0 p1 ((-1) : Int32) (fun (lku_1 : Nat → Int32) (nku_2 : Int32) (lkd_3 : Nat → Int32) (nkd_4 : Int32) =>
  Q lku_1 nku_2 lkd_3 nkd_4)

def w_X0_isLessThan (lku : Nat → Int32) (nku : Int32) (lkd : Nat → Int32) (nkd : Int32) (p0 : Int32) (p1 : Int32) (Q : Int32 → Prop) : Prop :=
  w_X1_isLess lku nku lkd nkd p1 p0 (fun (r_1 : Int32) =>
  Q r_1)

def w_X2_reaches (lsm : Nat → Int32) (nsm : Int32) (lst : Nat → Int32) (nst : Int32) (wa : Int32) (wb : Int32) (p1 : Int32) (p2 : Int32) (Q : Int32 → (Nat → Int32) → Int32 → (Nat → Int32) → Int32 → Prop) : Prop :=
  w_X1_become lsm nsm (wb - wa) (fun (lsm_1 : Nat → Int32) (nsm_2 : Int32) =>
  w_X1_become lst nst wa (fun (lst_3 : Nat → Int32) (nst_4 : Int32) =>
  ∃ (I30_10 : Int32 → (Nat → Int32) → Int32 → (Nat → Int32) → Int32 → Prop) (μ30_10 : Int32 → (Nat → Int32) → Int32 → (Nat → Int32) → Int32 → Nat), I30_10 (1 : Int32) lsm_1 nsm_2 lst_3 nst_4 ∧ ∀ (i4_5 : Int32) (lsm_6 : Nat → Int32) (nsm_7 : Int32) (lst_8 : Nat → Int32) (nst_9 : Int32), I30_10 i4_5 lsm_6 nsm_7 lst_8 nst_9 →
    ((60 < i4_5 →
      Q (0 : Int32) lsm_6 nsm_7 lst_8 nst_9
     ) ∧ (¬ 60 < i4_5 →
      w_X1_times lsm_6 nsm_7 (p2 * i4_5) (fun (lsm_11 : Nat → Int32) (nsm_12 : Int32) =>
      w_X1_times lst_8 nst_9 p1 (fun (lst_13 : Nat → Int32) (nst_14 : Int32) =>
      w_X1_isLess lst_13 nst_14 lsm_11 nsm_12 (1 : Int32) (1 : Int32) (fun (r_15 : Int32) =>
      ((¬ r_15 = 0 →
        w_X1_plusTimes lsm_11 nsm_12 lst_13 nst_14 ((-1) : Int32) (fun (lsm_16 : Nat → Int32) (nsm_17 : Int32) =>
        ∀ (v_18 : Int32), v_18 = (i4_5 + 1) * p2 →
        ∃ (J103_20 : Int32 → Prop), (
          ((v_18 < (2 * p1) →
            J103_20 0
           ) ∧ (¬ v_18 < (2 * p1) →
            J103_20 1
           ))
         ) ∧ (∀ (t_19 : Int32), J103_20 t_19 →
          ((t_19 = 0 →
            ∀ (i4_22 : Int32), i4_22 = i4_5 + 1 →
            I30_10 i4_22 lsm_16 nsm_17 lst_13 nst_14 ∧ μ30_10 i4_22 lsm_16 nsm_17 lst_13 nst_14 < μ30_10 i4_5 lsm_6 nsm_7 lst_8 nst_9
           ) ∧ (¬ t_19 = 0 →
            w_X1_isLess lsm_16 nsm_17 lst_13 nst_14 (1 : Int32) (1 : Int32) (fun (r_23 : Int32) =>
            ((¬ r_23 = 0 →
              ∀ (i4_24 : Int32), i4_24 = i4_5 + 1 →
              I30_10 i4_24 lsm_16 nsm_17 lst_13 nst_14 ∧ μ30_10 i4_24 lsm_16 nsm_17 lst_13 nst_14 < μ30_10 i4_5 lsm_6 nsm_7 lst_8 nst_9
             ) ∧ (r_23 = 0 →
              Q (0 : Int32) lsm_16 nsm_17 lst_13 nst_14
             )))
           ))
         ))
       ) ∧ (r_15 = 0 →
        Q (1 : Int32) lsm_11 nsm_12 lst_13 nst_14
       )))))
     ))))

set_option maxHeartbeats 4000000 in
set_option maxRecDepth 100000 in
theorem M_X0_commonDivisor (l : Launch) (G : va_G) (cI cJ : ClassId) (p0 : Int32) (p1 : Int32) (Q : Int32 → Prop) (hw : w_X0_commonDivisor p0 p1 Q) : Ki l yX0_commonDivisor wsX0_commonDivisor rm_X0_commonDivisor G cI cJ [.int p0, .int p1] (w0 cI cJ) (fun (r : Int32) (u : Unit) => Q r) (fun u => (w0 cI cJ)) := by
  refine ki_intro (cc := cX0_commonDivisor) (maxL := 6) rfl rfl (by decide) rfl (Nat.le_of_ble_eq_true rfl) ?_
  intro p e s m args below meth c A Z ls hx hb hml hts hown hP hK hD hS hA hl hret
  have hl : lv_has ls 6 [(0, .int p0), (1, .int p1)] := hl
  unfold w_X0_commonDivisor at hw
  refine lv_iload_n hx hb dX0_commonDivisor_0 rfl (lv_at hl 0 rfl) ?_
  refine lv_istore_n (lv' := [(2, .int p0), (0, .int p0), (1, .int p1)]) hx hb dX0_commonDivisor_1 rfl hl (by decide) rfl (fun ls hl => ?_)
  refine lv_iload_n hx hb dX0_commonDivisor_2 rfl (lv_at hl 2 rfl) ?_
  refine lv_istore_n (lv' := [(3, .int p1), (2, .int p0), (0, .int p0), (1, .int p1)]) hx hb dX0_commonDivisor_3 rfl hl (by decide) rfl (fun ls hl => ?_)
  refine lv_iconst (v := 0) hx hb dX0_commonDivisor_4 (by decide) ?_
  refine lv_istore (lv' := [(4, .int 0), (3, .int p1), (2, .int p0), (0, .int p0), (1, .int p1)]) hx hb dX0_commonDivisor_5 hl (by decide) rfl (fun ls hl => ?_)
  obtain ⟨I7_4, μ7_4, hi, hw⟩ := hw
  suffices hLI7_4 : ∀ (N : Nat) (i4_1 : Int32) (i3_2 : Int32) (i2_3 : Int32) (_ : μ7_4 i4_1 i3_2 i2_3 = N) (_ : I7_4 i4_1 i3_2 i2_3) (H : Heap) (locs : List Loc) (ls : Array Slot), va_P G vwCl (w0 cI cJ) H → va_D A (w0 cI cJ) → va_S A s.heap H locs → lv_has ls 6 [(4, .int i4_1), (3, .int i3_2), (2, .int i2_3)] → W p l e rm_X0_commonDivisor s m args below meth c H locs 0 0 Z (F0 m 7 ls []) from
    hLI7_4 _ (0 : Int32) p1 p0 rfl hi _ _ _ hP hD hS (lv_sub hl [0, 1, 2] rfl)
  clear hi hP hD hS hl
  intro N
  induction N using Nat.strongRecOn with
  | ind N ihI7_4 =>
    intro i4_1 i3_2 i2_3 hNI7_4 hi H locs ls hP hD hS hl
    have hw := hw i4_1 i3_2 i2_3 hi
    refine lv_iload hx hb dX0_commonDivisor_7 (lv_at hl 0 rfl) ?_
    refine lv_bipush (v := 64) hx hb dX0_commonDivisor_9 (by decide) ?_
    refine lv_icmp_ge (tgt := 34) hx hb dX0_commonDivisor_11 (by decide) (fun c_8 => ?_) (fun c_8 => ?_)
    · have hw := hw.1 c_8
      refine lv_iload_n hx hb dX0_commonDivisor_34 rfl (lv_at hl 2 rfl) ?_
      exact hret _ () _ _ _ _ hw hP hD hS dX0_commonDivisor_35
    · have hw := hw.2 c_8
      refine lv_iload_n hx hb dX0_commonDivisor_14 rfl (lv_at hl 1 rfl) ?_
      refine lv_if_le (tgt := 34) hx hb dX0_commonDivisor_15 (by decide) (fun c_7 => ?_) (fun c_7 => ?_)
      · have hw := hw.1 c_7
        refine lv_iload_n hx hb dX0_commonDivisor_34 rfl (lv_at hl 2 rfl) ?_
        exact hret _ () _ _ _ _ hw hP hD hS dX0_commonDivisor_35
      · have hw := hw.2 c_7
        refine lv_iload_n hx hb dX0_commonDivisor_18 rfl (lv_at hl 2 rfl) ?_
        refine lv_iload_n hx hb dX0_commonDivisor_19 rfl (lv_at hl 1 rfl) ?_
        obtain ⟨hne, hw⟩ := hw
        refine lv_irem hx hb dX0_commonDivisor_20 hne ?_
        refine lv_topi (fun v_5 ev_5 => ?_)
        have hw := hw v_5 ev_5
        refine lv_istore (lv' := [(5, .int v_5), (4, .int i4_1), (3, .int i3_2), (2, .int i2_3)]) hx hb dX0_commonDivisor_21 hl (by decide) rfl (fun ls hl => ?_)
        refine lv_iload_n hx hb dX0_commonDivisor_23 rfl (lv_at hl 2 rfl) ?_
        refine lv_istore_n (lv' := [(2, .int i3_2), (5, .int v_5), (4, .int i4_1), (3, .int i3_2)]) hx hb dX0_commonDivisor_24 rfl hl (by decide) rfl (fun ls hl => ?_)
        refine lv_iload hx hb dX0_commonDivisor_25 (lv_at hl 1 rfl) ?_
        refine lv_istore_n (lv' := [(3, .int v_5), (2, .int i3_2), (5, .int v_5), (4, .int i4_1)]) hx hb dX0_commonDivisor_27 rfl hl (by decide) rfl (fun ls hl => ?_)
        obtain ⟨i4_6, ei4_6⟩ : ∃ y : Int32, y = i4_1 + 1 := ⟨_, rfl⟩
        have hw := hw i4_6 ei4_6
        refine lv_iinc (v := i4_6) (lv' := [(4, .int i4_6), (3, .int v_5), (2, .int i3_2), (5, .int v_5)]) hx hb dX0_commonDivisor_28 hl (k := 3) rfl (by rw [ei4_6]; rfl) (by decide) rfl (fun ls hl => ?_)
        refine lv_goto (tgt := 7) hx hb dX0_commonDivisor_31 (by decide) ?_
        exact ihI7_4 _ (by rw [← hNI7_4]; exact hw.2) i4_6 v_5 i3_2 rfl hw.1 _ _ _ hP hD hS (lv_sub hl [0, 1, 2] rfl)
theorem fX0_become_10 : Cond.fieldLink RX0 10 "PrivateCounts$Fraction" "numerator" "LPrivateCounts$Natural;" ∈ wsX0_become := by decide +kernel
theorem uX0_become_X0 : ∀ w ∈ u_ws RX0 TX0 2, w ∈ wsX0_become := by decide +kernel
theorem fX0_become_16 : Cond.fieldLink RX0 16 "PrivateCounts$Fraction" "denominator" "LPrivateCounts$Natural;" ∈ wsX0_become := by decide +kernel
set_option maxHeartbeats 4000000 in
set_option maxRecDepth 100000 in
theorem M_X0_become (l : Launch) (G : va_G) (cI cJ : ClassId) (Ak Aku Bku Akd Bkd : Nat) (lku : Nat → Int32) (nku : Int32) (lkd : Nat → Int32) (nkd : Int32) (p0 : Int32) (p1 : Int32) (Q : (Nat → Int32) → Int32 → (Nat → Int32) → Int32 → Prop) (hw : w_X0_become lku nku lkd nkd p0 p1 Q) : Kv l yX0_become wsX0_become rm_X0_become G cI cJ [.ref Ak, .int p0, .int p1] (wX0 cI cJ Ak Aku Bku Akd Bkd lku nku lkd nkd) (fun (u : (Nat → Int32) × (Int32) × (Nat → Int32) × (Int32)) => Q u.1 u.2.1 u.2.2.1 u.2.2.2) (fun u => (wX0 cI cJ Ak Aku Bku Akd Bkd u.1 u.2.1 u.2.2.1 u.2.2.2)) := by
  refine kv_intro (cc := cX0_become) (maxL := 4) rfl rfl (by decide) rfl (Nat.le_of_ble_eq_true rfl) ?_
  intro p e s m args below meth c A Z ls hx hb hml hts hown hP hK hD hS hA hl hret
  have hl : lv_has ls 4 [(0, .ref Ak), (1, .int p0), (2, .int p1)] := hl
  unfold w_X0_become at hw
  refine lv_iload_n hx hb dX0_become_0 rfl (lv_at hl 1 rfl) ?_
  refine lv_iload_n hx hb dX0_become_1 rfl (lv_at hl 2 rfl) ?_
  refine k_Si (M_X0_commonDivisor l G cI cJ p0 p1 _ hw) ⟨hx, hb, hml, hown, hts⟩ (va_cwS 2 hts gX0_become_X0_commonDivisor rfl rfl rfl (by decide +kernel) ⟨Nat.le_of_ble_eq_true rfl, Nat.le_of_ble_eq_true rfl⟩) hK hP hD hS hA [] [0, 1, 2, 3, 4] [0, 1, 2, 3, 4] (wr := [(Ak, .inr (0, [.ref Aku, .ref Akd])), (Aku, .inr (1, [.ref Bku, .int nku])), (Bku, .inl (cI, 64, .inl lku)), (Akd, .inr (1, [.ref Bkd, .int nkd])), (Bkd, .inl (cI, 64, .inl lkd))]) (wn := fun u : Unit => (wX0 cI cJ Ak Aku Bku Akd Bkd lku nku lkd nkd)) rfl rfl (by decide) (by decide) (by decide) (by decide) (fun _ => rfl) (rest := []) rfl hl.1 rfl (Nat.le_of_ble_eq_true rfl) (Nat.zero_le _) (Nat.zero_le _) dX0_become_2 (fun r_1 u H locs hw hP hD hS => ?_)
  refine lv_istore_n (lv' := [(3, .int r_1), (0, .ref Ak), (1, .int p0), (2, .int p1)]) hx hb dX0_become_5 rfl hl (by decide) rfl (fun ls hl => ?_)
  refine lv_aload_n hx hb dX0_become_6 rfl (lv_at hl 1 rfl) ?_
  refine k_get hx hb hts uX0_become_X0 hown hK hP 0 0 rfl rfl 0 (by decide) fX0_become_10 (.ref Aku) rfl dX0_become_7 ?_
  refine lv_iload_n hx hb dX0_become_10 rfl (lv_at hl 2 rfl) ?_
  refine k_Vv (M_X1_become l G cI cJ Aku Bku lku nku p0 _ hw) ⟨hx, hb, hml, hown, hts⟩ (cwV 1 hts gX0_become_X1_become rfl rfl rfl (by decide +kernel) ⟨Nat.le_of_ble_eq_true rfl, Nat.le_of_ble_eq_true rfl⟩) hK hP hD hS hA [1, 2] [0, 3, 4] [0, 3, 4, 1, 2] (wr := [(Ak, .inr (0, [.ref Aku, .ref Akd])), (Akd, .inr (1, [.ref Bkd, .int nkd])), (Bkd, .inl (cI, 64, .inl lkd))]) (wn := fun u : (Nat → Int32) × (Int32) => (wX0 cI cJ Ak Aku Bku Akd Bkd u.1 u.2 lkd nkd)) rfl rfl (by decide) (by decide) (by decide) (by decide) (fun _ => rfl) (rest := []) (q0 := 0) rfl rfl rfl hl.1 rfl (Nat.le_of_ble_eq_true rfl) (Nat.zero_le _) (Nat.zero_le _) dX0_become_11 (fun u H locs hw hP hD hS => ?_)
  obtain ⟨lku_2, nku_3⟩ := u
  have hP : va_P G vwCl (wX0 cI cJ Ak Aku Bku Akd Bkd lku_2 nku_3 lkd nkd) H := hP
  have hD : va_D A (wX0 cI cJ Ak Aku Bku Akd Bkd lku_2 nku_3 lkd nkd) := hD
  refine lv_aload_n hx hb dX0_become_14 rfl (lv_at hl 1 rfl) ?_
  refine k_get hx hb hts uX0_become_X0 hown hK hP 0 0 rfl rfl 0 (by decide) fX0_become_10 (.ref Aku) rfl dX0_become_15 ?_
  refine lv_iload_n hx hb dX0_become_18 rfl (lv_at hl 0 rfl) ?_
  refine k_Vv (M_X1_divideBy l G cI cJ Aku Bku lku_2 nku_3 r_1 _ hw) ⟨hx, hb, hml, hown, hts⟩ (cwV 1 hts gX0_become_X1_divideBy rfl rfl rfl (by decide +kernel) ⟨Nat.le_of_ble_eq_true rfl, Nat.le_of_ble_eq_true rfl⟩) hK hP hD hS hA [1, 2] [0, 3, 4] [0, 3, 4, 1, 2] (wr := [(Ak, .inr (0, [.ref Aku, .ref Akd])), (Akd, .inr (1, [.ref Bkd, .int nkd])), (Bkd, .inl (cI, 64, .inl lkd))]) (wn := fun u : (Nat → Int32) × (Int32) => (wX0 cI cJ Ak Aku Bku Akd Bkd u.1 u.2 lkd nkd)) rfl rfl (by decide) (by decide) (by decide) (by decide) (fun _ => rfl) (rest := []) (q0 := 0) rfl rfl rfl hl.1 rfl (Nat.le_of_ble_eq_true rfl) (Nat.zero_le _) (Nat.zero_le _) dX0_become_19 (fun u H locs hw hP hD hS => ?_)
  obtain ⟨lku_4, nku_5⟩ := u
  have hP : va_P G vwCl (wX0 cI cJ Ak Aku Bku Akd Bkd lku_4 nku_5 lkd nkd) H := hP
  have hD : va_D A (wX0 cI cJ Ak Aku Bku Akd Bkd lku_4 nku_5 lkd nkd) := hD
  refine lv_aload_n hx hb dX0_become_22 rfl (lv_at hl 1 rfl) ?_
  refine k_get hx hb hts uX0_become_X0 hown hK hP 0 0 rfl rfl 1 (by decide) fX0_become_16 (.ref Akd) rfl dX0_become_23 ?_
  refine lv_iload_n hx hb dX0_become_26 rfl (lv_at hl 3 rfl) ?_
  refine k_Vv (M_X1_become l G cI cJ Akd Bkd lkd nkd p1 _ hw) ⟨hx, hb, hml, hown, hts⟩ (cwV 1 hts gX0_become_X1_become rfl rfl rfl (by decide +kernel) ⟨Nat.le_of_ble_eq_true rfl, Nat.le_of_ble_eq_true rfl⟩) hK hP hD hS hA [3, 4] [0, 1, 2] [0, 1, 2, 3, 4] (wr := [(Ak, .inr (0, [.ref Aku, .ref Akd])), (Aku, .inr (1, [.ref Bku, .int nku_5])), (Bku, .inl (cI, 64, .inl lku_4))]) (wn := fun u : (Nat → Int32) × (Int32) => (wX0 cI cJ Ak Aku Bku Akd Bkd lku_4 nku_5 u.1 u.2)) rfl rfl (by decide) (by decide) (by decide) (by decide) (fun _ => rfl) (rest := []) (q0 := 0) rfl rfl rfl hl.1 rfl (Nat.le_of_ble_eq_true rfl) (Nat.zero_le _) (Nat.zero_le _) dX0_become_27 (fun u H locs hw hP hD hS => ?_)
  obtain ⟨lkd_6, nkd_7⟩ := u
  have hP : va_P G vwCl (wX0 cI cJ Ak Aku Bku Akd Bkd lku_4 nku_5 lkd_6 nkd_7) H := hP
  have hD : va_D A (wX0 cI cJ Ak Aku Bku Akd Bkd lku_4 nku_5 lkd_6 nkd_7) := hD
  refine lv_aload_n hx hb dX0_become_30 rfl (lv_at hl 1 rfl) ?_
  refine k_get hx hb hts uX0_become_X0 hown hK hP 0 0 rfl rfl 1 (by decide) fX0_become_16 (.ref Akd) rfl dX0_become_31 ?_
  refine lv_iload_n hx hb dX0_become_34 rfl (lv_at hl 0 rfl) ?_
  refine k_Vv (M_X1_divideBy l G cI cJ Akd Bkd lkd_6 nkd_7 r_1 _ hw) ⟨hx, hb, hml, hown, hts⟩ (cwV 1 hts gX0_become_X1_divideBy rfl rfl rfl (by decide +kernel) ⟨Nat.le_of_ble_eq_true rfl, Nat.le_of_ble_eq_true rfl⟩) hK hP hD hS hA [3, 4] [0, 1, 2] [0, 1, 2, 3, 4] (wr := [(Ak, .inr (0, [.ref Aku, .ref Akd])), (Aku, .inr (1, [.ref Bku, .int nku_5])), (Bku, .inl (cI, 64, .inl lku_4))]) (wn := fun u : (Nat → Int32) × (Int32) => (wX0 cI cJ Ak Aku Bku Akd Bkd lku_4 nku_5 u.1 u.2)) rfl rfl (by decide) (by decide) (by decide) (by decide) (fun _ => rfl) (rest := []) (q0 := 0) rfl rfl rfl hl.1 rfl (Nat.le_of_ble_eq_true rfl) (Nat.zero_le _) (Nat.zero_le _) dX0_become_35 (fun u H locs hw hP hD hS => ?_)
  obtain ⟨lkd_8, nkd_9⟩ := u
  have hP : va_P G vwCl (wX0 cI cJ Ak Aku Bku Akd Bkd lku_4 nku_5 lkd_8 nkd_9) H := hP
  have hD : va_D A (wX0 cI cJ Ak Aku Bku Akd Bkd lku_4 nku_5 lkd_8 nkd_9) := hD
  exact hret (lku_4, nku_5, lkd_8, nkd_9) _ _ _ _ hw hP hD hS dX0_become_38
set_option maxHeartbeats 4000000 in
set_option maxRecDepth 100000 in
theorem M_X0_quotient (l : Launch) (G : va_G) (cI cJ : ClassId) (p0 : Int32) (p1 : Int32) (Q : Int32 → Prop) (hw : w_X0_quotient p0 p1 Q) : Ki l yX0_quotient wsX0_quotient rm_X0_quotient G cI cJ [.int p0, .int p1] (w0 cI cJ) (fun (r : Int32) (u : Unit) => Q r) (fun u => (w0 cI cJ)) := by
  refine ki_intro (cc := cX0_quotient) (maxL := 2) rfl rfl (by decide) rfl (Nat.le_of_ble_eq_true rfl) ?_
  intro p e s m args below meth c A Z ls hx hb hml hts hown hP hK hD hS hA hl hret
  have hl : lv_has ls 2 [(0, .int p0), (1, .int p1)] := hl
  unfold w_X0_quotient at hw
  refine lv_iload_n hx hb dX0_quotient_0 rfl (lv_at hl 1 rfl) ?_
  refine lv_iconst (v := 1) hx hb dX0_quotient_1 (by decide) ?_
  refine lv_icmp_ge (tgt := 9) hx hb dX0_quotient_2 (by decide) (fun c_2 => ?_) (fun c_2 => ?_)
  · have hw := hw.1 c_2
    refine lv_iload_n hx hb dX0_quotient_9 rfl (lv_at hl 0 rfl) ?_
    refine lv_iload_n hx hb dX0_quotient_10 rfl (lv_at hl 1 rfl) ?_
    obtain ⟨hne, hw⟩ := hw
    refine lv_idiv hx hb dX0_quotient_11 hne ?_
    refine lv_topi (fun v_1 ev_1 => ?_)
    have hw := hw v_1 ev_1
    exact hret _ () _ _ _ _ hw hP hD hS dX0_quotient_12
  · have hw := hw.2 c_2
    refine lv_iload_n hx hb dX0_quotient_5 rfl (lv_at hl 0 rfl) ?_
    refine lv_goto (tgt := 12) hx hb dX0_quotient_6 (by decide) ?_
    exact hret _ () _ _ _ _ hw hP hD hS dX0_quotient_12
theorem fX0_change_16 : Cond.fieldLink RX0 16 "PrivateCounts$Fraction" "denominator" "LPrivateCounts$Natural;" ∈ wsX0_change := by decide +kernel
theorem uX0_change_X0 : ∀ w ∈ u_ws RX0 TX0 2, w ∈ wsX0_change := by decide +kernel
theorem fX0_change_10 : Cond.fieldLink RX0 10 "PrivateCounts$Fraction" "numerator" "LPrivateCounts$Natural;" ∈ wsX0_change := by decide +kernel
set_option maxHeartbeats 4000000 in
set_option maxRecDepth 100000 in
theorem M_X0_change (l : Launch) (G : va_G) (cI cJ : ClassId) (Ak Aku Bku Akd Bkd : Nat) (lku : Nat → Int32) (nku : Int32) (lkd : Nat → Int32) (nkd : Int32) (p0 : Int32) (p1 : Int32) (p2 : Int32) (Q : (Nat → Int32) → Int32 → (Nat → Int32) → Int32 → Prop) (hw : w_X0_change lku nku lkd nkd p0 p1 p2 Q) : Kv l yX0_change wsX0_change rm_X0_change G cI cJ [.ref Ak, .int p0, .int p1, .int p2] (wX0 cI cJ Ak Aku Bku Akd Bkd lku nku lkd nkd) (fun (u : (Nat → Int32) × (Int32) × (Nat → Int32) × (Int32)) => Q u.1 u.2.1 u.2.2.1 u.2.2.2) (fun u => (wX0 cI cJ Ak Aku Bku Akd Bkd u.1 u.2.1 u.2.2.1 u.2.2.2)) := by
  refine kv_intro (cc := cX0_change) (maxL := 9) rfl rfl (by decide) rfl (Nat.le_of_ble_eq_true rfl) ?_
  intro p e s m args below meth c A Z ls hx hb hml hts hown hP hK hD hS hA hl hret
  have hl : lv_has ls 9 [(0, .ref Ak), (1, .int p0), (2, .int p1), (3, .int p2)] := hl
  unfold w_X0_change at hw
  refine lv_iload_n hx hb dX0_change_0 rfl (lv_at hl 1 rfl) ?_
  refine lv_iload_n hx hb dX0_change_1 rfl (lv_at hl 2 rfl) ?_
  refine k_Si (M_X0_commonDivisor l G cI cJ p0 p1 _ hw) ⟨hx, hb, hml, hown, hts⟩ (va_cwS 2 hts gX0_change_X0_commonDivisor rfl rfl rfl (by decide +kernel) ⟨Nat.le_of_ble_eq_true rfl, Nat.le_of_ble_eq_true rfl⟩) hK hP hD hS hA [] [0, 1, 2, 3, 4] [0, 1, 2, 3, 4] (wr := [(Ak, .inr (0, [.ref Aku, .ref Akd])), (Aku, .inr (1, [.ref Bku, .int nku])), (Bku, .inl (cI, 64, .inl lku)), (Akd, .inr (1, [.ref Bkd, .int nkd])), (Bkd, .inl (cI, 64, .inl lkd))]) (wn := fun u : Unit => (wX0 cI cJ Ak Aku Bku Akd Bkd lku nku lkd nkd)) rfl rfl (by decide) (by decide) (by decide) (by decide) (fun _ => rfl) (rest := []) rfl hl.1 rfl (Nat.le_of_ble_eq_true rfl) (Nat.zero_le _) (Nat.zero_le _) dX0_change_2 (fun r_1 u H locs hw hP hD hS => ?_)
  refine lv_istore (lv' := [(4, .int r_1), (0, .ref Ak), (1, .int p0), (2, .int p1), (3, .int p2)]) hx hb dX0_change_5 hl (by decide) rfl (fun ls hl => ?_)
  refine lv_iload_n hx hb dX0_change_7 rfl (lv_at hl 2 rfl) ?_
  refine lv_iload hx hb dX0_change_8 (lv_at hl 0 rfl) ?_
  refine k_Si (M_X0_quotient l G cI cJ p0 r_1 _ hw) ⟨hx, hb, hml, hown, hts⟩ (va_cwS 2 hts gX0_change_X0_quotient rfl rfl rfl (by decide +kernel) ⟨Nat.le_of_ble_eq_true rfl, Nat.le_of_ble_eq_true rfl⟩) hK hP hD hS hA [] [0, 1, 2, 3, 4] [0, 1, 2, 3, 4] (wr := [(Ak, .inr (0, [.ref Aku, .ref Akd])), (Aku, .inr (1, [.ref Bku, .int nku])), (Bku, .inl (cI, 64, .inl lku)), (Akd, .inr (1, [.ref Bkd, .int nkd])), (Bkd, .inl (cI, 64, .inl lkd))]) (wn := fun u : Unit => (wX0 cI cJ Ak Aku Bku Akd Bkd lku nku lkd nkd)) rfl rfl (by decide) (by decide) (by decide) (by decide) (fun _ => rfl) (rest := []) rfl hl.1 rfl (Nat.le_of_ble_eq_true rfl) (Nat.zero_le _) (Nat.zero_le _) dX0_change_10 (fun r_2 u H locs hw hP hD hS => ?_)
  refine lv_istore (lv' := [(5, .int r_2), (4, .int r_1), (0, .ref Ak), (1, .int p0), (2, .int p1), (3, .int p2)]) hx hb dX0_change_13 hl (by decide) rfl (fun ls hl => ?_)
  refine lv_iload_n hx hb dX0_change_15 rfl (lv_at hl 4 rfl) ?_
  refine lv_iload hx hb dX0_change_16 (lv_at hl 1 rfl) ?_
  refine k_Si (M_X0_quotient l G cI cJ p1 r_1 _ hw) ⟨hx, hb, hml, hown, hts⟩ (va_cwS 2 hts gX0_change_X0_quotient rfl rfl rfl (by decide +kernel) ⟨Nat.le_of_ble_eq_true rfl, Nat.le_of_ble_eq_true rfl⟩) hK hP hD hS hA [] [0, 1, 2, 3, 4] [0, 1, 2, 3, 4] (wr := [(Ak, .inr (0, [.ref Aku, .ref Akd])), (Aku, .inr (1, [.ref Bku, .int nku])), (Bku, .inl (cI, 64, .inl lku)), (Akd, .inr (1, [.ref Bkd, .int nkd])), (Bkd, .inl (cI, 64, .inl lkd))]) (wn := fun u : Unit => (wX0 cI cJ Ak Aku Bku Akd Bkd lku nku lkd nkd)) rfl rfl (by decide) (by decide) (by decide) (by decide) (fun _ => rfl) (rest := []) rfl hl.1 rfl (Nat.le_of_ble_eq_true rfl) (Nat.zero_le _) (Nat.zero_le _) dX0_change_18 (fun r_3 u H locs hw hP hD hS => ?_)
  refine lv_istore (lv' := [(6, .int r_3), (5, .int r_2), (4, .int r_1), (0, .ref Ak), (1, .int p0), (2, .int p1), (3, .int p2)]) hx hb dX0_change_21 hl (by decide) rfl (fun ls hl => ?_)
  refine lv_aload_n hx hb dX0_change_23 rfl (lv_at hl 3 rfl) ?_
  refine k_get hx hb hts uX0_change_X0 hown hK hP 0 0 rfl rfl 1 (by decide) fX0_change_16 (.ref Akd) rfl dX0_change_24 ?_
  refine lv_iload hx hb dX0_change_27 (lv_at hl 0 rfl) ?_
  refine k_Vi (M_X1_restBy l G cI cJ Akd Bkd lkd nkd r_3 _ hw) ⟨hx, hb, hml, hown, hts⟩ (cwV 1 hts gX0_change_X1_restBy rfl rfl rfl (by decide +kernel) ⟨Nat.le_of_ble_eq_true rfl, Nat.le_of_ble_eq_true rfl⟩) hK hP hD hS hA [3, 4] [0, 1, 2] [0, 1, 2, 3, 4] (wr := [(Ak, .inr (0, [.ref Aku, .ref Akd])), (Aku, .inr (1, [.ref Bku, .int nku])), (Bku, .inl (cI, 64, .inl lku))]) (wn := fun u : Unit => (wX0 cI cJ Ak Aku Bku Akd Bkd lku nku lkd nkd)) rfl rfl (by decide) (by decide) (by decide) (by decide) (fun _ => rfl) (rest := []) (q0 := 0) rfl rfl rfl hl.1 rfl (Nat.le_of_ble_eq_true rfl) (Nat.zero_le _) (Nat.zero_le _) dX0_change_29 (fun r_4 u H locs hw hP hD hS => ?_)
  refine lv_iload hx hb dX0_change_32 (lv_at hl 0 rfl) ?_
  refine k_Si (M_X0_commonDivisor l G cI cJ r_4 r_3 _ hw) ⟨hx, hb, hml, hown, hts⟩ (va_cwS 2 hts gX0_change_X0_commonDivisor rfl rfl rfl (by decide +kernel) ⟨Nat.le_of_ble_eq_true rfl, Nat.le_of_ble_eq_true rfl⟩) hK hP hD hS hA [] [0, 1, 2, 3, 4] [0, 1, 2, 3, 4] (wr := [(Ak, .inr (0, [.ref Aku, .ref Akd])), (Aku, .inr (1, [.ref Bku, .int nku])), (Bku, .inl (cI, 64, .inl lku)), (Akd, .inr (1, [.ref Bkd, .int nkd])), (Bkd, .inl (cI, 64, .inl lkd))]) (wn := fun u : Unit => (wX0 cI cJ Ak Aku Bku Akd Bkd lku nku lkd nkd)) rfl rfl (by decide) (by decide) (by decide) (by decide) (fun _ => rfl) (rest := []) rfl hl.1 rfl (Nat.le_of_ble_eq_true rfl) (Nat.zero_le _) (Nat.zero_le _) dX0_change_34 (fun r_5 u H locs hw hP hD hS => ?_)
  refine lv_istore (lv' := [(7, .int r_5), (6, .int r_3), (5, .int r_2), (4, .int r_1), (0, .ref Ak), (1, .int p0), (2, .int p1), (3, .int p2)]) hx hb dX0_change_37 hl (by decide) rfl (fun ls hl => ?_)
  refine lv_aload_n hx hb dX0_change_39 rfl (lv_at hl 4 rfl) ?_
  refine k_get hx hb hts uX0_change_X0 hown hK hP 0 0 rfl rfl 1 (by decide) fX0_change_16 (.ref Akd) rfl dX0_change_40 ?_
  refine lv_iload hx hb dX0_change_43 (lv_at hl 0 rfl) ?_
  refine k_Vv (M_X1_divideBy l G cI cJ Akd Bkd lkd nkd r_5 _ hw) ⟨hx, hb, hml, hown, hts⟩ (cwV 1 hts gX0_change_X1_divideBy rfl rfl rfl (by decide +kernel) ⟨Nat.le_of_ble_eq_true rfl, Nat.le_of_ble_eq_true rfl⟩) hK hP hD hS hA [3, 4] [0, 1, 2] [0, 1, 2, 3, 4] (wr := [(Ak, .inr (0, [.ref Aku, .ref Akd])), (Aku, .inr (1, [.ref Bku, .int nku])), (Bku, .inl (cI, 64, .inl lku))]) (wn := fun u : (Nat → Int32) × (Int32) => (wX0 cI cJ Ak Aku Bku Akd Bkd lku nku u.1 u.2)) rfl rfl (by decide) (by decide) (by decide) (by decide) (fun _ => rfl) (rest := []) (q0 := 0) rfl rfl rfl hl.1 rfl (Nat.le_of_ble_eq_true rfl) (Nat.zero_le _) (Nat.zero_le _) dX0_change_45 (fun u H locs hw hP hD hS => ?_)
  obtain ⟨lkd_6, nkd_7⟩ := u
  have hP : va_P G vwCl (wX0 cI cJ Ak Aku Bku Akd Bkd lku nku lkd_6 nkd_7) H := hP
  have hD : va_D A (wX0 cI cJ Ak Aku Bku Akd Bkd lku nku lkd_6 nkd_7) := hD
  refine lv_aload_n hx hb dX0_change_48 rfl (lv_at hl 4 rfl) ?_
  refine k_get hx hb hts uX0_change_X0 hown hK hP 0 0 rfl rfl 0 (by decide) fX0_change_10 (.ref Aku) rfl dX0_change_49 ?_
  refine lv_iload hx hb dX0_change_52 (lv_at hl 1 rfl) ?_
  refine lv_iload hx hb dX0_change_54 (lv_at hl 0 rfl) ?_
  refine k_Si (M_X0_quotient l G cI cJ r_3 r_5 _ hw) ⟨hx, hb, hml, hown, hts⟩ (va_cwS 2 hts gX0_change_X0_quotient rfl rfl rfl (by decide +kernel) ⟨Nat.le_of_ble_eq_true rfl, Nat.le_of_ble_eq_true rfl⟩) hK hP hD hS hA [] [0, 1, 2, 3, 4] [0, 1, 2, 3, 4] (wr := [(Ak, .inr (0, [.ref Aku, .ref Akd])), (Aku, .inr (1, [.ref Bku, .int nku])), (Bku, .inl (cI, 64, .inl lku)), (Akd, .inr (1, [.ref Bkd, .int nkd_7])), (Bkd, .inl (cI, 64, .inl lkd_6))]) (wn := fun u : Unit => (wX0 cI cJ Ak Aku Bku Akd Bkd lku nku lkd_6 nkd_7)) rfl rfl (by decide) (by decide) (by decide) (by decide) (fun _ => rfl) (rest := [.ref Aku]) rfl hl.1 rfl (Nat.le_of_ble_eq_true rfl) (Nat.zero_le _) (Nat.zero_le _) dX0_change_56 (fun r_8 u H locs hw hP hD hS => ?_)
  refine k_Vv (M_X1_times l G cI cJ Aku Bku lku nku r_8 _ hw) ⟨hx, hb, hml, hown, hts⟩ (cwV 1 hts gX0_change_X1_times rfl rfl rfl (by decide +kernel) ⟨Nat.le_of_ble_eq_true rfl, Nat.le_of_ble_eq_true rfl⟩) hK hP hD hS hA [1, 2] [0, 3, 4] [0, 3, 4, 1, 2] (wr := [(Ak, .inr (0, [.ref Aku, .ref Akd])), (Akd, .inr (1, [.ref Bkd, .int nkd_7])), (Bkd, .inl (cI, 64, .inl lkd_6))]) (wn := fun u : (Nat → Int32) × (Int32) => (wX0 cI cJ Ak Aku Bku Akd Bkd u.1 u.2 lkd_6 nkd_7)) rfl rfl (by decide) (by decide) (by decide) (by decide) (fun _ => rfl) (rest := []) (q0 := 0) rfl rfl rfl hl.1 rfl (Nat.le_of_ble_eq_true rfl) (Nat.zero_le _) (Nat.zero_le _) dX0_change_59 (fun u H locs hw hP hD hS => ?_)
  obtain ⟨lku_9, nku_10⟩ := u
  have hP : va_P G vwCl (wX0 cI cJ Ak Aku Bku Akd Bkd lku_9 nku_10 lkd_6 nkd_7) H := hP
  have hD : va_D A (wX0 cI cJ Ak Aku Bku Akd Bkd lku_9 nku_10 lkd_6 nkd_7) := hD
  refine lv_aload_n hx hb dX0_change_62 rfl (lv_at hl 4 rfl) ?_
  refine k_get hx hb hts uX0_change_X0 hown hK hP 0 0 rfl rfl 0 (by decide) fX0_change_10 (.ref Aku) rfl dX0_change_63 ?_
  refine lv_aload_n hx hb dX0_change_66 rfl (lv_at hl 4 rfl) ?_
  refine k_get hx hb hts uX0_change_X0 hown hK hP 0 0 rfl rfl 1 (by decide) fX0_change_16 (.ref Akd) rfl dX0_change_67 ?_
  refine lv_iload_n hx hb dX0_change_70 rfl (lv_at hl 7 rfl) ?_
  refine lv_iload hx hb dX0_change_71 (lv_at hl 2 rfl) ?_
  refine lv_imul hx hb dX0_change_73 ?_
  refine k_Vv (M_X1_plusTimes l G cI cJ Aku Bku Akd Bkd lku_9 nku_10 lkd_6 nkd_7 (p2 * r_2) _ hw) ⟨hx, hb, hml, hown, hts⟩ (cwV 2 hts gX0_change_X1_plusTimes rfl rfl rfl (by decide +kernel) ⟨Nat.le_of_ble_eq_true rfl, Nat.le_of_ble_eq_true rfl⟩) hK hP hD hS hA [1, 2, 3, 4] [0] [0, 1, 2, 3, 4] (wr := [(Ak, .inr (0, [.ref Aku, .ref Akd]))]) (wn := fun u : (Nat → Int32) × (Int32) => (wX0 cI cJ Ak Aku Bku Akd Bkd u.1 u.2 lkd_6 nkd_7)) rfl rfl (by decide) (by decide) (by decide) (by decide) (fun _ => rfl) (rest := []) (q0 := 0) rfl rfl rfl hl.1 rfl (Nat.le_of_ble_eq_true rfl) (Nat.zero_le _) (Nat.zero_le _) dX0_change_74 (fun u H locs hw hP hD hS => ?_)
  obtain ⟨lku_11, nku_12⟩ := u
  have hP : va_P G vwCl (wX0 cI cJ Ak Aku Bku Akd Bkd lku_11 nku_12 lkd_6 nkd_7) H := hP
  have hD : va_D A (wX0 cI cJ Ak Aku Bku Akd Bkd lku_11 nku_12 lkd_6 nkd_7) := hD
  refine lv_aload_n hx hb dX0_change_77 rfl (lv_at hl 4 rfl) ?_
  refine k_get hx hb hts uX0_change_X0 hown hK hP 0 0 rfl rfl 0 (by decide) fX0_change_10 (.ref Aku) rfl dX0_change_78 ?_
  refine lv_iload hx hb dX0_change_81 (lv_at hl 0 rfl) ?_
  refine k_Vi (M_X1_restBy l G cI cJ Aku Bku lku_11 nku_12 r_5 _ hw) ⟨hx, hb, hml, hown, hts⟩ (cwV 1 hts gX0_change_X1_restBy rfl rfl rfl (by decide +kernel) ⟨Nat.le_of_ble_eq_true rfl, Nat.le_of_ble_eq_true rfl⟩) hK hP hD hS hA [1, 2] [0, 3, 4] [0, 3, 4, 1, 2] (wr := [(Ak, .inr (0, [.ref Aku, .ref Akd])), (Akd, .inr (1, [.ref Bkd, .int nkd_7])), (Bkd, .inl (cI, 64, .inl lkd_6))]) (wn := fun u : Unit => (wX0 cI cJ Ak Aku Bku Akd Bkd lku_11 nku_12 lkd_6 nkd_7)) rfl rfl (by decide) (by decide) (by decide) (by decide) (fun _ => rfl) (rest := []) (q0 := 0) rfl rfl rfl hl.1 rfl (Nat.le_of_ble_eq_true rfl) (Nat.zero_le _) (Nat.zero_le _) dX0_change_83 (fun r_13 u H locs hw hP hD hS => ?_)
  refine lv_iload hx hb dX0_change_86 (lv_at hl 0 rfl) ?_
  refine k_Si (M_X0_commonDivisor l G cI cJ r_13 r_5 _ hw) ⟨hx, hb, hml, hown, hts⟩ (va_cwS 2 hts gX0_change_X0_commonDivisor rfl rfl rfl (by decide +kernel) ⟨Nat.le_of_ble_eq_true rfl, Nat.le_of_ble_eq_true rfl⟩) hK hP hD hS hA [] [0, 1, 2, 3, 4] [0, 1, 2, 3, 4] (wr := [(Ak, .inr (0, [.ref Aku, .ref Akd])), (Aku, .inr (1, [.ref Bku, .int nku_12])), (Bku, .inl (cI, 64, .inl lku_11)), (Akd, .inr (1, [.ref Bkd, .int nkd_7])), (Bkd, .inl (cI, 64, .inl lkd_6))]) (wn := fun u : Unit => (wX0 cI cJ Ak Aku Bku Akd Bkd lku_11 nku_12 lkd_6 nkd_7)) rfl rfl (by decide) (by decide) (by decide) (by decide) (fun _ => rfl) (rest := []) rfl hl.1 rfl (Nat.le_of_ble_eq_true rfl) (Nat.zero_le _) (Nat.zero_le _) dX0_change_88 (fun r_14 u H locs hw hP hD hS => ?_)
  refine lv_istore (lv' := [(8, .int r_14), (7, .int r_5), (6, .int r_3), (5, .int r_2), (4, .int r_1), (0, .ref Ak), (1, .int p0), (2, .int p1), (3, .int p2)]) hx hb dX0_change_91 hl (by decide) rfl (fun ls hl => ?_)
  refine lv_aload_n hx hb dX0_change_93 rfl (lv_at hl 5 rfl) ?_
  refine k_get hx hb hts uX0_change_X0 hown hK hP 0 0 rfl rfl 0 (by decide) fX0_change_10 (.ref Aku) rfl dX0_change_94 ?_
  refine lv_iload hx hb dX0_change_97 (lv_at hl 0 rfl) ?_
  refine k_Vv (M_X1_divideBy l G cI cJ Aku Bku lku_11 nku_12 r_14 _ hw) ⟨hx, hb, hml, hown, hts⟩ (cwV 1 hts gX0_change_X1_divideBy rfl rfl rfl (by decide +kernel) ⟨Nat.le_of_ble_eq_true rfl, Nat.le_of_ble_eq_true rfl⟩) hK hP hD hS hA [1, 2] [0, 3, 4] [0, 3, 4, 1, 2] (wr := [(Ak, .inr (0, [.ref Aku, .ref Akd])), (Akd, .inr (1, [.ref Bkd, .int nkd_7])), (Bkd, .inl (cI, 64, .inl lkd_6))]) (wn := fun u : (Nat → Int32) × (Int32) => (wX0 cI cJ Ak Aku Bku Akd Bkd u.1 u.2 lkd_6 nkd_7)) rfl rfl (by decide) (by decide) (by decide) (by decide) (fun _ => rfl) (rest := []) (q0 := 0) rfl rfl rfl hl.1 rfl (Nat.le_of_ble_eq_true rfl) (Nat.zero_le _) (Nat.zero_le _) dX0_change_99 (fun u H locs hw hP hD hS => ?_)
  obtain ⟨lku_15, nku_16⟩ := u
  have hP : va_P G vwCl (wX0 cI cJ Ak Aku Bku Akd Bkd lku_15 nku_16 lkd_6 nkd_7) H := hP
  have hD : va_D A (wX0 cI cJ Ak Aku Bku Akd Bkd lku_15 nku_16 lkd_6 nkd_7) := hD
  refine lv_aload_n hx hb dX0_change_102 rfl (lv_at hl 5 rfl) ?_
  refine k_get hx hb hts uX0_change_X0 hown hK hP 0 0 rfl rfl 1 (by decide) fX0_change_16 (.ref Akd) rfl dX0_change_103 ?_
  refine lv_iload hx hb dX0_change_106 (lv_at hl 2 rfl) ?_
  refine lv_iload hx hb dX0_change_108 (lv_at hl 0 rfl) ?_
  refine k_Si (M_X0_quotient l G cI cJ r_3 r_14 _ hw) ⟨hx, hb, hml, hown, hts⟩ (va_cwS 2 hts gX0_change_X0_quotient rfl rfl rfl (by decide +kernel) ⟨Nat.le_of_ble_eq_true rfl, Nat.le_of_ble_eq_true rfl⟩) hK hP hD hS hA [] [0, 1, 2, 3, 4] [0, 1, 2, 3, 4] (wr := [(Ak, .inr (0, [.ref Aku, .ref Akd])), (Aku, .inr (1, [.ref Bku, .int nku_16])), (Bku, .inl (cI, 64, .inl lku_15)), (Akd, .inr (1, [.ref Bkd, .int nkd_7])), (Bkd, .inl (cI, 64, .inl lkd_6))]) (wn := fun u : Unit => (wX0 cI cJ Ak Aku Bku Akd Bkd lku_15 nku_16 lkd_6 nkd_7)) rfl rfl (by decide) (by decide) (by decide) (by decide) (fun _ => rfl) (rest := [.ref Akd]) rfl hl.1 rfl (Nat.le_of_ble_eq_true rfl) (Nat.zero_le _) (Nat.zero_le _) dX0_change_110 (fun r_17 u H locs hw hP hD hS => ?_)
  refine k_Vv (M_X1_times l G cI cJ Akd Bkd lkd_6 nkd_7 r_17 _ hw) ⟨hx, hb, hml, hown, hts⟩ (cwV 1 hts gX0_change_X1_times rfl rfl rfl (by decide +kernel) ⟨Nat.le_of_ble_eq_true rfl, Nat.le_of_ble_eq_true rfl⟩) hK hP hD hS hA [3, 4] [0, 1, 2] [0, 1, 2, 3, 4] (wr := [(Ak, .inr (0, [.ref Aku, .ref Akd])), (Aku, .inr (1, [.ref Bku, .int nku_16])), (Bku, .inl (cI, 64, .inl lku_15))]) (wn := fun u : (Nat → Int32) × (Int32) => (wX0 cI cJ Ak Aku Bku Akd Bkd lku_15 nku_16 u.1 u.2)) rfl rfl (by decide) (by decide) (by decide) (by decide) (fun _ => rfl) (rest := []) (q0 := 0) rfl rfl rfl hl.1 rfl (Nat.le_of_ble_eq_true rfl) (Nat.zero_le _) (Nat.zero_le _) dX0_change_113 (fun u H locs hw hP hD hS => ?_)
  obtain ⟨lkd_18, nkd_19⟩ := u
  have hP : va_P G vwCl (wX0 cI cJ Ak Aku Bku Akd Bkd lku_15 nku_16 lkd_18 nkd_19) H := hP
  have hD : va_D A (wX0 cI cJ Ak Aku Bku Akd Bkd lku_15 nku_16 lkd_18 nkd_19) := hD
  exact hret (lku_15, nku_16, lkd_18, nkd_19) _ _ _ _ hw hP hD hS dX0_change_116
set_option maxHeartbeats 4000000 in
set_option maxRecDepth 100000 in
theorem M_X0_increase (l : Launch) (G : va_G) (cI cJ : ClassId) (Ak Aku Bku Akd Bkd : Nat) (lku : Nat → Int32) (nku : Int32) (lkd : Nat → Int32) (nkd : Int32) (p0 : Int32) (p1 : Int32) (Q : (Nat → Int32) → Int32 → (Nat → Int32) → Int32 → Prop) (hw : w_X0_increase lku nku lkd nkd p0 p1 Q) : Kv l yX0_increase wsX0_increase rm_X0_increase G cI cJ [.ref Ak, .int p0, .int p1] (wX0 cI cJ Ak Aku Bku Akd Bkd lku nku lkd nkd) (fun (u : (Nat → Int32) × (Int32) × (Nat → Int32) × (Int32)) => Q u.1 u.2.1 u.2.2.1 u.2.2.2) (fun u => (wX0 cI cJ Ak Aku Bku Akd Bkd u.1 u.2.1 u.2.2.1 u.2.2.2)) := by
  refine kv_intro (cc := cX0_increase) (maxL := 3) rfl rfl (by decide) rfl (Nat.le_of_ble_eq_true rfl) ?_
  intro p e s m args below meth c A Z ls hx hb hml hts hown hP hK hD hS hA hl hret
  have hl : lv_has ls 3 [(0, .ref Ak), (1, .int p0), (2, .int p1)] := hl
  unfold w_X0_increase at hw
  refine lv_aload_n hx hb dX0_increase_0 rfl (lv_at hl 0 rfl) ?_
  refine lv_iload_n hx hb dX0_increase_1 rfl (lv_at hl 1 rfl) ?_
  refine lv_iload_n hx hb dX0_increase_2 rfl (lv_at hl 2 rfl) ?_
  refine lv_iconst (v := 1) hx hb dX0_increase_3 (by decide) ?_
  refine k_Vv (M_X0_change l G cI cJ Ak Aku Bku Akd Bkd lku nku lkd nkd p0 p1 (1 : Int32) _ hw) ⟨hx, hb, hml, hown, hts⟩ (cwV 3 hts gX0_increase_X0_change rfl rfl rfl (by decide +kernel) ⟨Nat.le_of_ble_eq_true rfl, Nat.le_of_ble_eq_true rfl⟩) hK hP hD hS hA [0, 1, 2, 3, 4] [] [0, 1, 2, 3, 4] (wr := []) (wn := fun u : (Nat → Int32) × (Int32) × (Nat → Int32) × (Int32) => (wX0 cI cJ Ak Aku Bku Akd Bkd u.1 u.2.1 u.2.2.1 u.2.2.2)) rfl rfl (by decide) (by decide) (by decide) (by decide) (fun _ => rfl) (rest := []) (q0 := 0) rfl rfl rfl hl.1 rfl (Nat.le_of_ble_eq_true rfl) (Nat.zero_le _) (Nat.zero_le _) dX0_increase_4 (fun u H locs hw hP hD hS => ?_)
  obtain ⟨lku_1, nku_2, lkd_3, nkd_4⟩ := u
  have hP : va_P G vwCl (wX0 cI cJ Ak Aku Bku Akd Bkd lku_1 nku_2 lkd_3 nkd_4) H := hP
  have hD : va_D A (wX0 cI cJ Ak Aku Bku Akd Bkd lku_1 nku_2 lkd_3 nkd_4) := hD
  exact hret (lku_1, nku_2, lkd_3, nkd_4) _ _ _ _ hw hP hD hS dX0_increase_7
set_option maxHeartbeats 4000000 in
set_option maxRecDepth 100000 in
theorem M_X0_decrease (l : Launch) (G : va_G) (cI cJ : ClassId) (Ak Aku Bku Akd Bkd : Nat) (lku : Nat → Int32) (nku : Int32) (lkd : Nat → Int32) (nkd : Int32) (p0 : Int32) (p1 : Int32) (Q : (Nat → Int32) → Int32 → (Nat → Int32) → Int32 → Prop) (hw : w_X0_decrease lku nku lkd nkd p0 p1 Q) : Kv l yX0_decrease wsX0_decrease rm_X0_decrease G cI cJ [.ref Ak, .int p0, .int p1] (wX0 cI cJ Ak Aku Bku Akd Bkd lku nku lkd nkd) (fun (u : (Nat → Int32) × (Int32) × (Nat → Int32) × (Int32)) => Q u.1 u.2.1 u.2.2.1 u.2.2.2) (fun u => (wX0 cI cJ Ak Aku Bku Akd Bkd u.1 u.2.1 u.2.2.1 u.2.2.2)) := by
  refine kv_intro (cc := cX0_decrease) (maxL := 3) rfl rfl (by decide) rfl (Nat.le_of_ble_eq_true rfl) ?_
  intro p e s m args below meth c A Z ls hx hb hml hts hown hP hK hD hS hA hl hret
  have hl : lv_has ls 3 [(0, .ref Ak), (1, .int p0), (2, .int p1)] := hl
  unfold w_X0_decrease at hw
  refine lv_aload_n hx hb dX0_decrease_0 rfl (lv_at hl 0 rfl) ?_
  refine lv_iload_n hx hb dX0_decrease_1 rfl (lv_at hl 1 rfl) ?_
  refine lv_iload_n hx hb dX0_decrease_2 rfl (lv_at hl 2 rfl) ?_
  refine lv_iconst (v := (-1)) hx hb dX0_decrease_3 (by decide) ?_
  refine k_Vv (M_X0_change l G cI cJ Ak Aku Bku Akd Bkd lku nku lkd nkd p0 p1 ((-1) : Int32) _ hw) ⟨hx, hb, hml, hown, hts⟩ (cwV 3 hts gX0_decrease_X0_change rfl rfl rfl (by decide +kernel) ⟨Nat.le_of_ble_eq_true rfl, Nat.le_of_ble_eq_true rfl⟩) hK hP hD hS hA [0, 1, 2, 3, 4] [] [0, 1, 2, 3, 4] (wr := []) (wn := fun u : (Nat → Int32) × (Int32) × (Nat → Int32) × (Int32) => (wX0 cI cJ Ak Aku Bku Akd Bkd u.1 u.2.1 u.2.2.1 u.2.2.2)) rfl rfl (by decide) (by decide) (by decide) (by decide) (fun _ => rfl) (rest := []) (q0 := 0) rfl rfl rfl hl.1 rfl (Nat.le_of_ble_eq_true rfl) (Nat.zero_le _) (Nat.zero_le _) dX0_decrease_4 (fun u H locs hw hP hD hS => ?_)
  obtain ⟨lku_1, nku_2, lkd_3, nkd_4⟩ := u
  have hP : va_P G vwCl (wX0 cI cJ Ak Aku Bku Akd Bkd lku_1 nku_2 lkd_3 nkd_4) H := hP
  have hD : va_D A (wX0 cI cJ Ak Aku Bku Akd Bkd lku_1 nku_2 lkd_3 nkd_4) := hD
  exact hret (lku_1, nku_2, lkd_3, nkd_4) _ _ _ _ hw hP hD hS dX0_decrease_7
theorem fX0_isLessThan_10 : Cond.fieldLink RX0 10 "PrivateCounts$Fraction" "numerator" "LPrivateCounts$Natural;" ∈ wsX0_isLessThan := by decide +kernel
theorem uX0_isLessThan_X0 : ∀ w ∈ u_ws RX0 TX0 2, w ∈ wsX0_isLessThan := by decide +kernel
theorem fX0_isLessThan_16 : Cond.fieldLink RX0 16 "PrivateCounts$Fraction" "denominator" "LPrivateCounts$Natural;" ∈ wsX0_isLessThan := by decide +kernel
set_option maxHeartbeats 4000000 in
set_option maxRecDepth 100000 in
theorem M_X0_isLessThan (l : Launch) (G : va_G) (cI cJ : ClassId) (Ak Aku Bku Akd Bkd : Nat) (lku : Nat → Int32) (nku : Int32) (lkd : Nat → Int32) (nkd : Int32) (p0 : Int32) (p1 : Int32) (Q : Int32 → Prop) (hw : w_X0_isLessThan lku nku lkd nkd p0 p1 Q) : Ki l yX0_isLessThan wsX0_isLessThan rm_X0_isLessThan G cI cJ [.ref Ak, .int p0, .int p1] (wX0 cI cJ Ak Aku Bku Akd Bkd lku nku lkd nkd) (fun (r : Int32) (u : Unit) => wB r ∧ Q r) (fun u => (wX0 cI cJ Ak Aku Bku Akd Bkd lku nku lkd nkd)) := by
  refine kz_intro (cc := cX0_isLessThan) (maxL := 3) rfl rfl (by decide) rfl (Nat.le_of_ble_eq_true rfl) ?_
  intro p e s m args below meth c A Z ls hx hb hml hts hown hP hK hD hS hA hl hret
  have hl : lv_has ls 3 [(0, .ref Ak), (1, .int p0), (2, .int p1)] := hl
  unfold w_X0_isLessThan at hw
  refine lv_aload_n hx hb dX0_isLessThan_0 rfl (lv_at hl 0 rfl) ?_
  refine k_get hx hb hts uX0_isLessThan_X0 hown hK hP 0 0 rfl rfl 0 (by decide) fX0_isLessThan_10 (.ref Aku) rfl dX0_isLessThan_1 ?_
  refine lv_iload_n hx hb dX0_isLessThan_4 rfl (lv_at hl 2 rfl) ?_
  refine lv_aload_n hx hb dX0_isLessThan_5 rfl (lv_at hl 0 rfl) ?_
  refine k_get hx hb hts uX0_isLessThan_X0 hown hK hP 0 0 rfl rfl 1 (by decide) fX0_isLessThan_16 (.ref Akd) rfl dX0_isLessThan_6 ?_
  refine lv_iload_n hx hb dX0_isLessThan_9 rfl (lv_at hl 1 rfl) ?_
  refine k_Si (M_X1_isLess l G cI cJ Aku Bku Akd Bkd lku nku lkd nkd p1 p0 _ hw) ⟨hx, hb, hml, hown, hts⟩ (va_cwS 4 hts gX0_isLessThan_X1_isLess rfl rfl rfl (by decide +kernel) ⟨Nat.le_of_ble_eq_true rfl, Nat.le_of_ble_eq_true rfl⟩) hK hP hD hS hA [1, 2, 3, 4] [0] [0, 1, 2, 3, 4] (wr := [(Ak, .inr (0, [.ref Aku, .ref Akd]))]) (wn := fun u : Unit => (wX0 cI cJ Ak Aku Bku Akd Bkd lku nku lkd nkd)) rfl rfl (by decide) (by decide) (by decide) (by decide) (fun _ => rfl) (rest := []) rfl hl.1 rfl (Nat.le_of_ble_eq_true rfl) (Nat.zero_le _) (Nat.zero_le _) dX0_isLessThan_10 (fun r_1 u H locs hw hP hD hS => ?_)
  obtain ⟨hzr_1, hw⟩ := hw
  exact hret _ () _ _ _ _ hzr_1 hw hP hD hS dX0_isLessThan_13
theorem fX2_reaches_10 : Cond.fieldLink RX2 10 "PrivateCounts$Series" "missing" "LPrivateCounts$Natural;" ∈ wsX2_reaches := by decide +kernel
theorem uX2_reaches_X2 : ∀ w ∈ u_ws RX2 TX2 2, w ∈ wsX2_reaches := by decide +kernel
theorem fX2_reaches_19 : Cond.fieldLink RX2 19 "PrivateCounts$Table" "b" "I" ∈ wsX2_reaches := by decide +kernel
theorem uX2_reaches_X3 : ∀ w ∈ u_ws RX3 TX3 5, w ∈ wsX2_reaches := by decide +kernel
theorem fX2_reaches_25 : Cond.fieldLink RX2 25 "PrivateCounts$Table" "a" "I" ∈ wsX2_reaches := by decide +kernel
theorem fX2_reaches_16 : Cond.fieldLink RX2 16 "PrivateCounts$Series" "term" "LPrivateCounts$Natural;" ∈ wsX2_reaches := by decide +kernel
set_option maxHeartbeats 4000000 in
set_option maxRecDepth 100000 in
theorem M_X2_reaches (l : Launch) (G : va_G) (cI cJ : ClassId) (As Asm Bsm Ast Bst Aw : Nat) (lsm : Nat → Int32) (nsm : Int32) (lst : Nat → Int32) (nst : Int32) (wa : Int32) (wb : Int32) (wlo : Int32) (whi : Int32) (wtot : Int64) (p1 : Int32) (p2 : Int32) (Q : Int32 → (Nat → Int32) → Int32 → (Nat → Int32) → Int32 → Prop) (hw : w_X2_reaches lsm nsm lst nst wa wb p1 p2 Q) : Ki l yX2_reaches wsX2_reaches rm_X2_reaches G cI cJ [.ref As, .ref Aw, .int p1, .int p2] (wX2X3 cI cJ As Asm Bsm Ast Bst Aw lsm nsm lst nst wa wb wlo whi wtot) (fun (r : Int32) (u : (Nat → Int32) × (Int32) × (Nat → Int32) × (Int32)) => wB r ∧ Q r u.1 u.2.1 u.2.2.1 u.2.2.2) (fun u => (wX2X3 cI cJ As Asm Bsm Ast Bst Aw u.1 u.2.1 u.2.2.1 u.2.2.2 wa wb wlo whi wtot)) := by
  refine kz_intro (cc := cX2_reaches) (maxL := 6) rfl rfl (by decide) rfl (Nat.le_of_ble_eq_true rfl) ?_
  intro p e s m args below meth c A Z ls hx hb hml hts hown hP hK hD hS hA hl hret
  have hl : lv_has ls 6 [(0, .ref As), (1, .ref Aw), (2, .int p1), (3, .int p2)] := hl
  unfold w_X2_reaches at hw
  refine lv_aload_n hx hb dX2_reaches_0 rfl (lv_at hl 0 rfl) ?_
  refine k_get hx hb hts uX2_reaches_X2 hown hK hP 0 2 rfl rfl 0 (by decide) fX2_reaches_10 (.ref Asm) rfl dX2_reaches_1 ?_
  refine lv_aload_n hx hb dX2_reaches_4 rfl (lv_at hl 1 rfl) ?_
  refine k_get hx hb hts uX2_reaches_X3 hown hK hP 5 3 rfl rfl 1 (by decide) fX2_reaches_19 (.int wb) rfl dX2_reaches_5 ?_
  refine lv_aload_n hx hb dX2_reaches_8 rfl (lv_at hl 1 rfl) ?_
  refine k_get hx hb hts uX2_reaches_X3 hown hK hP 5 3 rfl rfl 0 (by decide) fX2_reaches_25 (.int wa) rfl dX2_reaches_9 ?_
  refine lv_isub hx hb dX2_reaches_12 ?_
  refine k_Vv (M_X1_become l G cI cJ Asm Bsm lsm nsm (wb - wa) _ hw) ⟨hx, hb, hml, hown, hts⟩ (cwV 1 hts gX2_reaches_X1_become rfl rfl rfl (by decide +kernel) ⟨Nat.le_of_ble_eq_true rfl, Nat.le_of_ble_eq_true rfl⟩) hK hP hD hS hA [1, 2] [0, 3, 4, 5] [0, 4, 5, 1, 2, 3] (wr := [(As, .inr (2, [.ref Asm, .ref Ast])), (Ast, .inr (1, [.ref Bst, .int nst])), (Bst, .inl (cI, 64, .inl lst)), (Aw, .inr (3, [.int wa, .int wb, .int wlo, .int whi, .long wtot]))]) (wn := fun u : (Nat → Int32) × (Int32) => (wX2X3 cI cJ As Asm Bsm Ast Bst Aw u.1 u.2 lst nst wa wb wlo whi wtot)) rfl rfl (by decide) (by decide) (by decide) (by decide) (fun _ => rfl) (rest := []) (q0 := 0) rfl rfl rfl hl.1 rfl (Nat.le_of_ble_eq_true rfl) (Nat.zero_le _) (Nat.zero_le _) dX2_reaches_13 (fun u H locs hw hP hD hS => ?_)
  obtain ⟨lsm_1, nsm_2⟩ := u
  have hP : va_P G vwCl (wX2X3 cI cJ As Asm Bsm Ast Bst Aw lsm_1 nsm_2 lst nst wa wb wlo whi wtot) H := hP
  have hD : va_D A (wX2X3 cI cJ As Asm Bsm Ast Bst Aw lsm_1 nsm_2 lst nst wa wb wlo whi wtot) := hD
  refine lv_aload_n hx hb dX2_reaches_16 rfl (lv_at hl 0 rfl) ?_
  refine k_get hx hb hts uX2_reaches_X2 hown hK hP 0 2 rfl rfl 1 (by decide) fX2_reaches_16 (.ref Ast) rfl dX2_reaches_17 ?_
  refine lv_aload_n hx hb dX2_reaches_20 rfl (lv_at hl 1 rfl) ?_
  refine k_get hx hb hts uX2_reaches_X3 hown hK hP 5 3 rfl rfl 0 (by decide) fX2_reaches_25 (.int wa) rfl dX2_reaches_21 ?_
  refine k_Vv (M_X1_become l G cI cJ Ast Bst lst nst wa _ hw) ⟨hx, hb, hml, hown, hts⟩ (cwV 1 hts gX2_reaches_X1_become rfl rfl rfl (by decide +kernel) ⟨Nat.le_of_ble_eq_true rfl, Nat.le_of_ble_eq_true rfl⟩) hK hP hD hS hA [3, 4] [0, 1, 2, 5] [0, 1, 2, 4, 5, 3] (wr := [(As, .inr (2, [.ref Asm, .ref Ast])), (Asm, .inr (1, [.ref Bsm, .int nsm_2])), (Bsm, .inl (cI, 64, .inl lsm_1)), (Aw, .inr (3, [.int wa, .int wb, .int wlo, .int whi, .long wtot]))]) (wn := fun u : (Nat → Int32) × (Int32) => (wX2X3 cI cJ As Asm Bsm Ast Bst Aw lsm_1 nsm_2 u.1 u.2 wa wb wlo whi wtot)) rfl rfl (by decide) (by decide) (by decide) (by decide) (fun _ => rfl) (rest := []) (q0 := 0) rfl rfl rfl hl.1 rfl (Nat.le_of_ble_eq_true rfl) (Nat.zero_le _) (Nat.zero_le _) dX2_reaches_24 (fun u H locs hw hP hD hS => ?_)
  obtain ⟨lst_3, nst_4⟩ := u
  have hP : va_P G vwCl (wX2X3 cI cJ As Asm Bsm Ast Bst Aw lsm_1 nsm_2 lst_3 nst_4 wa wb wlo whi wtot) H := hP
  have hD : va_D A (wX2X3 cI cJ As Asm Bsm Ast Bst Aw lsm_1 nsm_2 lst_3 nst_4 wa wb wlo whi wtot) := hD
  refine lv_iconst (v := 1) hx hb dX2_reaches_27 (by decide) ?_
  refine lv_istore (lv' := [(4, .int 1), (0, .ref As), (1, .ref Aw), (2, .int p1), (3, .int p2)]) hx hb dX2_reaches_28 hl (by decide) rfl (fun ls hl => ?_)
  obtain ⟨I30_10, μ30_10, hi, hw⟩ := hw
  suffices hLI30_10 : ∀ (N : Nat) (i4_5 : Int32) (lsm_6 : Nat → Int32) (nsm_7 : Int32) (lst_8 : Nat → Int32) (nst_9 : Int32) (_ : μ30_10 i4_5 lsm_6 nsm_7 lst_8 nst_9 = N) (_ : I30_10 i4_5 lsm_6 nsm_7 lst_8 nst_9) (H : Heap) (locs : List Loc) (ls : Array Slot), va_P G vwCl (wX2X3 cI cJ As Asm Bsm Ast Bst Aw lsm_6 nsm_7 lst_8 nst_9 wa wb wlo whi wtot) H → va_D A (wX2X3 cI cJ As Asm Bsm Ast Bst Aw lsm_6 nsm_7 lst_8 nst_9 wa wb wlo whi wtot) → va_S A s.heap H locs → lv_has ls 6 [(4, .int i4_5), (0, .ref As), (2, .int p1), (3, .int p2)] → W p l e rm_X2_reaches s m args below meth c H locs 0 0 Z (F0 m 30 ls []) from
    hLI30_10 _ (1 : Int32) lsm_1 nsm_2 lst_3 nst_4 rfl hi _ _ _ hP hD hS (lv_sub hl [0, 1, 3, 4] rfl)
  clear hi hP hD hS hl
  intro N
  induction N using Nat.strongRecOn with
  | ind N ihI30_10 =>
    intro i4_5 lsm_6 nsm_7 lst_8 nst_9 hNI30_10 hi H locs ls hP hD hS hl
    have hw := hw i4_5 lsm_6 nsm_7 lst_8 nst_9 hi
    refine lv_iload hx hb dX2_reaches_30 (lv_at hl 0 rfl) ?_
    refine lv_bipush (v := 60) hx hb dX2_reaches_32 (by decide) ?_
    refine lv_icmp_gt (tgt := 134) hx hb dX2_reaches_34 (by decide) (fun c_28 => ?_) (fun c_28 => ?_)
    · have hw := hw.1 c_28
      refine lv_iconst (v := 0) hx hb dX2_reaches_134 (by decide) ?_
      exact hret _ (lsm_6, nsm_7, lst_8, nst_9) _ _ _ _ (Or.inl rfl) hw hP hD hS dX2_reaches_135
    · have hw := hw.2 c_28
      refine lv_aload_n hx hb dX2_reaches_37 rfl (lv_at hl 1 rfl) ?_
      refine k_get hx hb hts uX2_reaches_X2 hown hK hP 0 2 rfl rfl 0 (by decide) fX2_reaches_10 (.ref Asm) rfl dX2_reaches_38 ?_
      refine lv_iload_n hx hb dX2_reaches_41 rfl (lv_at hl 3 rfl) ?_
      refine lv_iload hx hb dX2_reaches_42 (lv_at hl 0 rfl) ?_
      refine lv_imul hx hb dX2_reaches_44 ?_
      refine k_Vv (M_X1_times l G cI cJ Asm Bsm lsm_6 nsm_7 (p2 * i4_5) _ hw) ⟨hx, hb, hml, hown, hts⟩ (cwV 1 hts gX2_reaches_X1_times rfl rfl rfl (by decide +kernel) ⟨Nat.le_of_ble_eq_true rfl, Nat.le_of_ble_eq_true rfl⟩) hK hP hD hS hA [1, 2] [0, 3, 4, 5] [0, 4, 5, 1, 2, 3] (wr := [(As, .inr (2, [.ref Asm, .ref Ast])), (Ast, .inr (1, [.ref Bst, .int nst_9])), (Bst, .inl (cI, 64, .inl lst_8)), (Aw, .inr (3, [.int wa, .int wb, .int wlo, .int whi, .long wtot]))]) (wn := fun u : (Nat → Int32) × (Int32) => (wX2X3 cI cJ As Asm Bsm Ast Bst Aw u.1 u.2 lst_8 nst_9 wa wb wlo whi wtot)) rfl rfl (by decide) (by decide) (by decide) (by decide) (fun _ => rfl) (rest := []) (q0 := 0) rfl rfl rfl hl.1 rfl (Nat.le_of_ble_eq_true rfl) (Nat.zero_le _) (Nat.zero_le _) dX2_reaches_45 (fun u H locs hw hP hD hS => ?_)
      obtain ⟨lsm_11, nsm_12⟩ := u
      have hP : va_P G vwCl (wX2X3 cI cJ As Asm Bsm Ast Bst Aw lsm_11 nsm_12 lst_8 nst_9 wa wb wlo whi wtot) H := hP
      have hD : va_D A (wX2X3 cI cJ As Asm Bsm Ast Bst Aw lsm_11 nsm_12 lst_8 nst_9 wa wb wlo whi wtot) := hD
      refine lv_aload_n hx hb dX2_reaches_48 rfl (lv_at hl 1 rfl) ?_
      refine k_get hx hb hts uX2_reaches_X2 hown hK hP 0 2 rfl rfl 1 (by decide) fX2_reaches_16 (.ref Ast) rfl dX2_reaches_49 ?_
      refine lv_iload_n hx hb dX2_reaches_52 rfl (lv_at hl 2 rfl) ?_
      refine k_Vv (M_X1_times l G cI cJ Ast Bst lst_8 nst_9 p1 _ hw) ⟨hx, hb, hml, hown, hts⟩ (cwV 1 hts gX2_reaches_X1_times rfl rfl rfl (by decide +kernel) ⟨Nat.le_of_ble_eq_true rfl, Nat.le_of_ble_eq_true rfl⟩) hK hP hD hS hA [3, 4] [0, 1, 2, 5] [0, 1, 2, 4, 5, 3] (wr := [(As, .inr (2, [.ref Asm, .ref Ast])), (Asm, .inr (1, [.ref Bsm, .int nsm_12])), (Bsm, .inl (cI, 64, .inl lsm_11)), (Aw, .inr (3, [.int wa, .int wb, .int wlo, .int whi, .long wtot]))]) (wn := fun u : (Nat → Int32) × (Int32) => (wX2X3 cI cJ As Asm Bsm Ast Bst Aw lsm_11 nsm_12 u.1 u.2 wa wb wlo whi wtot)) rfl rfl (by decide) (by decide) (by decide) (by decide) (fun _ => rfl) (rest := []) (q0 := 0) rfl rfl rfl hl.1 rfl (Nat.le_of_ble_eq_true rfl) (Nat.zero_le _) (Nat.zero_le _) dX2_reaches_53 (fun u H locs hw hP hD hS => ?_)
      obtain ⟨lst_13, nst_14⟩ := u
      have hP : va_P G vwCl (wX2X3 cI cJ As Asm Bsm Ast Bst Aw lsm_11 nsm_12 lst_13 nst_14 wa wb wlo whi wtot) H := hP
      have hD : va_D A (wX2X3 cI cJ As Asm Bsm Ast Bst Aw lsm_11 nsm_12 lst_13 nst_14 wa wb wlo whi wtot) := hD
      refine lv_aload_n hx hb dX2_reaches_56 rfl (lv_at hl 1 rfl) ?_
      refine k_get hx hb hts uX2_reaches_X2 hown hK hP 0 2 rfl rfl 1 (by decide) fX2_reaches_16 (.ref Ast) rfl dX2_reaches_57 ?_
      refine lv_iconst (v := 1) hx hb dX2_reaches_60 (by decide) ?_
      refine lv_aload_n hx hb dX2_reaches_61 rfl (lv_at hl 1 rfl) ?_
      refine k_get hx hb hts uX2_reaches_X2 hown hK hP 0 2 rfl rfl 0 (by decide) fX2_reaches_10 (.ref Asm) rfl dX2_reaches_62 ?_
      refine lv_iconst (v := 1) hx hb dX2_reaches_65 (by decide) ?_
      refine k_Si (M_X1_isLess l G cI cJ Ast Bst Asm Bsm lst_13 nst_14 lsm_11 nsm_12 (1 : Int32) (1 : Int32) _ hw) ⟨hx, hb, hml, hown, hts⟩ (va_cwS 4 hts gX2_reaches_X1_isLess rfl rfl rfl (by decide +kernel) ⟨Nat.le_of_ble_eq_true rfl, Nat.le_of_ble_eq_true rfl⟩) hK hP hD hS hA [3, 4, 1, 2] [0, 5] [0, 4, 5, 2, 3, 1] (wr := [(As, .inr (2, [.ref Asm, .ref Ast])), (Aw, .inr (3, [.int wa, .int wb, .int wlo, .int whi, .long wtot]))]) (wn := fun u : Unit => (wX2X3 cI cJ As Asm Bsm Ast Bst Aw lsm_11 nsm_12 lst_13 nst_14 wa wb wlo whi wtot)) rfl rfl (by decide) (by decide) (by decide) (by decide) (fun _ => rfl) (rest := []) rfl hl.1 rfl (Nat.le_of_ble_eq_true rfl) (Nat.zero_le _) (Nat.zero_le _) dX2_reaches_66 (fun r_15 u H locs hw hP hD hS => ?_)
      obtain ⟨hzr_15, hw⟩ := hw
      refine lv_if_ne (tgt := 74) hx hb dX2_reaches_69 (by decide) (fun c_27 => ?_) (fun c_27 => ?_)
      · have hw := hw.1 c_27
        refine lv_aload_n hx hb dX2_reaches_74 rfl (lv_at hl 1 rfl) ?_
        refine k_get hx hb hts uX2_reaches_X2 hown hK hP 0 2 rfl rfl 0 (by decide) fX2_reaches_10 (.ref Asm) rfl dX2_reaches_75 ?_
        refine lv_aload_n hx hb dX2_reaches_78 rfl (lv_at hl 1 rfl) ?_
        refine k_get hx hb hts uX2_reaches_X2 hown hK hP 0 2 rfl rfl 1 (by decide) fX2_reaches_16 (.ref Ast) rfl dX2_reaches_79 ?_
        refine lv_iconst (v := (-1)) hx hb dX2_reaches_82 (by decide) ?_
        refine k_Vv (M_X1_plusTimes l G cI cJ Asm Bsm Ast Bst lsm_11 nsm_12 lst_13 nst_14 ((-1) : Int32) _ hw) ⟨hx, hb, hml, hown, hts⟩ (cwV 2 hts gX2_reaches_X1_plusTimes rfl rfl rfl (by decide +kernel) ⟨Nat.le_of_ble_eq_true rfl, Nat.le_of_ble_eq_true rfl⟩) hK hP hD hS hA [1, 2, 3, 4] [0, 5] [0, 2, 3, 4, 5, 1] (wr := [(As, .inr (2, [.ref Asm, .ref Ast])), (Aw, .inr (3, [.int wa, .int wb, .int wlo, .int whi, .long wtot]))]) (wn := fun u : (Nat → Int32) × (Int32) => (wX2X3 cI cJ As Asm Bsm Ast Bst Aw u.1 u.2 lst_13 nst_14 wa wb wlo whi wtot)) rfl rfl (by decide) (by decide) (by decide) (by decide) (fun _ => rfl) (rest := []) (q0 := 0) rfl rfl rfl hl.1 rfl (Nat.le_of_ble_eq_true rfl) (Nat.zero_le _) (Nat.zero_le _) dX2_reaches_83 (fun u H locs hw hP hD hS => ?_)
        obtain ⟨lsm_16, nsm_17⟩ := u
        have hP : va_P G vwCl (wX2X3 cI cJ As Asm Bsm Ast Bst Aw lsm_16 nsm_17 lst_13 nst_14 wa wb wlo whi wtot) H := hP
        have hD : va_D A (wX2X3 cI cJ As Asm Bsm Ast Bst Aw lsm_16 nsm_17 lst_13 nst_14 wa wb wlo whi wtot) := hD
        refine lv_iconst (v := 2) hx hb dX2_reaches_86 (by decide) ?_
        refine lv_iload_n hx hb dX2_reaches_87 rfl (lv_at hl 2 rfl) ?_
        refine lv_imul hx hb dX2_reaches_88 ?_
        refine lv_iload hx hb dX2_reaches_89 (lv_at hl 0 rfl) ?_
        refine lv_iconst (v := 1) hx hb dX2_reaches_91 (by decide) ?_
        refine lv_iadd hx hb dX2_reaches_92 ?_
        refine lv_iload_n hx hb dX2_reaches_93 rfl (lv_at hl 3 rfl) ?_
        refine lv_imul hx hb dX2_reaches_94 ?_
        refine lv_topi (fun v_18 ev_18 => ?_)
        have hw := hw v_18 ev_18
        obtain ⟨J103_20, hw, hR⟩ := hw
        have hJ103_20 : ∀ (t_19 : Int32) (_ : J103_20 t_19) (H : Heap) (locs : List Loc) (ls : Array Slot), va_P G vwCl (wX2X3 cI cJ As Asm Bsm Ast Bst Aw lsm_16 nsm_17 lst_13 nst_14 wa wb wlo whi wtot) H → va_D A (wX2X3 cI cJ As Asm Bsm Ast Bst Aw lsm_16 nsm_17 lst_13 nst_14 wa wb wlo whi wtot) → va_S A s.heap H locs → lv_has ls 6 [(4, .int i4_5), (0, .ref As), (2, .int p1), (3, .int p2)] → W p l e rm_X2_reaches s m args below meth c H locs 0 0 Z (F0 m 103 ls [.int t_19]) := by
          intro t_19 hw H locs ls hP hD hS hl
          have hw := hR _ hw
          refine lv_istore (lv' := [(5, .int t_19), (4, .int i4_5), (0, .ref As), (2, .int p1), (3, .int p2)]) hx hb dX2_reaches_103 hl (by decide) rfl (fun ls hl => ?_)
          refine lv_iload hx hb dX2_reaches_105 (lv_at hl 0 rfl) ?_
          refine lv_if_eq (tgt := 128) hx hb dX2_reaches_107 (by decide) (fun c_26 => ?_) (fun c_26 => ?_)
          · have hw := hw.1 c_26
            obtain ⟨i4_22, ei4_22⟩ : ∃ y : Int32, y = i4_5 + 1 := ⟨_, rfl⟩
            have hw := hw i4_22 ei4_22
            refine lv_iinc (v := i4_22) (lv' := [(4, .int i4_22), (5, .int t_19), (0, .ref As), (2, .int p1), (3, .int p2)]) hx hb dX2_reaches_128 hl (k := 1) rfl (by rw [ei4_22]; rfl) (by decide) rfl (fun ls hl => ?_)
            refine lv_goto (tgt := 30) hx hb dX2_reaches_131 (by decide) ?_
            exact ihI30_10 _ (by rw [← hNI30_10]; exact hw.2) i4_22 lsm_16 nsm_17 lst_13 nst_14 rfl hw.1 _ _ _ hP hD hS (lv_sub hl [0, 2, 3, 4] rfl)
          · have hw := hw.2 c_26
            refine lv_aload_n hx hb dX2_reaches_110 rfl (lv_at hl 2 rfl) ?_
            refine k_get hx hb hts uX2_reaches_X2 hown hK hP 0 2 rfl rfl 0 (by decide) fX2_reaches_10 (.ref Asm) rfl dX2_reaches_111 ?_
            refine lv_iconst (v := 1) hx hb dX2_reaches_114 (by decide) ?_
            refine lv_aload_n hx hb dX2_reaches_115 rfl (lv_at hl 2 rfl) ?_
            refine k_get hx hb hts uX2_reaches_X2 hown hK hP 0 2 rfl rfl 1 (by decide) fX2_reaches_16 (.ref Ast) rfl dX2_reaches_116 ?_
            refine lv_iconst (v := 1) hx hb dX2_reaches_119 (by decide) ?_
            refine k_Si (M_X1_isLess l G cI cJ Asm Bsm Ast Bst lsm_16 nsm_17 lst_13 nst_14 (1 : Int32) (1 : Int32) _ hw) ⟨hx, hb, hml, hown, hts⟩ (va_cwS 4 hts gX2_reaches_X1_isLess rfl rfl rfl (by decide +kernel) ⟨Nat.le_of_ble_eq_true rfl, Nat.le_of_ble_eq_true rfl⟩) hK hP hD hS hA [1, 2, 3, 4] [0, 5] [0, 2, 3, 4, 5, 1] (wr := [(As, .inr (2, [.ref Asm, .ref Ast])), (Aw, .inr (3, [.int wa, .int wb, .int wlo, .int whi, .long wtot]))]) (wn := fun u : Unit => (wX2X3 cI cJ As Asm Bsm Ast Bst Aw lsm_16 nsm_17 lst_13 nst_14 wa wb wlo whi wtot)) rfl rfl (by decide) (by decide) (by decide) (by decide) (fun _ => rfl) (rest := []) rfl hl.1 rfl (Nat.le_of_ble_eq_true rfl) (Nat.zero_le _) (Nat.zero_le _) dX2_reaches_120 (fun r_23 u H locs hw hP hD hS => ?_)
            obtain ⟨hzr_23, hw⟩ := hw
            refine lv_if_ne (tgt := 128) hx hb dX2_reaches_123 (by decide) (fun c_25 => ?_) (fun c_25 => ?_)
            · have hw := hw.1 c_25
              obtain ⟨i4_24, ei4_24⟩ : ∃ y : Int32, y = i4_5 + 1 := ⟨_, rfl⟩
              have hw := hw i4_24 ei4_24
              refine lv_iinc (v := i4_24) (lv' := [(4, .int i4_24), (5, .int t_19), (0, .ref As), (2, .int p1), (3, .int p2)]) hx hb dX2_reaches_128 hl (k := 1) rfl (by rw [ei4_24]; rfl) (by decide) rfl (fun ls hl => ?_)
              refine lv_goto (tgt := 30) hx hb dX2_reaches_131 (by decide) ?_
              exact ihI30_10 _ (by rw [← hNI30_10]; exact hw.2) i4_24 lsm_16 nsm_17 lst_13 nst_14 rfl hw.1 _ _ _ hP hD hS (lv_sub hl [0, 2, 3, 4] rfl)
            · have hw := hw.2 c_25
              refine lv_iconst (v := 0) hx hb dX2_reaches_126 (by decide) ?_
              exact hret _ (lsm_16, nsm_17, lst_13, nst_14) _ _ _ _ (Or.inl rfl) hw hP hD hS dX2_reaches_127
        clear hR
        refine lv_icmp_gt (tgt := 102) hx hb dX2_reaches_95 (by decide) (fun c_21 => ?_) (fun c_21 => ?_)
        · have hw := hw.1 c_21
          refine lv_iconst (v := 0) hx hb dX2_reaches_102 (by decide) ?_
          exact hJ103_20 0 hw _ _ _ hP hD hS (lv_sub hl [0, 1, 2, 3] rfl)
        · have hw := hw.2 c_21
          refine lv_iconst (v := 1) hx hb dX2_reaches_98 (by decide) ?_
          refine lv_goto (tgt := 103) hx hb dX2_reaches_99 (by decide) ?_
          exact hJ103_20 1 hw _ _ _ hP hD hS (lv_sub hl [0, 1, 2, 3] rfl)
      · have hw := hw.2 c_27
        refine lv_iconst (v := 1) hx hb dX2_reaches_72 (by decide) ?_
        exact hret _ (lsm_11, nsm_12, lst_13, nst_14) _ _ _ _ (Or.inr rfl) hw hP hD hS dX2_reaches_73
