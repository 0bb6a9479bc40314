/-! The law: its calls that may throw (laid by wip/whole/gen.py) -/
def wX4OUT (cI cJ : ClassId) (Ax Bx Aw As Asm Bsm Ast Bst Ag Agu Bgu Agd Bgd Ae Aeu Beu Aed Bed Af Afu Bfu Afd Bfd Bo : Nat) (row : Nat → Int32) (rc : Int32) (wa : Int32) (wb : Int32) (wlo : Int32) (whi : Int32) (wtot : Int64) (lsm : Nat → Int32) (nsm : Int32) (lst : Nat → Int32) (nst : Int32) (lgu : Nat → Int32) (ngu : Int32) (lgd : Nat → Int32) (ngd : Int32) (leu : Nat → Int32) (neu : Int32) (led : Nat → Int32) (ned : Int32) (lfu : Nat → Int32) (nfu : Int32) (lfd : Nat → Int32) (nfd : Int32) (ans : Int32) (rfc : Int32) (rfb : Int32) (out : Nat → Int64) : va_W := [(Ax, .inr (4, [.ref Bx, .int rc, .ref Aw, .ref As, .ref Ag, .ref Ae, .ref Af, .int ans, .int rfc, .int rfb])), (Bx, .inl (cI, 60, .inl row)), (Aw, .inr (3, [.int wa, .int wb, .int wlo, .int whi, .long wtot])), (As, .inr (2, [.ref Asm, .ref Ast])), (Asm, .inr (1, [.ref Bsm, .int nsm])), (Bsm, .inl (cI, 64, .inl lsm)), (Ast, .inr (1, [.ref Bst, .int nst])), (Bst, .inl (cI, 64, .inl lst)), (Ag, .inr (0, [.ref Agu, .ref Agd])), (Agu, .inr (1, [.ref Bgu, .int ngu])), (Bgu, .inl (cI, 64, .inl lgu)), (Agd, .inr (1, [.ref Bgd, .int ngd])), (Bgd, .inl (cI, 64, .inl lgd)), (Ae, .inr (0, [.ref Aeu, .ref Aed])), (Aeu, .inr (1, [.ref Beu, .int neu])), (Beu, .inl (cI, 64, .inl leu)), (Aed, .inr (1, [.ref Bed, .int ned])), (Bed, .inl (cI, 64, .inl led)), (Af, .inr (0, [.ref Afu, .ref Afd])), (Afu, .inr (1, [.ref Bfu, .int nfu])), (Bfu, .inl (cI, 64, .inl lfu)), (Afd, .inr (1, [.ref Bfd, .int nfd])), (Bfd, .inl (cI, 64, .inl lfd)), (Bo, .inl (cJ, 1, .inr (.inl out)))]
abbrev rm_L_remove : Room := { frames := 7, cells := 1, slots := 6, locals := 105 }
abbrev rm_L_table : Room := { frames := 7, cells := 1, slots := 6, locals := 106 }
abbrev rm_L_draw : Room := { frames := 7, cells := 1, slots := 6, locals := 105 }
abbrev rm_L_isNear : Room := { frames := 7, cells := 1, slots := 6, locals := 104 }
abbrev rm_L_budget : Room := { frames := 7, cells := 1, slots := 6, locals := 110 }
abbrev rm_L_raise : Room := { frames := 7, cells := 1, slots := 6, locals := 139 }
abbrev rm_L_isEnough : Room := { frames := 7, cells := 1, slots := 6, locals := 114 }
abbrev rm_L_least : Room := { frames := 7, cells := 1, slots := 6, locals := 117 }
abbrev rm_L_ask : Room := { frames := 7, cells := 1, slots := 6, locals := 143 }
abbrev rm_L_limb : Room := { frames := 7, cells := 1, slots := 6, locals := 107 }
abbrev rm_L_told : Room := { frames := 7, cells := 1, slots := 6, locals := 103 }
def w_L_remove (row : Nat → Int32) (rc : Int32) (out : Nat → Int64) (p1 : Int32) (Q : Int32 → (Nat → Int32) → Int32 → (Nat → Int64) → Prop) : Prop :=
  w_X4_remove row rc p1 (Q (1 : Int32) row rc out) (fun (r_2 : Int32) (row_3 : Nat → Int32) (rc_4 : Int32) =>
  vp_in 0 1 ∧
  ∀ (out_5 : Nat → Int64), out_5 = vp_updL out (0 : Int32).toNatClampNeg r_2.toInt64 →
  Q (0 : Int32) row_3 rc_4 out_5)

def w_L_table (wa : Int32) (wb : Int32) (wlo : Int32) (whi : Int32) (wtot : Int64) (out : Nat → Int64) (p1 : Int32) (p2 : Int32) (p3 : Int32) (p4 : Int32) (Q : Int32 → Int32 → Int32 → Int32 → Int32 → Int64 → (Nat → Int64) → Prop) : Prop :=
  w_X4_table wa wb wlo whi wtot p1 p2 p3 p4 (Q (1 : Int32) wa wb wlo whi wtot out) (fun (r_2 : Int64) (wa_3 : Int32) (wb_4 : Int32) (wlo_5 : Int32) (whi_6 : Int32) (wtot_7 : Int64) =>
  vp_in 0 1 ∧
  ∀ (out_8 : Nat → Int64), out_8 = vp_updL out (0 : Int32).toNatClampNeg r_2 →
  Q (0 : Int32) wa_3 wb_4 wlo_5 whi_6 wtot_7 out_8)

def w_L_draw (wa : Int32) (wb : Int32) (wlo : Int32) (whi : Int32) (wtot : Int64) (out : Nat → Int64) (p1 : Int32) (p2 : Int64) (Q : Int32 → (Nat → Int64) → Prop) : Prop :=
  w_X4_draw wa wb wlo whi wtot p1 p2 (Q (1 : Int32) out) (fun (r_2 : Int32) =>
  vp_in 0 1 ∧
  ∀ (out_3 : Nat → Int64), out_3 = vp_updL out (0 : Int32).toNatClampNeg r_2.toInt64 →
  Q (0 : Int32) out_3)

def w_L_isNear (wa : Int32) (wb : Int32) (wlo : Int32) (whi : Int32) (wtot : Int64) (out : Nat → Int64) (p1 : Int32) (p2 : Int32) (Q : Int32 → (Nat → Int64) → Prop) : Prop :=
  w_X4_isNear wa wb wlo whi wtot p1 p2 (Q (1 : Int32) out) (fun (r_2 : Int32) =>
  ((r_2 = 0 →
    vp_in 0 1 ∧
    ∀ (out_3 : Nat → Int64), out_3 = vp_updL out (0 : Int32).toNatClampNeg 0 →
    Q (0 : Int32) out_3
   ) ∧ (¬ r_2 = 0 →
    vp_in 0 1 ∧
    ∀ (out_4 : Nat → Int64), out_4 = vp_updL out (0 : Int32).toNatClampNeg 1 →
    Q (0 : Int32) out_4
   )))

def w_L_budget (lgu : Nat → Int32) (ngu : Int32) (lgd : Nat → Int32) (ngd : Int32) (leu : Nat → Int32) (neu : Int32) (led : Nat → Int32) (ned : Int32) (lfu : Nat → Int32) (nfu : Int32) (lfd : Nat → Int32) (nfd : Int32) (ans : Int32) (rfc : Int32) (rfb : Int32) (p1 : Int32) (p2 : Int32) (Q : Int32 → (Nat → Int32) → Int32 → (Nat → Int32) → Int32 → (Nat → Int32) → Int32 → (Nat → Int32) → Int32 → (Nat → Int32) → Int32 → (Nat → Int32) → Int32 → Int32 → Int32 → Int32 → Prop) : Prop :=
  w_X4_budget lgu ngu lgd ngd leu neu led ned lfu nfu lfd nfd ans rfc rfb p1 p2 (Q (1 : Int32) lgu ngu lgd ngd leu neu led ned lfu nfu lfd nfd ans rfc rfb) (fun (lgu_2 : Nat → Int32) (ngu_3 : Int32) (lgd_4 : Nat → Int32) (ngd_5 : Int32) (leu_6 : Nat → Int32) (neu_7 : Int32) (led_8 : Nat → Int32) (ned_9 : Int32) (lfu_10 : Nat → Int32) (nfu_11 : Int32) (lfd_12 : Nat → Int32) (nfd_13 : Int32) (ans_14 : Int32) (rfc_15 : Int32) (rfb_16 : Int32) =>
  Q (0 : Int32) lgu_2 ngu_3 lgd_4 ngd_5 leu_6 neu_7 led_8 ned_9 lfu_10 nfu_11 lfd_12 nfd_13 ans_14 rfc_15 rfb_16)

def w_L_raise (lgu : Nat → Int32) (ngu : Int32) (lgd : Nat → Int32) (ngd : Int32) (lfu : Nat → Int32) (nfu : Int32) (lfd : Nat → Int32) (nfd : Int32) (p1 : Int32) (p2 : Int32) (Q : Int32 → (Nat → Int32) → Int32 → (Nat → Int32) → Int32 → (Nat → Int32) → Int32 → (Nat → Int32) → Int32 → Prop) : Prop :=
  w_X4_raise lgu ngu lgd ngd lfu nfu lfd nfd p1 p2 (Q (1 : Int32) lgu ngu lgd ngd lfu nfu lfd nfd) (fun (lgu_2 : Nat → Int32) (ngu_3 : Int32) (lgd_4 : Nat → Int32) (ngd_5 : Int32) (lfu_6 : Nat → Int32) (nfu_7 : Int32) (lfd_8 : Nat → Int32) (nfd_9 : Int32) =>
  Q (0 : Int32) lgu_2 ngu_3 lgd_4 ngd_5 lfu_6 nfu_7 lfd_8 nfd_9)

def w_L_isEnough (wa : Int32) (wb : Int32) (lsm : Nat → Int32) (nsm : Int32) (lst : Nat → Int32) (nst : Int32) (out : Nat → Int64) (p1 : Int32) (p2 : Int32) (Q : Int32 → (Nat → Int32) → Int32 → (Nat → Int32) → Int32 → (Nat → Int64) → Prop) : Prop :=
  w_X4_isEnough wa wb lsm nsm lst nst p1 p2 (Q (1 : Int32) lsm nsm lst nst out) (fun (r_2 : Int32) (lsm_3 : Nat → Int32) (nsm_4 : Int32) (lst_5 : Nat → Int32) (nst_6 : Int32) =>
  ((r_2 = 0 →
    vp_in 0 1 ∧
    ∀ (out_7 : Nat → Int64), out_7 = vp_updL out (0 : Int32).toNatClampNeg 0 →
    Q (0 : Int32) lsm_3 nsm_4 lst_5 nst_6 out_7
   ) ∧ (¬ r_2 = 0 →
    vp_in 0 1 ∧
    ∀ (out_8 : Nat → Int64), out_8 = vp_updL out (0 : Int32).toNatClampNeg 1 →
    Q (0 : Int32) lsm_3 nsm_4 lst_5 nst_6 out_8
   )))

def w_L_least (wa : Int32) (wb : Int32) (lsm : Nat → Int32) (nsm : Int32) (lst : Nat → Int32) (nst : Int32) (out : Nat → Int64) (p1 : Int32) (Q : Int32 → (Nat → Int32) → Int32 → (Nat → Int32) → Int32 → (Nat → Int64) → Prop) : Prop :=
  w_X4_least wa wb lsm nsm lst nst p1 (Q (1 : Int32) lsm nsm lst nst out) (fun (r_2 : Int32) (lsm_3 : Nat → Int32) (nsm_4 : Int32) (lst_5 : Nat → Int32) (nst_6 : Int32) =>
  vp_in 0 1 ∧
  ∀ (out_7 : Nat → Int64), out_7 = vp_updL out (0 : Int32).toNatClampNeg r_2.toInt64 →
  Q (0 : Int32) lsm_3 nsm_4 lst_5 nst_6 out_7)

def w_L_ask (row : Nat → Int32) (rc : Int32) (wa : Int32) (wb : Int32) (wlo : Int32) (whi : Int32) (wtot : Int64) (lsm : Nat → Int32) (nsm : Int32) (lst : Nat → Int32) (nst : Int32) (leu : Nat → Int32) (neu : Int32) (led : Nat → Int32) (ned : Int32) (lfu : Nat → Int32) (nfu : Int32) (lfd : Nat → Int32) (nfd : Int32) (ans : Int32) (rfc : Int32) (rfb : Int32) (out : Nat → Int64) (p1 : Int32) (p2 : Int32) (p3 : Int32) (p4 : Int32) (p5 : Int64) (Q : Int32 → (Nat → Int32) → Int32 → (Nat → Int32) → Int32 → (Nat → Int32) → Int32 → (Nat → Int32) → Int32 → (Nat → Int32) → Int32 → (Nat → Int32) → Int32 → Int32 → Int32 → Int32 → (Nat → Int64) → Prop) : Prop :=
  w_X4_ask row rc wa wb wlo whi wtot lsm nsm lst nst leu neu led ned lfu nfu lfd nfd ans rfc rfb p1 p2 p3 p4 p5 (Q (1 : Int32) lsm nsm lst nst leu neu led ned lfu nfu lfd nfd ans rfc rfb out) (fun (r_2 : Int32) (lsm_3 : Nat → Int32) (nsm_4 : Int32) (lst_5 : Nat → Int32) (nst_6 : Int32) (leu_7 : Nat → Int32) (neu_8 : Int32) (led_9 : Nat → Int32) (ned_10 : Int32) (lfu_11 : Nat → Int32) (nfu_12 : Int32) (lfd_13 : Nat → Int32) (nfd_14 : Int32) (ans_15 : Int32) (rfc_16 : Int32) (rfb_17 : Int32) =>
  vp_in 0 1 ∧
  ∀ (out_18 : Nat → Int64), out_18 = vp_updL out (0 : Int32).toNatClampNeg r_2.toInt64 →
  Q (0 : Int32) lsm_3 nsm_4 lst_5 nst_6 leu_7 neu_8 led_9 ned_10 lfu_11 nfu_12 lfd_13 nfd_14 ans_15 rfc_16 rfb_17 out_18)

def w_L_limb (lgu : Nat → Int32) (ngu : Int32) (lgd : Nat → Int32) (ngd : Int32) (leu : Nat → Int32) (neu : Int32) (led : Nat → Int32) (ned : Int32) (lfu : Nat → Int32) (nfu : Int32) (lfd : Nat → Int32) (nfd : Int32) (out : Nat → Int64) (p1 : Int32) (p2 : Int32) (p3 : Int32) (Q : Int32 → (Nat → Int64) → Prop) : Prop :=
  w_X4_limb lgu ngu lgd ngd leu neu led ned lfu nfu lfd nfd p1 p2 p3 (Q (1 : Int32) out) (fun (r_2 : Int32) =>
  vp_in 0 1 ∧
  ∀ (out_3 : Nat → Int64), out_3 = vp_updL out (0 : Int32).toNatClampNeg r_2.toInt64 →
  Q (0 : Int32) out_3)

def w_L_told (rc : Int32) (wa : Int32) (wb : Int32) (wlo : Int32) (whi : Int32) (ans : Int32) (rfc : Int32) (rfb : Int32) (out : Nat → Int64) (p1 : Int32) (Q : Int32 → (Nat → Int64) → Prop) : Prop :=
  w_X4_told rc wa wb wlo whi ans rfc rfb p1 (Q (1 : Int32) out) (fun (r_2 : Int32) =>
  vp_in 0 1 ∧
  ∀ (out_3 : Nat → Int64), out_3 = vp_updL out (0 : Int32).toNatClampNeg r_2.toInt64 →
  Q (0 : Int32) out_3)

theorem fL_remove_13 : Cond.classLink RL 13 "java/lang/IndexOutOfBoundsException" ∈ wsL_remove := by decide +kernel
set_option maxHeartbeats 4000000 in
set_option maxRecDepth 100000 in
theorem M_L_remove (l : Launch) (hst : l.stackTraces = false) (sa : Nat → Nat) (G : va_G) (cI cJ : ClassId) (Ax Bx Aw As Asm Bsm Ast Bst Ag Agu Bgu Agd Bgd Ae Aeu Beu Aed Bed Af Afu Bfu Afd Bfd Bo : Nat) (row : Nat → Int32) (rc : Int32) (wa : Int32) (wb : Int32) (wlo : Int32) (whi : Int32) (wtot : Int64) (lsm : Nat → Int32) (nsm : Int32) (lst : Nat → Int32) (nst : Int32) (lgu : Nat → Int32) (ngu : Int32) (lgd : Nat → Int32) (ngd : Int32) (leu : Nat → Int32) (neu : Int32) (led : Nat → Int32) (ned : Int32) (lfu : Nat → Int32) (nfu : Int32) (lfd : Nat → Int32) (nfd : Int32) (ans : Int32) (rfc : Int32) (rfb : Int32) (out : Nat → Int64) (p1 : Int32) (Q : Int32 → (Nat → Int32) → Int32 → (Nat → Int64) → Prop) (hw : w_L_remove row rc out p1 Q) : Kh l yL_remove wsL_remove rm_L_remove xTx sa G cI cJ [.ref Ax, .int p1, .ref Bo] (wX4OUT cI cJ Ax Bx Aw As Asm Bsm Ast Bst Ag Agu Bgu Agd Bgd Ae Aeu Beu Aed Bed Af Afu Bfu Afd Bfd Bo row rc wa wb wlo whi wtot lsm nsm lst nst lgu ngu lgd ngd leu neu led ned lfu nfu lfd nfd ans rfc rfb out) (fun (r : Int32) (u : (Nat → Int32) × (Int32) × (Nat → Int64)) => Q r u.1 u.2.1 u.2.2) (fun u => (wX4OUT cI cJ Ax Bx Aw As Asm Bsm Ast Bst Ag Agu Bgu Agd Bgd Ae Aeu Beu Aed Bed Af Afu Bfu Afd Bfd Bo u.1 u.2.1 wa wb wlo whi wtot lsm nsm lst nst lgu ngu lgd ngd leu neu led ned lfu nfu lfd nfd ans rfc rfb u.2.2)) := by
  refine kh_intro (cc := cL_remove) (maxL := 4) [(0, 9, 12, 13)] (by decide) rfl (Nat.le_of_ble_eq_true rfl) ?_
  intro p e s m args below meth c A Z ls hx hb hml hts hown ht hP hK hD hS hA hE hl hret
  have hl : lv_has ls 4 [(0, .ref Ax), (1, .int p1), (2, .ref Bo)] := hl
  unfold w_L_remove at hw
  refine lv_aload_n hx hb dL_remove_0 rfl (lv_at hl 2 rfl) ?_
  refine lv_iconst (v := 0) hx hb dL_remove_1 (by decide) ?_
  refine lv_aload_n hx hb dL_remove_2 rfl (lv_at hl 0 rfl) ?_
  refine lv_iload_n hx hb dL_remove_3 rfl (lv_at hl 1 rfl) ?_
  refine k_xi (M_X4_remove l hst sa G cI cJ Ax Bx Aw As Asm Bsm Ast Bst Ag Agu Bgu Agd Bgd Ae Aeu Beu Aed Bed Af Afu Bfu Afd Bfd row rc wa wb wlo whi wtot lsm nsm lst nst lgu ngu lgd ngd leu neu led ned lfu nfu lfd nfd ans rfc rfb p1 _ _ hw) ⟨hx, hb, hml, hown, hts⟩ (cwV 1 hts gL_remove_X4_remove rfl rfl rfl (by decide +kernel) ⟨(Nat.le_of_ble_eq_true rfl), (Nat.le_of_ble_eq_true rfl)⟩) hK hP hD hS hA hE [0, 1, 2, 3, 4, 5, 6, 7, 8, 9, 10, 11, 12, 13, 14, 15, 16, 17, 18, 19, 20, 21, 22] [23] [1, 2, 3, 4, 5, 6, 7, 8, 9, 10, 11, 12, 13, 14, 15, 16, 17, 18, 19, 20, 21, 22, 23, 0] (wr := [(Bo, .inl (cJ, 1, .inr (.inl out)))]) (wn := fun u : (Nat → Int32) × (Int32) => (wX4OUT cI cJ Ax Bx Aw As Asm Bsm Ast Bst Ag Agu Bgu Agd Bgd Ae Aeu Beu Aed Bed Af Afu Bfu Afd Bfd Bo u.1 u.2 wa wb wlo whi wtot lsm nsm lst nst lgu ngu lgd ngd leu neu led ned lfu nfu lfd nfd ans rfc rfb out)) (x := ⟨0, 9, 12, 13⟩) rfl rfl (by decide) (by decide) (by decide) (by decide) (fun _ => rfl) rfl (rest := [.int 0, .ref Bo]) (q0 := 0) rfl rfl rfl hl.1 rfl (Nat.le_of_ble_eq_true rfl) (Nat.le_of_ble_eq_true rfl) (Nat.le_of_ble_eq_true rfl) dL_remove_4 ht (by decide) (by decide) fL_remove_13 (by decide +kernel) (fun q9_1 H locs hw hP hD hS => ?_) (fun r_2 u H locs hw hP hD hS => ?_)
  · refine lv_astore_n (lv' := [(3, .ref q9_1), (0, .ref Ax), (1, .int p1), (2, .ref Bo)]) hx hb dL_remove_12 rfl hl (by decide) rfl (fun ls hl => ?_)
    refine lv_iconst (v := 1) hx hb dL_remove_13 (by decide) ?_
    exact hret _ (row, rc, out) _ _ _ _ hw hP hD hS dL_remove_14
  obtain ⟨row_3, rc_4⟩ := u
  have hP : va_P G vwCl (wX4OUT cI cJ Ax Bx Aw As Asm Bsm Ast Bst Ag Agu Bgu Agd Bgd Ae Aeu Beu Aed Bed Af Afu Bfu Afd Bfd Bo row_3 rc_4 wa wb wlo whi wtot lsm nsm lst nst lgu ngu lgd ngd leu neu led ned lfu nfu lfd nfd ans rfc rfb out) H := hP
  have hD : va_D A (wX4OUT cI cJ Ax Bx Aw As Asm Bsm Ast Bst Ag Agu Bgu Agd Bgd Ae Aeu Beu Aed Bed Af Afu Bfu Afd Bfd Bo row_3 rc_4 wa wb wlo whi wtot lsm nsm lst nst lgu ngu lgd ngd leu neu led ned lfu nfu lfd nfd ans rfc rfb out) := hD
  refine lv_i2l (v := r_2.toInt64) hx hb dL_remove_7 rfl ?_
  obtain ⟨hin, hw⟩ := hw
  refine k_last hx hb hK hP hD hS 23 rfl hin (w' := fun g => (wX4OUT cI cJ Ax Bx Aw As Asm Bsm Ast Bst Ag Agu Bgu Agd Bgd Ae Aeu Beu Aed Bed Af Afu Bfu Afd Bfd Bo row_3 rc_4 wa wb wlo whi wtot lsm nsm lst nst lgu ngu lgd ngd leu neu led ned lfu nfu lfd nfd ans rfc rfb g)) (fun _ => rfl) dL_remove_8 (fun out_5 eout_5 H locs hP hD hS => ?_)
  have hw := hw out_5 eout_5
  refine lv_goto (tgt := 15) hx hb dL_remove_9 (by decide) ?_
  refine lv_iconst (v := 0) hx hb dL_remove_15 (by decide) ?_
  exact hret _ (row_3, rc_4, out_5) _ _ _ _ hw hP hD hS dL_remove_16
theorem fL_table_19 : Cond.classLink RL 19 "java/lang/IllegalArgumentException" ∈ wsL_table := by decide +kernel
set_option maxHeartbeats 4000000 in
set_option maxRecDepth 100000 in
theorem M_L_table (l : Launch) (hst : l.stackTraces = false) (sa : Nat → Nat) (G : va_G) (cI cJ : ClassId) (Ax Bx Aw As Asm Bsm Ast Bst Ag Agu Bgu Agd Bgd Ae Aeu Beu Aed Bed Af Afu Bfu Afd Bfd Bo : Nat) (row : Nat → Int32) (rc : Int32) (wa : Int32) (wb : Int32) (wlo : Int32) (whi : Int32) (wtot : Int64) (lsm : Nat → Int32) (nsm : Int32) (lst : Nat → Int32) (nst : Int32) (lgu : Nat → Int32) (ngu : Int32) (lgd : Nat → Int32) (ngd : Int32) (leu : Nat → Int32) (neu : Int32) (led : Nat → Int32) (ned : Int32) (lfu : Nat → Int32) (nfu : Int32) (lfd : Nat → Int32) (nfd : Int32) (ans : Int32) (rfc : Int32) (rfb : Int32) (out : Nat → Int64) (p1 : Int32) (p2 : Int32) (p3 : Int32) (p4 : Int32) (Q : Int32 → Int32 → Int32 → Int32 → Int32 → Int64 → (Nat → Int64) → Prop) (hw : w_L_table wa wb wlo whi wtot out p1 p2 p3 p4 Q) : Kh l yL_table wsL_table rm_L_table xTx sa G cI cJ [.ref Ax, .int p1, .int p2, .int p3, .int p4, .ref Bo] (wX4OUT cI cJ Ax Bx Aw As Asm Bsm Ast Bst Ag Agu Bgu Agd Bgd Ae Aeu Beu Aed Bed Af Afu Bfu Afd Bfd Bo row rc wa wb wlo whi wtot lsm nsm lst nst lgu ngu lgd ngd leu neu led ned lfu nfu lfd nfd ans rfc rfb out) (fun (r : Int32) (u : (Int32) × (Int32) × (Int32) × (Int32) × (Int64) × (Nat → Int64)) => Q r u.1 u.2.1 u.2.2.1 u.2.2.2.1 u.2.2.2.2.1 u.2.2.2.2.2) (fun u => (wX4OUT cI cJ Ax Bx Aw As Asm Bsm Ast Bst Ag Agu Bgu Agd Bgd Ae Aeu Beu Aed Bed Af Afu Bfu Afd Bfd Bo row rc u.1 u.2.1 u.2.2.1 u.2.2.2.1 u.2.2.2.2.1 lsm nsm lst nst lgu ngu lgd ngd leu neu led ned lfu nfu lfd nfd ans rfc rfb u.2.2.2.2.2)) := by
  refine kh_intro (cc := cL_table) (maxL := 7) [(0, 13, 16, 19)] (by decide) rfl (Nat.le_of_ble_eq_true rfl) ?_
  intro p e s m args below meth c A Z ls hx hb hml hts hown ht hP hK hD hS hA hE hl hret
  have hl : lv_has ls 7 [(0, .ref Ax), (1, .int p1), (2, .int p2), (3, .int p3), (4, .int p4), (5, .ref Bo)] := hl
  unfold w_L_table at hw
  refine lv_aload hx hb dL_table_0 (lv_at hl 5 rfl) ?_
  refine lv_iconst (v := 0) hx hb dL_table_2 (by decide) ?_
  refine lv_aload_n hx hb dL_table_3 rfl (lv_at hl 0 rfl) ?_
  refine lv_iload_n hx hb dL_table_4 rfl (lv_at hl 1 rfl) ?_
  refine lv_iload_n hx hb dL_table_5 rfl (lv_at hl 2 rfl) ?_
  refine lv_iload_n hx hb dL_table_6 rfl (lv_at hl 3 rfl) ?_
  refine lv_iload hx hb dL_table_7 (lv_at hl 4 rfl) ?_
  refine k_xl (M_X4_table l hst sa G cI cJ Ax Bx Aw As Asm Bsm Ast Bst Ag Agu Bgu Agd Bgd Ae Aeu Beu Aed Bed Af Afu Bfu Afd Bfd row rc wa wb wlo whi wtot lsm nsm lst nst lgu ngu lgd ngd leu neu led ned lfu nfu lfd nfd ans rfc rfb p1 p2 p3 p4 _ _ hw) ⟨hx, hb, hml, hown, hts⟩ (cwV 4 hts gL_table_X4_table rfl rfl rfl (by decide +kernel) ⟨(Nat.le_of_ble_eq_true rfl), (Nat.le_of_ble_eq_true rfl)⟩) hK hP hD hS hA hE [0, 1, 2, 3, 4, 5, 6, 7, 8, 9, 10, 11, 12, 13, 14, 15, 16, 17, 18, 19, 20, 21, 22] [23] [1, 2, 3, 4, 5, 6, 7, 8, 9, 10, 11, 12, 13, 14, 15, 16, 17, 18, 19, 20, 21, 22, 23, 0] (wr := [(Bo, .inl (cJ, 1, .inr (.inl out)))]) (wn := fun u : (Int32) × (Int32) × (Int32) × (Int32) × (Int64) => (wX4OUT cI cJ Ax Bx Aw As Asm Bsm Ast Bst Ag Agu Bgu Agd Bgd Ae Aeu Beu Aed Bed Af Afu Bfu Afd Bfd Bo row rc u.1 u.2.1 u.2.2.1 u.2.2.2.1 u.2.2.2.2 lsm nsm lst nst lgu ngu lgd ngd leu neu led ned lfu nfu lfd nfd ans rfc rfb out)) (x := ⟨0, 13, 16, 19⟩) rfl rfl (by decide) (by decide) (by decide) (by decide) (fun _ => rfl) rfl (rest := [.int 0, .ref Bo]) (q0 := 0) rfl rfl rfl hl.1 rfl (Nat.le_of_ble_eq_true rfl) (Nat.le_of_ble_eq_true rfl) (Nat.le_of_ble_eq_true rfl) dL_table_9 ht (by decide) (by decide) fL_table_19 (by decide +kernel) (fun q9_1 H locs hw hP hD hS => ?_) (fun r_2 u H locs hw hP hD hS => ?_)
  · refine lv_astore (lv' := [(6, .ref q9_1), (0, .ref Ax), (1, .int p1), (2, .int p2), (3, .int p3), (4, .int p4), (5, .ref Bo)]) hx hb dL_table_16 hl (by decide) rfl (fun ls hl => ?_)
    refine lv_iconst (v := 1) hx hb dL_table_18 (by decide) ?_
    exact hret _ (wa, wb, wlo, whi, wtot, out) _ _ _ _ hw hP hD hS dL_table_19
  obtain ⟨wa_3, wb_4, wlo_5, whi_6, wtot_7⟩ := u
  have hP : va_P G vwCl (wX4OUT cI cJ Ax Bx Aw As Asm Bsm Ast Bst Ag Agu Bgu Agd Bgd Ae Aeu Beu Aed Bed Af Afu Bfu Afd Bfd Bo row rc wa_3 wb_4 wlo_5 whi_6 wtot_7 lsm nsm lst nst lgu ngu lgd ngd leu neu led ned lfu nfu lfd nfd ans rfc rfb out) H := hP
  have hD : va_D A (wX4OUT cI cJ Ax Bx Aw As Asm Bsm Ast Bst Ag Agu Bgu Agd Bgd Ae Aeu Beu Aed Bed Af Afu Bfu Afd Bfd Bo row rc wa_3 wb_4 wlo_5 whi_6 wtot_7 lsm nsm lst nst lgu ngu lgd ngd leu neu led ned lfu nfu lfd nfd ans rfc rfb out) := hD
  obtain ⟨hin, hw⟩ := hw
  refine k_last hx hb hK hP hD hS 23 rfl hin (w' := fun g => (wX4OUT cI cJ Ax Bx Aw As Asm Bsm Ast Bst Ag Agu Bgu Agd Bgd Ae Aeu Beu Aed Bed Af Afu Bfu Afd Bfd Bo row rc wa_3 wb_4 wlo_5 whi_6 wtot_7 lsm nsm lst nst lgu ngu lgd ngd leu neu led ned lfu nfu lfd nfd ans rfc rfb g)) (fun _ => rfl) dL_table_12 (fun out_8 eout_8 H locs hP hD hS => ?_)
  have hw := hw out_8 eout_8
  refine lv_goto (tgt := 20) hx hb dL_table_13 (by decide) ?_
  refine lv_iconst (v := 0) hx hb dL_table_20 (by decide) ?_
  exact hret _ (wa_3, wb_4, wlo_5, whi_6, wtot_7, out_8) _ _ _ _ hw hP hD hS dL_table_21
theorem fL_draw_19 : Cond.classLink RL 19 "java/lang/IllegalArgumentException" ∈ wsL_draw := by decide +kernel
set_option maxHeartbeats 4000000 in
set_option maxRecDepth 100000 in
theorem M_L_draw (l : Launch) (hst : l.stackTraces = false) (sa : Nat → Nat) (G : va_G) (cI cJ : ClassId) (Ax Bx Aw As Asm Bsm Ast Bst Ag Agu Bgu Agd Bgd Ae Aeu Beu Aed Bed Af Afu Bfu Afd Bfd Bo : Nat) (row : Nat → Int32) (rc : Int32) (wa : Int32) (wb : Int32) (wlo : Int32) (whi : Int32) (wtot : Int64) (lsm : Nat → Int32) (nsm : Int32) (lst : Nat → Int32) (nst : Int32) (lgu : Nat → Int32) (ngu : Int32) (lgd : Nat → Int32) (ngd : Int32) (leu : Nat → Int32) (neu : Int32) (led : Nat → Int32) (ned : Int32) (lfu : Nat → Int32) (nfu : Int32) (lfd : Nat → Int32) (nfd : Int32) (ans : Int32) (rfc : Int32) (rfb : Int32) (out : Nat → Int64) (p1 : Int32) (p2 : Int64) (Q : Int32 → (Nat → Int64) → Prop) (hw : w_L_draw wa wb wlo whi wtot out p1 p2 Q) : Kh l yL_draw wsL_draw rm_L_draw xTx sa G cI cJ [.ref Ax, .int p1, .long p2, .ref Bo] (wX4OUT cI cJ Ax Bx Aw As Asm Bsm Ast Bst Ag Agu Bgu Agd Bgd Ae Aeu Beu Aed Bed Af Afu Bfu Afd Bfd Bo row rc wa wb wlo whi wtot lsm nsm lst nst lgu ngu lgd ngd leu neu led ned lfu nfu lfd nfd ans rfc rfb out) (fun (r : Int32) (u : (Nat → Int64)) => Q r u) (fun u => (wX4OUT cI cJ Ax Bx Aw As Asm Bsm Ast Bst Ag Agu Bgu Agd Bgd Ae Aeu Beu Aed Bed Af Afu Bfu Afd Bfd Bo row rc wa wb wlo whi wtot lsm nsm lst nst lgu ngu lgd ngd leu neu led ned lfu nfu lfd nfd ans rfc rfb u)) := by
  refine kh_intro (cc := cL_draw) (maxL := 6) [(0, 11, 14, 19)] (by decide) rfl (Nat.le_of_ble_eq_true rfl) ?_
  intro p e s m args below meth c A Z ls hx hb hml hts hown ht hP hK hD hS hA hE hl hret
  have hl : lv_has ls 6 [(0, .ref Ax), (1, .int p1), (2, .long p2), (4, .ref Bo)] := hl
  unfold w_L_draw at hw
  refine lv_aload hx hb dL_draw_0 (lv_at hl 3 rfl) ?_
  refine lv_iconst (v := 0) hx hb dL_draw_2 (by decide) ?_
  refine lv_aload_n hx hb dL_draw_3 rfl (lv_at hl 0 rfl) ?_
  refine lv_iload_n hx hb dL_draw_4 rfl (lv_at hl 1 rfl) ?_
  refine lv_lload_n hx hb dL_draw_5 rfl (lv_at hl 2 rfl) ?_
  refine k_xi (M_X4_draw l hst sa G cI cJ Ax Bx Aw As Asm Bsm Ast Bst Ag Agu Bgu Agd Bgd Ae Aeu Beu Aed Bed Af Afu Bfu Afd Bfd row rc wa wb wlo whi wtot lsm nsm lst nst lgu ngu lgd ngd leu neu led ned lfu nfu lfd nfd ans rfc rfb p1 p2 _ _ hw) ⟨hx, hb, hml, hown, hts⟩ (cwV 2 hts gL_draw_X4_draw rfl rfl rfl (by decide +kernel) ⟨(Nat.le_of_ble_eq_true rfl), (Nat.le_of_ble_eq_true rfl)⟩) hK hP hD hS hA hE [0, 1, 2, 3, 4, 5, 6, 7, 8, 9, 10, 11, 12, 13, 14, 15, 16, 17, 18, 19, 20, 21, 22] [23] [1, 2, 3, 4, 5, 6, 7, 8, 9, 10, 11, 12, 13, 14, 15, 16, 17, 18, 19, 20, 21, 22, 23, 0] (wr := [(Bo, .inl (cJ, 1, .inr (.inl out)))]) (wn := fun u : Unit => (wX4OUT cI cJ Ax Bx Aw As Asm Bsm Ast Bst Ag Agu Bgu Agd Bgd Ae Aeu Beu Aed Bed Af Afu Bfu Afd Bfd Bo row rc wa wb wlo whi wtot lsm nsm lst nst lgu ngu lgd ngd leu neu led ned lfu nfu lfd nfd ans rfc rfb out)) (x := ⟨0, 11, 14, 19⟩) rfl rfl (by decide) (by decide) (by decide) (by decide) (fun _ => rfl) rfl (rest := [.int 0, .ref Bo]) (q0 := 0) rfl rfl rfl hl.1 rfl (Nat.le_of_ble_eq_true rfl) (Nat.le_of_ble_eq_true rfl) (Nat.le_of_ble_eq_true rfl) dL_draw_6 ht (by decide) (by decide) fL_draw_19 (by decide +kernel) (fun q9_1 H locs hw hP hD hS => ?_) (fun r_2 u H locs hw hP hD hS => ?_)
  · refine lv_astore (lv' := [(5, .ref q9_1), (0, .ref Ax), (1, .int p1), (2, .long p2), (4, .ref Bo)]) hx hb dL_draw_14 hl (by decide) rfl (fun ls hl => ?_)
    refine lv_iconst (v := 1) hx hb dL_draw_16 (by decide) ?_
    exact hret _ out _ _ _ _ hw hP hD hS dL_draw_17
  refine lv_i2l (v := r_2.toInt64) hx hb dL_draw_9 rfl ?_
  obtain ⟨hin, hw⟩ := hw
  refine k_last hx hb hK hP hD hS 23 rfl hin (w' := fun g => (wX4OUT cI cJ Ax Bx Aw As Asm Bsm Ast Bst Ag Agu Bgu Agd Bgd Ae Aeu Beu Aed Bed Af Afu Bfu Afd Bfd Bo row rc wa wb wlo whi wtot lsm nsm lst nst lgu ngu lgd ngd leu neu led ned lfu nfu lfd nfd ans rfc rfb g)) (fun _ => rfl) dL_draw_10 (fun out_3 eout_3 H locs hP hD hS => ?_)
  have hw := hw out_3 eout_3
  refine lv_goto (tgt := 18) hx hb dL_draw_11 (by decide) ?_
  refine lv_iconst (v := 0) hx hb dL_draw_18 (by decide) ?_
  exact hret _ out_3 _ _ _ _ hw hP hD hS dL_draw_19
theorem fL_isNear_19 : Cond.classLink RL 19 "java/lang/IllegalArgumentException" ∈ wsL_isNear := by decide +kernel
set_option maxHeartbeats 4000000 in
set_option maxRecDepth 100000 in
theorem M_L_isNear (l : Launch) (hst : l.stackTraces = false) (sa : Nat → Nat) (G : va_G) (cI cJ : ClassId) (Ax Bx Aw As Asm Bsm Ast Bst Ag Agu Bgu Agd Bgd Ae Aeu Beu Aed Bed Af Afu Bfu Afd Bfd Bo : Nat) (row : Nat → Int32) (rc : Int32) (wa : Int32) (wb : Int32) (wlo : Int32) (whi : Int32) (wtot : Int64) (lsm : Nat → Int32) (nsm : Int32) (lst : Nat → Int32) (nst : Int32) (lgu : Nat → Int32) (ngu : Int32) (lgd : Nat → Int32) (ngd : Int32) (leu : Nat → Int32) (neu : Int32) (led : Nat → Int32) (ned : Int32) (lfu : Nat → Int32) (nfu : Int32) (lfd : Nat → Int32) (nfd : Int32) (ans : Int32) (rfc : Int32) (rfb : Int32) (out : Nat → Int64) (p1 : Int32) (p2 : Int32) (Q : Int32 → (Nat → Int64) → Prop) (hw : w_L_isNear wa wb wlo whi wtot out p1 p2 Q) : Kh l yL_isNear wsL_isNear rm_L_isNear xTx sa G cI cJ [.ref Ax, .int p1, .int p2, .ref Bo] (wX4OUT cI cJ Ax Bx Aw As Asm Bsm Ast Bst Ag Agu Bgu Agd Bgd Ae Aeu Beu Aed Bed Af Afu Bfu Afd Bfd Bo row rc wa wb wlo whi wtot lsm nsm lst nst lgu ngu lgd ngd leu neu led ned lfu nfu lfd nfd ans rfc rfb out) (fun (r : Int32) (u : (Nat → Int64)) => Q r u) (fun u => (wX4OUT cI cJ Ax Bx Aw As Asm Bsm Ast Bst Ag Agu Bgu Agd Bgd Ae Aeu Beu Aed Bed Af Afu Bfu Afd Bfd Bo row rc wa wb wlo whi wtot lsm nsm lst nst lgu ngu lgd ngd leu neu led ned lfu nfu lfd nfd ans rfc rfb u)) := by
  refine kh_intro (cc := cL_isNear) (maxL := 5) [(0, 17, 20, 19)] (by decide) rfl (Nat.le_of_ble_eq_true rfl) ?_
  intro p e s m args below meth c A Z ls hx hb hml hts hown ht hP hK hD hS hA hE hl hret
  have hl : lv_has ls 5 [(0, .ref Ax), (1, .int p1), (2, .int p2), (3, .ref Bo)] := hl
  unfold w_L_isNear at hw
  refine lv_aload_n hx hb dL_isNear_0 rfl (lv_at hl 3 rfl) ?_
  refine lv_iconst (v := 0) hx hb dL_isNear_1 (by decide) ?_
  refine lv_aload_n hx hb dL_isNear_2 rfl (lv_at hl 0 rfl) ?_
  refine lv_iload_n hx hb dL_isNear_3 rfl (lv_at hl 1 rfl) ?_
  refine lv_iload_n hx hb dL_isNear_4 rfl (lv_at hl 2 rfl) ?_
  refine k_xi (M_X4_isNear l hst sa G cI cJ Ax Bx Aw As Asm Bsm Ast Bst Ag Agu Bgu Agd Bgd Ae Aeu Beu Aed Bed Af Afu Bfu Afd Bfd row rc wa wb wlo whi wtot lsm nsm lst nst lgu ngu lgd ngd leu neu led ned lfu nfu lfd nfd ans rfc rfb p1 p2 _ _ hw) ⟨hx, hb, hml, hown, hts⟩ (cwV 2 hts gL_isNear_X4_isNear rfl rfl rfl (by decide +kernel) ⟨(Nat.le_of_ble_eq_true rfl), (Nat.le_of_ble_eq_true rfl)⟩) hK hP hD hS hA hE [0, 1, 2, 3, 4, 5, 6, 7, 8, 9, 10, 11, 12, 13, 14, 15, 16, 17, 18, 19, 20, 21, 22] [23] [1, 2, 3, 4, 5, 6, 7, 8, 9, 10, 11, 12, 13, 14, 15, 16, 17, 18, 19, 20, 21, 22, 23, 0] (wr := [(Bo, .inl (cJ, 1, .inr (.inl out)))]) (wn := fun u : Unit => (wX4OUT cI cJ Ax Bx Aw As Asm Bsm Ast Bst Ag Agu Bgu Agd Bgd Ae Aeu Beu Aed Bed Af Afu Bfu Afd Bfd Bo row rc wa wb wlo whi wtot lsm nsm lst nst lgu ngu lgd ngd leu neu led ned lfu nfu lfd nfd ans rfc rfb out)) (x := ⟨0, 17, 20, 19⟩) rfl rfl (by decide) (by decide) (by decide) (by decide) (fun _ => rfl) rfl (rest := [.int 0, .ref Bo]) (q0 := 0) rfl rfl rfl hl.1 rfl (Nat.le_of_ble_eq_true rfl) (Nat.le_of_ble_eq_true rfl) (Nat.le_of_ble_eq_true rfl) dL_isNear_5 ht (by decide) (by decide) fL_isNear_19 (by decide +kernel) (fun q9_1 H locs hw hP hD hS => ?_) (fun r_2 u H locs hw hP hD hS => ?_)
  · refine lv_astore (lv' := [(4, .ref q9_1), (0, .ref Ax), (1, .int p1), (2, .int p2), (3, .ref Bo)]) hx hb dL_isNear_20 hl (by decide) rfl (fun ls hl => ?_)
    refine lv_iconst (v := 1) hx hb dL_isNear_22 (by decide) ?_
    exact hret _ out _ _ _ _ hw hP hD hS dL_isNear_23
  obtain ⟨hzr_2, hw⟩ := hw
  refine lv_if_eq (tgt := 15) hx hb dL_isNear_8 (by decide) (fun c_5 => ?_) (fun c_5 => ?_)
  · have hw := hw.1 c_5
    refine lv_lconst (v := 0) hx hb dL_isNear_15 (by decide) ?_
    obtain ⟨hin, hw⟩ := hw
    refine k_last hx hb hK hP hD hS 23 rfl hin (w' := fun g => (wX4OUT cI cJ Ax Bx Aw As Asm Bsm Ast Bst Ag Agu Bgu Agd Bgd Ae Aeu Beu Aed Bed Af Afu Bfu Afd Bfd Bo row rc wa wb wlo whi wtot lsm nsm lst nst lgu ngu lgd ngd leu neu led ned lfu nfu lfd nfd ans rfc rfb g)) (fun _ => rfl) dL_isNear_16 (fun out_3 eout_3 H locs hP hD hS => ?_)
    have hw := hw out_3 eout_3
    refine lv_goto (tgt := 24) hx hb dL_isNear_17 (by decide) ?_
    refine lv_iconst (v := 0) hx hb dL_isNear_24 (by decide) ?_
    exact hret _ out_3 _ _ _ _ hw hP hD hS dL_isNear_25
  · have hw := hw.2 c_5
    refine lv_lconst (v := 1) hx hb dL_isNear_11 (by decide) ?_
    refine lv_goto (tgt := 16) hx hb dL_isNear_12 (by decide) ?_
    obtain ⟨hin, hw⟩ := hw
    refine k_last hx hb hK hP hD hS 23 rfl hin (w' := fun g => (wX4OUT cI cJ Ax Bx Aw As Asm Bsm Ast Bst Ag Agu Bgu Agd Bgd Ae Aeu Beu Aed Bed Af Afu Bfu Afd Bfd Bo row rc wa wb wlo whi wtot lsm nsm lst nst lgu ngu lgd ngd leu neu led ned lfu nfu lfd nfd ans rfc rfb g)) (fun _ => rfl) dL_isNear_16 (fun out_4 eout_4 H locs hP hD hS => ?_)
    have hw := hw out_4 eout_4
    refine lv_goto (tgt := 24) hx hb dL_isNear_17 (by decide) ?_
    refine lv_iconst (v := 0) hx hb dL_isNear_24 (by decide) ?_
    exact hret _ out_4 _ _ _ _ hw hP hD hS dL_isNear_25
theorem fL_budget_19 : Cond.classLink RL 19 "java/lang/IllegalArgumentException" ∈ wsL_budget := by decide +kernel
set_option maxHeartbeats 4000000 in
set_option maxRecDepth 100000 in
theorem M_L_budget (l : Launch) (hst : l.stackTraces = false) (sa : Nat → Nat) (G : va_G) (cI cJ : ClassId) (Ax Bx Aw As Asm Bsm Ast Bst Ag Agu Bgu Agd Bgd Ae Aeu Beu Aed Bed Af Afu Bfu Afd Bfd : Nat) (row : Nat → Int32) (rc : Int32) (wa : Int32) (wb : Int32) (wlo : Int32) (whi : Int32) (wtot : Int64) (lsm : Nat → Int32) (nsm : Int32) (lst : Nat → Int32) (nst : Int32) (lgu : Nat → Int32) (ngu : Int32) (lgd : Nat → Int32) (ngd : Int32) (leu : Nat → Int32) (neu : Int32) (led : Nat → Int32) (ned : Int32) (lfu : Nat → Int32) (nfu : Int32) (lfd : Nat → Int32) (nfd : Int32) (ans : Int32) (rfc : Int32) (rfb : Int32) (p1 : Int32) (p2 : Int32) (Q : Int32 → (Nat → Int32) → Int32 → (Nat → Int32) → Int32 → (Nat → Int32) → Int32 → (Nat → Int32) → Int32 → (Nat → Int32) → Int32 → (Nat → Int32) → Int32 → Int32 → Int32 → Int32 → Prop) (hw : w_L_budget lgu ngu lgd ngd leu neu led ned lfu nfu lfd nfd ans rfc rfb p1 p2 Q) : Kh l yL_budget wsL_budget rm_L_budget xTx sa G cI cJ [.ref Ax, .int p1, .int p2] (wX4 cI cJ Ax Bx Aw As Asm Bsm Ast Bst Ag Agu Bgu Agd Bgd Ae Aeu Beu Aed Bed Af Afu Bfu Afd Bfd row rc wa wb wlo whi wtot lsm nsm lst nst lgu ngu lgd ngd leu neu led ned lfu nfu lfd nfd ans rfc rfb) (fun (r : Int32) (u : (Nat → Int32) × (Int32) × (Nat → Int32) × (Int32) × (Nat → Int32) × (Int32) × (Nat → Int32) × (Int32) × (Nat → Int32) × (Int32) × (Nat → Int32) × (Int32) × (Int32) × (Int32) × (Int32)) => Q r u.1 u.2.1 u.2.2.1 u.2.2.2.1 u.2.2.2.2.1 u.2.2.2.2.2.1 u.2.2.2.2.2.2.1 u.2.2.2.2.2.2.2.1 u.2.2.2.2.2.2.2.2.1 u.2.2.2.2.2.2.2.2.2.1 u.2.2.2.2.2.2.2.2.2.2.1 u.2.2.2.2.2.2.2.2.2.2.2.1 u.2.2.2.2.2.2.2.2.2.2.2.2.1 u.2.2.2.2.2.2.2.2.2.2.2.2.2.1 u.2.2.2.2.2.2.2.2.2.2.2.2.2.2) (fun u => (wX4 cI cJ Ax Bx Aw As Asm Bsm Ast Bst Ag Agu Bgu Agd Bgd Ae Aeu Beu Aed Bed Af Afu Bfu Afd Bfd row rc wa wb wlo whi wtot lsm nsm lst nst u.1 u.2.1 u.2.2.1 u.2.2.2.1 u.2.2.2.2.1 u.2.2.2.2.2.1 u.2.2.2.2.2.2.1 u.2.2.2.2.2.2.2.1 u.2.2.2.2.2.2.2.2.1 u.2.2.2.2.2.2.2.2.2.1 u.2.2.2.2.2.2.2.2.2.2.1 u.2.2.2.2.2.2.2.2.2.2.2.1 u.2.2.2.2.2.2.2.2.2.2.2.2.1 u.2.2.2.2.2.2.2.2.2.2.2.2.2.1 u.2.2.2.2.2.2.2.2.2.2.2.2.2.2)) := by
  refine kh_intro (cc := cL_budget) (maxL := 4) [(0, 6, 9, 19)] (by decide) rfl (Nat.le_of_ble_eq_true rfl) ?_
  intro p e s m args below meth c A Z ls hx hb hml hts hown ht hP hK hD hS hA hE hl hret
  have hl : lv_has ls 4 [(0, .ref Ax), (1, .int p1), (2, .int p2)] := hl
  unfold w_L_budget at hw
  refine lv_aload_n hx hb dL_budget_0 rfl (lv_at hl 0 rfl) ?_
  refine lv_iload_n hx hb dL_budget_1 rfl (lv_at hl 1 rfl) ?_
  refine lv_iload_n hx hb dL_budget_2 rfl (lv_at hl 2 rfl) ?_
  refine k_xv (M_X4_budget l hst sa G cI cJ Ax Bx Aw As Asm Bsm Ast Bst Ag Agu Bgu Agd Bgd Ae Aeu Beu Aed Bed Af Afu Bfu Afd Bfd row rc wa wb wlo whi wtot lsm nsm lst nst lgu ngu lgd ngd leu neu led ned lfu nfu lfd nfd ans rfc rfb p1 p2 _ _ hw) ⟨hx, hb, hml, hown, hts⟩ (cwV 2 hts gL_budget_X4_budget rfl rfl rfl (by decide +kernel) ⟨(Nat.le_of_ble_eq_true rfl), (Nat.le_of_ble_eq_true rfl)⟩) hK hP hD hS hA hE [0, 1, 2, 3, 4, 5, 6, 7, 8, 9, 10, 11, 12, 13, 14, 15, 16, 17, 18, 19, 20, 21, 22] [] [0, 1, 2, 3, 4, 5, 6, 7, 8, 9, 10, 11, 12, 13, 14, 15, 16, 17, 18, 19, 20, 21, 22] (wr := []) (wn := fun u : (Nat → Int32) × (Int32) × (Nat → Int32) × (Int32) × (Nat → Int32) × (Int32) × (Nat → Int32) × (Int32) × (Nat → Int32) × (Int32) × (Nat → Int32) × (Int32) × (Int32) × (Int32) × (Int32) => (wX4 cI cJ Ax Bx Aw As Asm Bsm Ast Bst Ag Agu Bgu Agd Bgd Ae Aeu Beu Aed Bed Af Afu Bfu Afd Bfd row rc wa wb wlo whi wtot lsm nsm lst nst u.1 u.2.1 u.2.2.1 u.2.2.2.1 u.2.2.2.2.1 u.2.2.2.2.2.1 u.2.2.2.2.2.2.1 u.2.2.2.2.2.2.2.1 u.2.2.2.2.2.2.2.2.1 u.2.2.2.2.2.2.2.2.2.1 u.2.2.2.2.2.2.2.2.2.2.1 u.2.2.2.2.2.2.2.2.2.2.2.1 u.2.2.2.2.2.2.2.2.2.2.2.2.1 u.2.2.2.2.2.2.2.2.2.2.2.2.2.1 u.2.2.2.2.2.2.2.2.2.2.2.2.2.2)) (x := ⟨0, 6, 9, 19⟩) rfl rfl (by decide) (by decide) (by decide) (by decide) (fun _ => rfl) rfl (rest := []) (q0 := 0) rfl rfl rfl hl.1 rfl (Nat.le_of_ble_eq_true rfl) (Nat.le_of_ble_eq_true rfl) (Nat.le_of_ble_eq_true rfl) dL_budget_3 ht (by decide) (by decide) fL_budget_19 (by decide +kernel) (fun q9_1 H locs hw hP hD hS => ?_) (fun u H locs hw hP hD hS => ?_)
  · refine lv_astore_n (lv' := [(3, .ref q9_1), (0, .ref Ax), (1, .int p1), (2, .int p2)]) hx hb dL_budget_9 rfl hl (by decide) rfl (fun ls hl => ?_)
    refine lv_iconst (v := 1) hx hb dL_budget_10 (by decide) ?_
    exact hret _ (lgu, ngu, lgd, ngd, leu, neu, led, ned, lfu, nfu, lfd, nfd, ans, rfc, rfb) _ _ _ _ hw hP hD hS dL_budget_11
  obtain ⟨lgu_2, ngu_3, lgd_4, ngd_5, leu_6, neu_7, led_8, ned_9, lfu_10, nfu_11, lfd_12, nfd_13, ans_14, rfc_15, rfb_16⟩ := u
  have hP : va_P G vwCl (wX4 cI cJ Ax Bx Aw As Asm Bsm Ast Bst Ag Agu Bgu Agd Bgd Ae Aeu Beu Aed Bed Af Afu Bfu Afd Bfd row rc wa wb wlo whi wtot lsm nsm lst nst lgu_2 ngu_3 lgd_4 ngd_5 leu_6 neu_7 led_8 ned_9 lfu_10 nfu_11 lfd_12 nfd_13 ans_14 rfc_15 rfb_16) H := hP
  have hD : va_D A (wX4 cI cJ Ax Bx Aw As Asm Bsm Ast Bst Ag Agu Bgu Agd Bgd Ae Aeu Beu Aed Bed Af Afu Bfu Afd Bfd row rc wa wb wlo whi wtot lsm nsm lst nst lgu_2 ngu_3 lgd_4 ngd_5 leu_6 neu_7 led_8 ned_9 lfu_10 nfu_11 lfd_12 nfd_13 ans_14 rfc_15 rfb_16) := hD
  refine lv_goto (tgt := 12) hx hb dL_budget_6 (by decide) ?_
  refine lv_iconst (v := 0) hx hb dL_budget_12 (by decide) ?_
  exact hret _ (lgu_2, ngu_3, lgd_4, ngd_5, leu_6, neu_7, led_8, ned_9, lfu_10, nfu_11, lfd_12, nfd_13, ans_14, rfc_15, rfb_16) _ _ _ _ hw hP hD hS dL_budget_13
theorem fL_raise_19 : Cond.classLink RL 19 "java/lang/IllegalArgumentException" ∈ wsL_raise := by decide +kernel
set_option maxHeartbeats 4000000 in
set_option maxRecDepth 100000 in
theorem M_L_raise (l : Launch) (hst : l.stackTraces = false) (sa : Nat → Nat) (G : va_G) (cI cJ : ClassId) (Ax Bx Aw As Asm Bsm Ast Bst Ag Agu Bgu Agd Bgd Ae Aeu Beu Aed Bed Af Afu Bfu Afd Bfd : Nat) (row : Nat → Int32) (rc : Int32) (wa : Int32) (wb : Int32) (wlo : Int32) (whi : Int32) (wtot : Int64) (lsm : Nat → Int32) (nsm : Int32) (lst : Nat → Int32) (nst : Int32) (lgu : Nat → Int32) (ngu : Int32) (lgd : Nat → Int32) (ngd : Int32) (leu : Nat → Int32) (neu : Int32) (led : Nat → Int32) (ned : Int32) (lfu : Nat → Int32) (nfu : Int32) (lfd : Nat → Int32) (nfd : Int32) (ans : Int32) (rfc : Int32) (rfb : Int32) (p1 : Int32) (p2 : Int32) (Q : Int32 → (Nat → Int32) → Int32 → (Nat → Int32) → Int32 → (Nat → Int32) → Int32 → (Nat → Int32) → Int32 → Prop) (hw : w_L_raise lgu ngu lgd ngd lfu nfu lfd nfd p1 p2 Q) : Kh l yL_raise wsL_raise rm_L_raise xTx sa G cI cJ [.ref Ax, .int p1, .int p2] (wX4 cI cJ Ax Bx Aw As Asm Bsm Ast Bst Ag Agu Bgu Agd Bgd Ae Aeu Beu Aed Bed Af Afu Bfu Afd Bfd row rc wa wb wlo whi wtot lsm nsm lst nst lgu ngu lgd ngd leu neu led ned lfu nfu lfd nfd ans rfc rfb) (fun (r : Int32) (u : (Nat → Int32) × (Int32) × (Nat → Int32) × (Int32) × (Nat → Int32) × (Int32) × (Nat → Int32) × (Int32)) => Q r u.1 u.2.1 u.2.2.1 u.2.2.2.1 u.2.2.2.2.1 u.2.2.2.2.2.1 u.2.2.2.2.2.2.1 u.2.2.2.2.2.2.2) (fun u => (wX4 cI cJ Ax Bx Aw As Asm Bsm Ast Bst Ag Agu Bgu Agd Bgd Ae Aeu Beu Aed Bed Af Afu Bfu Afd Bfd row rc wa wb wlo whi wtot lsm nsm lst nst u.1 u.2.1 u.2.2.1 u.2.2.2.1 leu neu led ned u.2.2.2.2.1 u.2.2.2.2.2.1 u.2.2.2.2.2.2.1 u.2.2.2.2.2.2.2 ans rfc rfb)) := by
  refine kh_intro (cc := cL_raise) (maxL := 4) [(0, 6, 9, 19)] (by decide) rfl (Nat.le_of_ble_eq_true rfl) ?_
  intro p e s m args below meth c A Z ls hx hb hml hts hown ht hP hK hD hS hA hE hl hret
  have hl : lv_has ls 4 [(0, .ref Ax), (1, .int p1), (2, .int p2)] := hl
  unfold w_L_raise at hw
  refine lv_aload_n hx hb dL_raise_0 rfl (lv_at hl 0 rfl) ?_
  refine lv_iload_n hx hb dL_raise_1 rfl (lv_at hl 1 rfl) ?_
  refine lv_iload_n hx hb dL_raise_2 rfl (lv_at hl 2 rfl) ?_
  refine k_xv (M_X4_raise l hst sa G cI cJ Ax Bx Aw As Asm Bsm Ast Bst Ag Agu Bgu Agd Bgd Ae Aeu Beu Aed Bed Af Afu Bfu Afd Bfd row rc wa wb wlo whi wtot lsm nsm lst nst lgu ngu lgd ngd leu neu led ned lfu nfu lfd nfd ans rfc rfb p1 p2 _ _ hw) ⟨hx, hb, hml, hown, hts⟩ (cwV 2 hts gL_raise_X4_raise rfl rfl rfl (by decide +kernel) ⟨(Nat.le_of_ble_eq_true rfl), (Nat.le_of_ble_eq_true rfl)⟩) hK hP hD hS hA hE [0, 1, 2, 3, 4, 5, 6, 7, 8, 9, 10, 11, 12, 13, 14, 15, 16, 17, 18, 19, 20, 21, 22] [] [0, 1, 2, 3, 4, 5, 6, 7, 8, 9, 10, 11, 12, 13, 14, 15, 16, 17, 18, 19, 20, 21, 22] (wr := []) (wn := fun u : (Nat → Int32) × (Int32) × (Nat → Int32) × (Int32) × (Nat → Int32) × (Int32) × (Nat → Int32) × (Int32) => (wX4 cI cJ Ax Bx Aw As Asm Bsm Ast Bst Ag Agu Bgu Agd Bgd Ae Aeu Beu Aed Bed Af Afu Bfu Afd Bfd row rc wa wb wlo whi wtot lsm nsm lst nst u.1 u.2.1 u.2.2.1 u.2.2.2.1 leu neu led ned u.2.2.2.2.1 u.2.2.2.2.2.1 u.2.2.2.2.2.2.1 u.2.2.2.2.2.2.2 ans rfc rfb)) (x := ⟨0, 6, 9, 19⟩) rfl rfl (by decide) (by decide) (by decide) (by decide) (fun _ => rfl) rfl (rest := []) (q0 := 0) rfl rfl rfl hl.1 rfl (Nat.le_of_ble_eq_true rfl) (Nat.le_of_ble_eq_true rfl) (Nat.le_of_ble_eq_true rfl) dL_raise_3 ht (by decide) (by decide) fL_raise_19 (by decide +kernel) (fun q9_1 H locs hw hP hD hS => ?_) (fun u H locs hw hP hD hS => ?_)
  · refine lv_astore_n (lv' := [(3, .ref q9_1), (0, .ref Ax), (1, .int p1), (2, .int p2)]) hx hb dL_raise_9 rfl hl (by decide) rfl (fun ls hl => ?_)
    refine lv_iconst (v := 1) hx hb dL_raise_10 (by decide) ?_
    exact hret _ (lgu, ngu, lgd, ngd, lfu, nfu, lfd, nfd) _ _ _ _ hw hP hD hS dL_raise_11
  obtain ⟨lgu_2, ngu_3, lgd_4, ngd_5, lfu_6, nfu_7, lfd_8, nfd_9⟩ := u
  have hP : va_P G vwCl (wX4 cI cJ Ax Bx Aw As Asm Bsm Ast Bst Ag Agu Bgu Agd Bgd Ae Aeu Beu Aed Bed Af Afu Bfu Afd Bfd row rc wa wb wlo whi wtot lsm nsm lst nst lgu_2 ngu_3 lgd_4 ngd_5 leu neu led ned lfu_6 nfu_7 lfd_8 nfd_9 ans rfc rfb) H := hP
  have hD : va_D A (wX4 cI cJ Ax Bx Aw As Asm Bsm Ast Bst Ag Agu Bgu Agd Bgd Ae Aeu Beu Aed Bed Af Afu Bfu Afd Bfd row rc wa wb wlo whi wtot lsm nsm lst nst lgu_2 ngu_3 lgd_4 ngd_5 leu neu led ned lfu_6 nfu_7 lfd_8 nfd_9 ans rfc rfb) := hD
  refine lv_goto (tgt := 12) hx hb dL_raise_6 (by decide) ?_
  refine lv_iconst (v := 0) hx hb dL_raise_12 (by decide) ?_
  exact hret _ (lgu_2, ngu_3, lgd_4, ngd_5, lfu_6, nfu_7, lfd_8, nfd_9) _ _ _ _ hw hP hD hS dL_raise_13
theorem fL_isEnough_19 : Cond.classLink RL 19 "java/lang/IllegalArgumentException" ∈ wsL_isEnough := by decide +kernel
set_option maxHeartbeats 4000000 in
set_option maxRecDepth 100000 in
theorem M_L_isEnough (l : Launch) (hst : l.stackTraces = false) (sa : Nat → Nat) (G : va_G) (cI cJ : ClassId) (Ax Bx Aw As Asm Bsm Ast Bst Ag Agu Bgu Agd Bgd Ae Aeu Beu Aed Bed Af Afu Bfu Afd Bfd Bo : Nat) (row : Nat → Int32) (rc : Int32) (wa : Int32) (wb : Int32) (wlo : Int32) (whi : Int32) (wtot : Int64) (lsm : Nat → Int32) (nsm : Int32) (lst : Nat → Int32) (nst : Int32) (lgu : Nat → Int32) (ngu : Int32) (lgd : Nat → Int32) (ngd : Int32) (leu : Nat → Int32) (neu : Int32) (led : Nat → Int32) (ned : Int32) (lfu : Nat → Int32) (nfu : Int32) (lfd : Nat → Int32) (nfd : Int32) (ans : Int32) (rfc : Int32) (rfb : Int32) (out : Nat → Int64) (p1 : Int32) (p2 : Int32) (Q : Int32 → (Nat → Int32) → Int32 → (Nat → Int32) → Int32 → (Nat → Int64) → Prop) (hw : w_L_isEnough wa wb lsm nsm lst nst out p1 p2 Q) : Kh l yL_isEnough wsL_isEnough rm_L_isEnough xTx sa G cI cJ [.ref Ax, .int p1, .int p2, .ref Bo] (wX4OUT cI cJ Ax Bx Aw As Asm Bsm Ast Bst Ag Agu Bgu Agd Bgd Ae Aeu Beu Aed Bed Af Afu Bfu Afd Bfd Bo row rc wa wb wlo whi wtot lsm nsm lst nst lgu ngu lgd ngd leu neu led ned lfu nfu lfd nfd ans rfc rfb out) (fun (r : Int32) (u : (Nat → Int32) × (Int32) × (Nat → Int32) × (Int32) × (Nat → Int64)) => Q r u.1 u.2.1 u.2.2.1 u.2.2.2.1 u.2.2.2.2) (fun u => (wX4OUT cI cJ Ax Bx Aw As Asm Bsm Ast Bst Ag Agu Bgu Agd Bgd Ae Aeu Beu Aed Bed Af Afu Bfu Afd Bfd Bo row rc wa wb wlo whi wtot u.1 u.2.1 u.2.2.1 u.2.2.2.1 lgu ngu lgd ngd leu neu led ned lfu nfu lfd nfd ans rfc rfb u.2.2.2.2)) := by
  refine kh_intro (cc := cL_isEnough) (maxL := 5) [(0, 17, 20, 19)] (by decide) rfl (Nat.le_of_ble_eq_true rfl) ?_
  intro p e s m args below meth c A Z ls hx hb hml hts hown ht hP hK hD hS hA hE hl hret
  have hl : lv_has ls 5 [(0, .ref Ax), (1, .int p1), (2, .int p2), (3, .ref Bo)] := hl
  unfold w_L_isEnough at hw
  refine lv_aload_n hx hb dL_isEnough_0 rfl (lv_at hl 3 rfl) ?_
  refine lv_iconst (v := 0) hx hb dL_isEnough_1 (by decide) ?_
  refine lv_aload_n hx hb dL_isEnough_2 rfl (lv_at hl 0 rfl) ?_
  refine lv_iload_n hx hb dL_isEnough_3 rfl (lv_at hl 1 rfl) ?_
  refine lv_iload_n hx hb dL_isEnough_4 rfl (lv_at hl 2 rfl) ?_
  refine k_xi (M_X4_isEnough l hst sa G cI cJ Ax Bx Aw As Asm Bsm Ast Bst Ag Agu Bgu Agd Bgd Ae Aeu Beu Aed Bed Af Afu Bfu Afd Bfd row rc wa wb wlo whi wtot lsm nsm lst nst lgu ngu lgd ngd leu neu led ned lfu nfu lfd nfd ans rfc rfb p1 p2 _ _ hw) ⟨hx, hb, hml, hown, hts⟩ (cwV 2 hts gL_isEnough_X4_isEnough rfl rfl rfl (by decide +kernel) ⟨(Nat.le_of_ble_eq_true rfl), (Nat.le_of_ble_eq_true rfl)⟩) hK hP hD hS hA hE [0, 1, 2, 3, 4, 5, 6, 7, 8, 9, 10, 11, 12, 13, 14, 15, 16, 17, 18, 19, 20, 21, 22] [23] [1, 2, 3, 4, 5, 6, 7, 8, 9, 10, 11, 12, 13, 14, 15, 16, 17, 18, 19, 20, 21, 22, 23, 0] (wr := [(Bo, .inl (cJ, 1, .inr (.inl out)))]) (wn := fun u : (Nat → Int32) × (Int32) × (Nat → Int32) × (Int32) => (wX4OUT cI cJ Ax Bx Aw As Asm Bsm Ast Bst Ag Agu Bgu Agd Bgd Ae Aeu Beu Aed Bed Af Afu Bfu Afd Bfd Bo row rc wa wb wlo whi wtot u.1 u.2.1 u.2.2.1 u.2.2.2 lgu ngu lgd ngd leu neu led ned lfu nfu lfd nfd ans rfc rfb out)) (x := ⟨0, 17, 20, 19⟩) rfl rfl (by decide) (by decide) (by decide) (by decide) (fun _ => rfl) rfl (rest := [.int 0, .ref Bo]) (q0 := 0) rfl rfl rfl hl.1 rfl (Nat.le_of_ble_eq_true rfl) (Nat.le_of_ble_eq_true rfl) (Nat.le_of_ble_eq_true rfl) dL_isEnough_5 ht (by decide) (by decide) fL_isEnough_19 (by decide +kernel) (fun q9_1 H locs hw hP hD hS => ?_) (fun r_2 u H locs hw hP hD hS => ?_)
  · refine lv_astore (lv' := [(4, .ref q9_1), (0, .ref Ax), (1, .int p1), (2, .int p2), (3, .ref Bo)]) hx hb dL_isEnough_20 hl (by decide) rfl (fun ls hl => ?_)
    refine lv_iconst (v := 1) hx hb dL_isEnough_22 (by decide) ?_
    exact hret _ (lsm, nsm, lst, nst, out) _ _ _ _ hw hP hD hS dL_isEnough_23
  obtain ⟨hzr_2, hw⟩ := hw
  obtain ⟨lsm_3, nsm_4, lst_5, nst_6⟩ := u
  have hP : va_P G vwCl (wX4OUT cI cJ Ax Bx Aw As Asm Bsm Ast Bst Ag Agu Bgu Agd Bgd Ae Aeu Beu Aed Bed Af Afu Bfu Afd Bfd Bo row rc wa wb wlo whi wtot lsm_3 nsm_4 lst_5 nst_6 lgu ngu lgd ngd leu neu led ned lfu nfu lfd nfd ans rfc rfb out) H := hP
  have hD : va_D A (wX4OUT cI cJ Ax Bx Aw As Asm Bsm Ast Bst Ag Agu Bgu Agd Bgd Ae Aeu Beu Aed Bed Af Afu Bfu Afd Bfd Bo row rc wa wb wlo whi wtot lsm_3 nsm_4 lst_5 nst_6 lgu ngu lgd ngd leu neu led ned lfu nfu lfd nfd ans rfc rfb out) := hD
  refine lv_if_eq (tgt := 15) hx hb dL_isEnough_8 (by decide) (fun c_9 => ?_) (fun c_9 => ?_)
  · have hw := hw.1 c_9
    refine lv_lconst (v := 0) hx hb dL_isEnough_15 (by decide) ?_
    obtain ⟨hin, hw⟩ := hw
    refine k_last hx hb hK hP hD hS 23 rfl hin (w' := fun g => (wX4OUT cI cJ Ax Bx Aw As Asm Bsm Ast Bst Ag Agu Bgu Agd Bgd Ae Aeu Beu Aed Bed Af Afu Bfu Afd Bfd Bo row rc wa wb wlo whi wtot lsm_3 nsm_4 lst_5 nst_6 lgu ngu lgd ngd leu neu led ned lfu nfu lfd nfd ans rfc rfb g)) (fun _ => rfl) dL_isEnough_16 (fun out_7 eout_7 H locs hP hD hS => ?_)
    have hw := hw out_7 eout_7
    refine lv_goto (tgt := 24) hx hb dL_isEnough_17 (by decide) ?_
    refine lv_iconst (v := 0) hx hb dL_isEnough_24 (by decide) ?_
    exact hret _ (lsm_3, nsm_4, lst_5, nst_6, out_7) _ _ _ _ hw hP hD hS dL_isEnough_25
  · have hw := hw.2 c_9
    refine lv_lconst (v := 1) hx hb dL_isEnough_11 (by decide) ?_
    refine lv_goto (tgt := 16) hx hb dL_isEnough_12 (by decide) ?_
    obtain ⟨hin, hw⟩ := hw
    refine k_last hx hb hK hP hD hS 23 rfl hin (w' := fun g => (wX4OUT cI cJ Ax Bx Aw As Asm Bsm Ast Bst Ag Agu Bgu Agd Bgd Ae Aeu Beu Aed Bed Af Afu Bfu Afd Bfd Bo row rc wa wb wlo whi wtot lsm_3 nsm_4 lst_5 nst_6 lgu ngu lgd ngd leu neu led ned lfu nfu lfd nfd ans rfc rfb g)) (fun _ => rfl) dL_isEnough_16 (fun out_8 eout_8 H locs hP hD hS => ?_)
    have hw := hw out_8 eout_8
    refine lv_goto (tgt := 24) hx hb dL_isEnough_17 (by decide) ?_
    refine lv_iconst (v := 0) hx hb dL_isEnough_24 (by decide) ?_
    exact hret _ (lsm_3, nsm_4, lst_5, nst_6, out_8) _ _ _ _ hw hP hD hS dL_isEnough_25
theorem fL_least_19 : Cond.classLink RL 19 "java/lang/IllegalArgumentException" ∈ wsL_least := by decide +kernel
set_option maxHeartbeats 4000000 in
set_option maxRecDepth 100000 in
theorem M_L_least (l : Launch) (hst : l.stackTraces = false) (sa : Nat → Nat) (G : va_G) (cI cJ : ClassId) (Ax Bx Aw As Asm Bsm Ast Bst Ag Agu Bgu Agd Bgd Ae Aeu Beu Aed Bed Af Afu Bfu Afd Bfd Bo : Nat) (row : Nat → Int32) (rc : Int32) (wa : Int32) (wb : Int32) (wlo : Int32) (whi : Int32) (wtot : Int64) (lsm : Nat → Int32) (nsm : Int32) (lst : Nat → Int32) (nst : Int32) (lgu : Nat → Int32) (ngu : Int32) (lgd : Nat → Int32) (ngd : Int32) (leu : Nat → Int32) (neu : Int32) (led : Nat → Int32) (ned : Int32) (lfu : Nat → Int32) (nfu : Int32) (lfd : Nat → Int32) (nfd : Int32) (ans : Int32) (rfc : Int32) (rfb : Int32) (out : Nat → Int64) (p1 : Int32) (Q : Int32 → (Nat → Int32) → Int32 → (Nat → Int32) → Int32 → (Nat → Int64) → Prop) (hw : w_L_least wa wb lsm nsm lst nst out p1 Q) : Kh l yL_least wsL_least rm_L_least xTx sa G cI cJ [.ref Ax, .int p1, .ref Bo] (wX4OUT cI cJ Ax Bx Aw As Asm Bsm Ast Bst Ag Agu Bgu Agd Bgd Ae Aeu Beu Aed Bed Af Afu Bfu Afd Bfd Bo row rc wa wb wlo whi wtot lsm nsm lst nst lgu ngu lgd ngd leu neu led ned lfu nfu lfd nfd ans rfc rfb out) (fun (r : Int32) (u : (Nat → Int32) × (Int32) × (Nat → Int32) × (Int32) × (Nat → Int64)) => Q r u.1 u.2.1 u.2.2.1 u.2.2.2.1 u.2.2.2.2) (fun u => (wX4OUT cI cJ Ax Bx Aw As Asm Bsm Ast Bst Ag Agu Bgu Agd Bgd Ae Aeu Beu Aed Bed Af Afu Bfu Afd Bfd Bo row rc wa wb wlo whi wtot u.1 u.2.1 u.2.2.1 u.2.2.2.1 lgu ngu lgd ngd leu neu led ned lfu nfu lfd nfd ans rfc rfb u.2.2.2.2)) := by
  refine kh_intro (cc := cL_least) (maxL := 4) [(0, 9, 12, 19)] (by decide) rfl (Nat.le_of_ble_eq_true rfl) ?_
  intro p e s m args below meth c A Z ls hx hb hml hts hown ht hP hK hD hS hA hE hl hret
  have hl : lv_has ls 4 [(0, .ref Ax), (1, .int p1), (2, .ref Bo)] := hl
  unfold w_L_least at hw
  refine lv_aload_n hx hb dL_least_0 rfl (lv_at hl 2 rfl) ?_
  refine lv_iconst (v := 0) hx hb dL_least_1 (by decide) ?_
  refine lv_aload_n hx hb dL_least_2 rfl (lv_at hl 0 rfl) ?_
  refine lv_iload_n hx hb dL_least_3 rfl (lv_at hl 1 rfl) ?_
  refine k_xi (M_X4_least l hst sa G cI cJ Ax Bx Aw As Asm Bsm Ast Bst Ag Agu Bgu Agd Bgd Ae Aeu Beu Aed Bed Af Afu Bfu Afd Bfd row rc wa wb wlo whi wtot lsm nsm lst nst lgu ngu lgd ngd leu neu led ned lfu nfu lfd nfd ans rfc rfb p1 _ _ hw) ⟨hx, hb, hml, hown, hts⟩ (cwV 1 hts gL_least_X4_least rfl rfl rfl (by decide +kernel) ⟨(Nat.le_of_ble_eq_true rfl), (Nat.le_of_ble_eq_true rfl)⟩) hK hP hD hS hA hE [0, 1, 2, 3, 4, 5, 6, 7, 8, 9, 10, 11, 12, 13, 14, 15, 16, 17, 18, 19, 20, 21, 22] [23] [1, 2, 3, 4, 5, 6, 7, 8, 9, 10, 11, 12, 13, 14, 15, 16, 17, 18, 19, 20, 21, 22, 23, 0] (wr := [(Bo, .inl (cJ, 1, .inr (.inl out)))]) (wn := fun u : (Nat → Int32) × (Int32) × (Nat → Int32) × (Int32) => (wX4OUT cI cJ Ax Bx Aw As Asm Bsm Ast Bst Ag Agu Bgu Agd Bgd Ae Aeu Beu Aed Bed Af Afu Bfu Afd Bfd Bo row rc wa wb wlo whi wtot u.1 u.2.1 u.2.2.1 u.2.2.2 lgu ngu lgd ngd leu neu led ned lfu nfu lfd nfd ans rfc rfb out)) (x := ⟨0, 9, 12, 19⟩) rfl rfl (by decide) (by decide) (by decide) (by decide) (fun _ => rfl) rfl (rest := [.int 0, .ref Bo]) (q0 := 0) rfl rfl rfl hl.1 rfl (Nat.le_of_ble_eq_true rfl) (Nat.le_of_ble_eq_true rfl) (Nat.le_of_ble_eq_true rfl) dL_least_4 ht (by decide) (by decide) fL_least_19 (by decide +kernel) (fun q9_1 H locs hw hP hD hS => ?_) (fun r_2 u H locs hw hP hD hS => ?_)
  · refine lv_astore_n (lv' := [(3, .ref q9_1), (0, .ref Ax), (1, .int p1), (2, .ref Bo)]) hx hb dL_least_12 rfl hl (by decide) rfl (fun ls hl => ?_)
    refine lv_iconst (v := 1) hx hb dL_least_13 (by decide) ?_
    exact hret _ (lsm, nsm, lst, nst, out) _ _ _ _ hw hP hD hS dL_least_14
  obtain ⟨lsm_3, nsm_4, lst_5, nst_6⟩ := u
  have hP : va_P G vwCl (wX4OUT cI cJ Ax Bx Aw As Asm Bsm Ast Bst Ag Agu Bgu Agd Bgd Ae Aeu Beu Aed Bed Af Afu Bfu Afd Bfd Bo row rc wa wb wlo whi wtot lsm_3 nsm_4 lst_5 nst_6 lgu ngu lgd ngd leu neu led ned lfu nfu lfd nfd ans rfc rfb out) H := hP
  have hD : va_D A (wX4OUT cI cJ Ax Bx Aw As Asm Bsm Ast Bst Ag Agu Bgu Agd Bgd Ae Aeu Beu Aed Bed Af Afu Bfu Afd Bfd Bo row rc wa wb wlo whi wtot lsm_3 nsm_4 lst_5 nst_6 lgu ngu lgd ngd leu neu led ned lfu nfu lfd nfd ans rfc rfb out) := hD
  refine lv_i2l (v := r_2.toInt64) hx hb dL_least_7 rfl ?_
  obtain ⟨hin, hw⟩ := hw
  refine k_last hx hb hK hP hD hS 23 rfl hin (w' := fun g => (wX4OUT cI cJ Ax Bx Aw As Asm Bsm Ast Bst Ag Agu Bgu Agd Bgd Ae Aeu Beu Aed Bed Af Afu Bfu Afd Bfd Bo row rc wa wb wlo whi wtot lsm_3 nsm_4 lst_5 nst_6 lgu ngu lgd ngd leu neu led ned lfu nfu lfd nfd ans rfc rfb g)) (fun _ => rfl) dL_least_8 (fun out_7 eout_7 H locs hP hD hS => ?_)
  have hw := hw out_7 eout_7
  refine lv_goto (tgt := 15) hx hb dL_least_9 (by decide) ?_
  refine lv_iconst (v := 0) hx hb dL_least_15 (by decide) ?_
  exact hret _ (lsm_3, nsm_4, lst_5, nst_6, out_7) _ _ _ _ hw hP hD hS dL_least_16
theorem fL_ask_19 : Cond.classLink RL 19 "java/lang/IllegalArgumentException" ∈ wsL_ask := by decide +kernel
set_option maxHeartbeats 4000000 in
set_option maxRecDepth 100000 in
theorem M_L_ask (l : Launch) (hst : l.stackTraces = false) (sa : Nat → Nat) (G : va_G) (cI cJ : ClassId) (Ax Bx Aw As Asm Bsm Ast Bst Ag Agu Bgu Agd Bgd Ae Aeu Beu Aed Bed Af Afu Bfu Afd Bfd Bo : Nat) (row : Nat → Int32) (rc : Int32) (wa : Int32) (wb : Int32) (wlo : Int32) (whi : Int32) (wtot : Int64) (lsm : Nat → Int32) (nsm : Int32) (lst : Nat → Int32) (nst : Int32) (lgu : Nat → Int32) (ngu : Int32) (lgd : Nat → Int32) (ngd : Int32) (leu : Nat → Int32) (neu : Int32) (led : Nat → Int32) (ned : Int32) (lfu : Nat → Int32) (nfu : Int32) (lfd : Nat → Int32) (nfd : Int32) (ans : Int32) (rfc : Int32) (rfb : Int32) (out : Nat → Int64) (p1 : Int32) (p2 : Int32) (p3 : Int32) (p4 : Int32) (p5 : Int64) (Q : Int32 → (Nat → Int32) → Int32 → (Nat → Int32) → Int32 → (Nat → Int32) → Int32 → (Nat → Int32) → Int32 → (Nat → Int32) → Int32 → (Nat → Int32) → Int32 → Int32 → Int32 → Int32 → (Nat → Int64) → Prop) (hw : w_L_ask row rc wa wb wlo whi wtot lsm nsm lst nst leu neu led ned lfu nfu lfd nfd ans rfc rfb out p1 p2 p3 p4 p5 Q) : Kh l yL_ask wsL_ask rm_L_ask xTx sa G cI cJ [.ref Ax, .int p1, .int p2, .int p3, .int p4, .long p5, .ref Bo] (wX4OUT cI cJ Ax Bx Aw As Asm Bsm Ast Bst Ag Agu Bgu Agd Bgd Ae Aeu Beu Aed Bed Af Afu Bfu Afd Bfd Bo row rc wa wb wlo whi wtot lsm nsm lst nst lgu ngu lgd ngd leu neu led ned lfu nfu lfd nfd ans rfc rfb out) (fun (r : Int32) (u : (Nat → Int32) × (Int32) × (Nat → Int32) × (Int32) × (Nat → Int32) × (Int32) × (Nat → Int32) × (Int32) × (Nat → Int32) × (Int32) × (Nat → Int32) × (Int32) × (Int32) × (Int32) × (Int32) × (Nat → Int64)) => Q r u.1 u.2.1 u.2.2.1 u.2.2.2.1 u.2.2.2.2.1 u.2.2.2.2.2.1 u.2.2.2.2.2.2.1 u.2.2.2.2.2.2.2.1 u.2.2.2.2.2.2.2.2.1 u.2.2.2.2.2.2.2.2.2.1 u.2.2.2.2.2.2.2.2.2.2.1 u.2.2.2.2.2.2.2.2.2.2.2.1 u.2.2.2.2.2.2.2.2.2.2.2.2.1 u.2.2.2.2.2.2.2.2.2.2.2.2.2.1 u.2.2.2.2.2.2.2.2.2.2.2.2.2.2.1 u.2.2.2.2.2.2.2.2.2.2.2.2.2.2.2) (fun u => (wX4OUT cI cJ Ax Bx Aw As Asm Bsm Ast Bst Ag Agu Bgu Agd Bgd Ae Aeu Beu Aed Bed Af Afu Bfu Afd Bfd Bo row rc wa wb wlo whi wtot u.1 u.2.1 u.2.2.1 u.2.2.2.1 lgu ngu lgd ngd u.2.2.2.2.1 u.2.2.2.2.2.1 u.2.2.2.2.2.2.1 u.2.2.2.2.2.2.2.1 u.2.2.2.2.2.2.2.2.1 u.2.2.2.2.2.2.2.2.2.1 u.2.2.2.2.2.2.2.2.2.2.1 u.2.2.2.2.2.2.2.2.2.2.2.1 u.2.2.2.2.2.2.2.2.2.2.2.2.1 u.2.2.2.2.2.2.2.2.2.2.2.2.2.1 u.2.2.2.2.2.2.2.2.2.2.2.2.2.2.1 u.2.2.2.2.2.2.2.2.2.2.2.2.2.2.2)) := by
  refine kh_intro (cc := cL_ask) (maxL := 9) [(0, 16, 19, 19)] (by decide) rfl (Nat.le_of_ble_eq_true rfl) ?_
  intro p e s m args below meth c A Z ls hx hb hml hts hown ht hP hK hD hS hA hE hl hret
  have hl : lv_has ls 9 [(0, .ref Ax), (1, .int p1), (2, .int p2), (3, .int p3), (4, .int p4), (5, .long p5), (7, .ref Bo)] := hl
  unfold w_L_ask at hw
  refine lv_aload hx hb dL_ask_0 (lv_at hl 6 rfl) ?_
  refine lv_iconst (v := 0) hx hb dL_ask_2 (by decide) ?_
  refine lv_aload_n hx hb dL_ask_3 rfl (lv_at hl 0 rfl) ?_
  refine lv_iload_n hx hb dL_ask_4 rfl (lv_at hl 1 rfl) ?_
  refine lv_iload_n hx hb dL_ask_5 rfl (lv_at hl 2 rfl) ?_
  refine lv_iload_n hx hb dL_ask_6 rfl (lv_at hl 3 rfl) ?_
  refine lv_iload hx hb dL_ask_7 (lv_at hl 4 rfl) ?_
  refine lv_lload hx hb dL_ask_9 (lv_at hl 5 rfl) ?_
  refine k_xi (M_X4_ask l hst sa G cI cJ Ax Bx Aw As Asm Bsm Ast Bst Ag Agu Bgu Agd Bgd Ae Aeu Beu Aed Bed Af Afu Bfu Afd Bfd row rc wa wb wlo whi wtot lsm nsm lst nst lgu ngu lgd ngd leu neu led ned lfu nfu lfd nfd ans rfc rfb p1 p2 p3 p4 p5 _ _ hw) ⟨hx, hb, hml, hown, hts⟩ (cwV 5 hts gL_ask_X4_ask rfl rfl rfl (by decide +kernel) ⟨(Nat.le_of_ble_eq_true rfl), (Nat.le_of_ble_eq_true rfl)⟩) hK hP hD hS hA hE [0, 1, 2, 3, 4, 5, 6, 7, 8, 9, 10, 11, 12, 13, 14, 15, 16, 17, 18, 19, 20, 21, 22] [23] [1, 2, 3, 4, 5, 6, 7, 8, 9, 10, 11, 12, 13, 14, 15, 16, 17, 18, 19, 20, 21, 22, 23, 0] (wr := [(Bo, .inl (cJ, 1, .inr (.inl out)))]) (wn := fun u : (Nat → Int32) × (Int32) × (Nat → Int32) × (Int32) × (Nat → Int32) × (Int32) × (Nat → Int32) × (Int32) × (Nat → Int32) × (Int32) × (Nat → Int32) × (Int32) × (Int32) × (Int32) × (Int32) => (wX4OUT cI cJ Ax Bx Aw As Asm Bsm Ast Bst Ag Agu Bgu Agd Bgd Ae Aeu Beu Aed Bed Af Afu Bfu Afd Bfd Bo row rc wa wb wlo whi wtot u.1 u.2.1 u.2.2.1 u.2.2.2.1 lgu ngu lgd ngd u.2.2.2.2.1 u.2.2.2.2.2.1 u.2.2.2.2.2.2.1 u.2.2.2.2.2.2.2.1 u.2.2.2.2.2.2.2.2.1 u.2.2.2.2.2.2.2.2.2.1 u.2.2.2.2.2.2.2.2.2.2.1 u.2.2.2.2.2.2.2.2.2.2.2.1 u.2.2.2.2.2.2.2.2.2.2.2.2.1 u.2.2.2.2.2.2.2.2.2.2.2.2.2.1 u.2.2.2.2.2.2.2.2.2.2.2.2.2.2 out)) (x := ⟨0, 16, 19, 19⟩) rfl rfl (by decide) (by decide) (by decide) (by decide) (fun _ => rfl) rfl (rest := [.int 0, .ref Bo]) (q0 := 0) rfl rfl rfl hl.1 rfl (Nat.le_of_ble_eq_true rfl) (Nat.le_of_ble_eq_true rfl) (Nat.le_of_ble_eq_true rfl) dL_ask_11 ht (by decide) (by decide) fL_ask_19 (by decide +kernel) (fun q9_1 H locs hw hP hD hS => ?_) (fun r_2 u H locs hw hP hD hS => ?_)
  · refine lv_astore (lv' := [(8, .ref q9_1), (0, .ref Ax), (1, .int p1), (2, .int p2), (3, .int p3), (4, .int p4), (5, .long p5), (7, .ref Bo)]) hx hb dL_ask_19 hl (by decide) rfl (fun ls hl => ?_)
    refine lv_iconst (v := 1) hx hb dL_ask_21 (by decide) ?_
    exact hret _ (lsm, nsm, lst, nst, leu, neu, led, ned, lfu, nfu, lfd, nfd, ans, rfc, rfb, out) _ _ _ _ hw hP hD hS dL_ask_22
  obtain ⟨lsm_3, nsm_4, lst_5, nst_6, leu_7, neu_8, led_9, ned_10, lfu_11, nfu_12, lfd_13, nfd_14, ans_15, rfc_16, rfb_17⟩ := u
  have hP : va_P G vwCl (wX4OUT cI cJ Ax Bx Aw As Asm Bsm Ast Bst Ag Agu Bgu Agd Bgd Ae Aeu Beu Aed Bed Af Afu Bfu Afd Bfd Bo row rc wa wb wlo whi wtot lsm_3 nsm_4 lst_5 nst_6 lgu ngu lgd ngd leu_7 neu_8 led_9 ned_10 lfu_11 nfu_12 lfd_13 nfd_14 ans_15 rfc_16 rfb_17 out) H := hP
  have hD : va_D A (wX4OUT cI cJ Ax Bx Aw As Asm Bsm Ast Bst Ag Agu Bgu Agd Bgd Ae Aeu Beu Aed Bed Af Afu Bfu Afd Bfd Bo row rc wa wb wlo whi wtot lsm_3 nsm_4 lst_5 nst_6 lgu ngu lgd ngd leu_7 neu_8 led_9 ned_10 lfu_11 nfu_12 lfd_13 nfd_14 ans_15 rfc_16 rfb_17 out) := hD
  refine lv_i2l (v := r_2.toInt64) hx hb dL_ask_14 rfl ?_
  obtain ⟨hin, hw⟩ := hw
  refine k_last hx hb hK hP hD hS 23 rfl hin (w' := fun g => (wX4OUT cI cJ Ax Bx Aw As Asm Bsm Ast Bst Ag Agu Bgu Agd Bgd Ae Aeu Beu Aed Bed Af Afu Bfu Afd Bfd Bo row rc wa wb wlo whi wtot lsm_3 nsm_4 lst_5 nst_6 lgu ngu lgd ngd leu_7 neu_8 led_9 ned_10 lfu_11 nfu_12 lfd_13 nfd_14 ans_15 rfc_16 rfb_17 g)) (fun _ => rfl) dL_ask_15 (fun out_18 eout_18 H locs hP hD hS => ?_)
  have hw := hw out_18 eout_18
  refine lv_goto (tgt := 23) hx hb dL_ask_16 (by decide) ?_
  refine lv_iconst (v := 0) hx hb dL_ask_23 (by decide) ?_
  exact hret _ (lsm_3, nsm_4, lst_5, nst_6, leu_7, neu_8, led_9, ned_10, lfu_11, nfu_12, lfd_13, nfd_14, ans_15, rfc_16, rfb_17, out_18) _ _ _ _ hw hP hD hS dL_ask_24
theorem fL_limb_13 : Cond.classLink RL 13 "java/lang/IndexOutOfBoundsException" ∈ wsL_limb := by decide +kernel
set_option maxHeartbeats 4000000 in
set_option maxRecDepth 100000 in
theorem M_L_limb (l : Launch) (hst : l.stackTraces = false) (sa : Nat → Nat) (G : va_G) (cI cJ : ClassId) (Ax Bx Aw As Asm Bsm Ast Bst Ag Agu Bgu Agd Bgd Ae Aeu Beu Aed Bed Af Afu Bfu Afd Bfd Bo : Nat) (row : Nat → Int32) (rc : Int32) (wa : Int32) (wb : Int32) (wlo : Int32) (whi : Int32) (wtot : Int64) (lsm : Nat → Int32) (nsm : Int32) (lst : Nat → Int32) (nst : Int32) (lgu : Nat → Int32) (ngu : Int32) (lgd : Nat → Int32) (ngd : Int32) (leu : Nat → Int32) (neu : Int32) (led : Nat → Int32) (ned : Int32) (lfu : Nat → Int32) (nfu : Int32) (lfd : Nat → Int32) (nfd : Int32) (ans : Int32) (rfc : Int32) (rfb : Int32) (out : Nat → Int64) (p1 : Int32) (p2 : Int32) (p3 : Int32) (Q : Int32 → (Nat → Int64) → Prop) (hw : w_L_limb lgu ngu lgd ngd leu neu led ned lfu nfu lfd nfd out p1 p2 p3 Q) : Kh l yL_limb wsL_limb rm_L_limb xTx sa G cI cJ [.ref Ax, .int p1, .int p2, .int p3, .ref Bo] (wX4OUT cI cJ Ax Bx Aw As Asm Bsm Ast Bst Ag Agu Bgu Agd Bgd Ae Aeu Beu Aed Bed Af Afu Bfu Afd Bfd Bo row rc wa wb wlo whi wtot lsm nsm lst nst lgu ngu lgd ngd leu neu led ned lfu nfu lfd nfd ans rfc rfb out) (fun (r : Int32) (u : (Nat → Int64)) => Q r u) (fun u => (wX4OUT cI cJ Ax Bx Aw As Asm Bsm Ast Bst Ag Agu Bgu Agd Bgd Ae Aeu Beu Aed Bed Af Afu Bfu Afd Bfd Bo row rc wa wb wlo whi wtot lsm nsm lst nst lgu ngu lgd ngd leu neu led ned lfu nfu lfd nfd ans rfc rfb u)) := by
  refine kh_intro (cc := cL_limb) (maxL := 6) [(0, 12, 15, 13)] (by decide) rfl (Nat.le_of_ble_eq_true rfl) ?_
  intro p e s m args below meth c A Z ls hx hb hml hts hown ht hP hK hD hS hA hE hl hret
  have hl : lv_has ls 6 [(0, .ref Ax), (1, .int p1), (2, .int p2), (3, .int p3), (4, .ref Bo)] := hl
  unfold w_L_limb at hw
  refine lv_aload hx hb dL_limb_0 (lv_at hl 4 rfl) ?_
  refine lv_iconst (v := 0) hx hb dL_limb_2 (by decide) ?_
  refine lv_aload_n hx hb dL_limb_3 rfl (lv_at hl 0 rfl) ?_
  refine lv_iload_n hx hb dL_limb_4 rfl (lv_at hl 1 rfl) ?_
  refine lv_iload_n hx hb dL_limb_5 rfl (lv_at hl 2 rfl) ?_
  refine lv_iload_n hx hb dL_limb_6 rfl (lv_at hl 3 rfl) ?_
  refine k_xi (M_X4_limb l hst sa G cI cJ Ax Bx Aw As Asm Bsm Ast Bst Ag Agu Bgu Agd Bgd Ae Aeu Beu Aed Bed Af Afu Bfu Afd Bfd row rc wa wb wlo whi wtot lsm nsm lst nst lgu ngu lgd ngd leu neu led ned lfu nfu lfd nfd ans rfc rfb p1 p2 p3 _ _ hw) ⟨hx, hb, hml, hown, hts⟩ (cwV 3 hts gL_limb_X4_limb rfl rfl rfl (by decide +kernel) ⟨(Nat.le_of_ble_eq_true rfl), (Nat.le_of_ble_eq_true rfl)⟩) hK hP hD hS hA hE [0, 1, 2, 3, 4, 5, 6, 7, 8, 9, 10, 11, 12, 13, 14, 15, 16, 17, 18, 19, 20, 21, 22] [23] [1, 2, 3, 4, 5, 6, 7, 8, 9, 10, 11, 12, 13, 14, 15, 16, 17, 18, 19, 20, 21, 22, 23, 0] (wr := [(Bo, .inl (cJ, 1, .inr (.inl out)))]) (wn := fun u : Unit => (wX4OUT cI cJ Ax Bx Aw As Asm Bsm Ast Bst Ag Agu Bgu Agd Bgd Ae Aeu Beu Aed Bed Af Afu Bfu Afd Bfd Bo row rc wa wb wlo whi wtot lsm nsm lst nst lgu ngu lgd ngd leu neu led ned lfu nfu lfd nfd ans rfc rfb out)) (x := ⟨0, 12, 15, 13⟩) rfl rfl (by decide) (by decide) (by decide) (by decide) (fun _ => rfl) rfl (rest := [.int 0, .ref Bo]) (q0 := 0) rfl rfl rfl hl.1 rfl (Nat.le_of_ble_eq_true rfl) (Nat.le_of_ble_eq_true rfl) (Nat.le_of_ble_eq_true rfl) dL_limb_7 ht (by decide) (by decide) fL_limb_13 (by decide +kernel) (fun q9_1 H locs hw hP hD hS => ?_) (fun r_2 u H locs hw hP hD hS => ?_)
  · refine lv_astore (lv' := [(5, .ref q9_1), (0, .ref Ax), (1, .int p1), (2, .int p2), (3, .int p3), (4, .ref Bo)]) hx hb dL_limb_15 hl (by decide) rfl (fun ls hl => ?_)
    refine lv_iconst (v := 1) hx hb dL_limb_17 (by decide) ?_
    exact hret _ out _ _ _ _ hw hP hD hS dL_limb_18
  refine lv_i2l (v := r_2.toInt64) hx hb dL_limb_10 rfl ?_
  obtain ⟨hin, hw⟩ := hw
  refine k_last hx hb hK hP hD hS 23 rfl hin (w' := fun g => (wX4OUT cI cJ Ax Bx Aw As Asm Bsm Ast Bst Ag Agu Bgu Agd Bgd Ae Aeu Beu Aed Bed Af Afu Bfu Afd Bfd Bo row rc wa wb wlo whi wtot lsm nsm lst nst lgu ngu lgd ngd leu neu led ned lfu nfu lfd nfd ans rfc rfb g)) (fun _ => rfl) dL_limb_11 (fun out_3 eout_3 H locs hP hD hS => ?_)
  have hw := hw out_3 eout_3
  refine lv_goto (tgt := 19) hx hb dL_limb_12 (by decide) ?_
  refine lv_iconst (v := 0) hx hb dL_limb_19 (by decide) ?_
  exact hret _ out_3 _ _ _ _ hw hP hD hS dL_limb_20
theorem fL_told_13 : Cond.classLink RL 13 "java/lang/IndexOutOfBoundsException" ∈ wsL_told := by decide +kernel
set_option maxHeartbeats 4000000 in
set_option maxRecDepth 100000 in
theorem M_L_told (l : Launch) (hst : l.stackTraces = false) (sa : Nat → Nat) (G : va_G) (cI cJ : ClassId) (Ax Bx Aw As Asm Bsm Ast Bst Ag Agu Bgu Agd Bgd Ae Aeu Beu Aed Bed Af Afu Bfu Afd Bfd Bo : Nat) (row : Nat → Int32) (rc : Int32) (wa : Int32) (wb : Int32) (wlo : Int32) (whi : Int32) (wtot : Int64) (lsm : Nat → Int32) (nsm : Int32) (lst : Nat → Int32) (nst : Int32) (lgu : Nat → Int32) (ngu : Int32) (lgd : Nat → Int32) (ngd : Int32) (leu : Nat → Int32) (neu : Int32) (led : Nat → Int32) (ned : Int32) (lfu : Nat → Int32) (nfu : Int32) (lfd : Nat → Int32) (nfd : Int32) (ans : Int32) (rfc : Int32) (rfb : Int32) (out : Nat → Int64) (p1 : Int32) (Q : Int32 → (Nat → Int64) → Prop) (hw : w_L_told rc wa wb wlo whi ans rfc rfb out p1 Q) : Kh l yL_told wsL_told rm_L_told xTx sa G cI cJ [.ref Ax, .int p1, .ref Bo] (wX4OUT cI cJ Ax Bx Aw As Asm Bsm Ast Bst Ag Agu Bgu Agd Bgd Ae Aeu Beu Aed Bed Af Afu Bfu Afd Bfd Bo row rc wa wb wlo whi wtot lsm nsm lst nst lgu ngu lgd ngd leu neu led ned lfu nfu lfd nfd ans rfc rfb out) (fun (r : Int32) (u : (Nat → Int64)) => Q r u) (fun u => (wX4OUT cI cJ Ax Bx Aw As Asm Bsm Ast Bst Ag Agu Bgu Agd Bgd Ae Aeu Beu Aed Bed Af Afu Bfu Afd Bfd Bo row rc wa wb wlo whi wtot lsm nsm lst nst lgu ngu lgd ngd leu neu led ned lfu nfu lfd nfd ans rfc rfb u)) := by
  refine kh_intro (cc := cL_told) (maxL := 4) [(0, 9, 12, 13)] (by decide) rfl (Nat.le_of_ble_eq_true rfl) ?_
  intro p e s m args below meth c A Z ls hx hb hml hts hown ht hP hK hD hS hA hE hl hret
  have hl : lv_has ls 4 [(0, .ref Ax), (1, .int p1), (2, .ref Bo)] := hl
  unfold w_L_told at hw
  refine lv_aload_n hx hb dL_told_0 rfl (lv_at hl 2 rfl) ?_
  refine lv_iconst (v := 0) hx hb dL_told_1 (by decide) ?_
  refine lv_aload_n hx hb dL_told_2 rfl (lv_at hl 0 rfl) ?_
  refine lv_iload_n hx hb dL_told_3 rfl (lv_at hl 1 rfl) ?_
  refine k_xi (M_X4_told l hst sa G cI cJ Ax Bx Aw As Asm Bsm Ast Bst Ag Agu Bgu Agd Bgd Ae Aeu Beu Aed Bed Af Afu Bfu Afd Bfd row rc wa wb wlo whi wtot lsm nsm lst nst lgu ngu lgd ngd leu neu led ned lfu nfu lfd nfd ans rfc rfb p1 _ _ hw) ⟨hx, hb, hml, hown, hts⟩ (cwV 1 hts gL_told_X4_told rfl rfl rfl (by decide +kernel) ⟨(Nat.le_of_ble_eq_true rfl), (Nat.le_of_ble_eq_true rfl)⟩) hK hP hD hS hA hE [0, 1, 2, 3, 4, 5, 6, 7, 8, 9, 10, 11, 12, 13, 14, 15, 16, 17, 18, 19, 20, 21, 22] [23] [1, 2, 3, 4, 5, 6, 7, 8, 9, 10, 11, 12, 13, 14, 15, 16, 17, 18, 19, 20, 21, 22, 23, 0] (wr := [(Bo, .inl (cJ, 1, .inr (.inl out)))]) (wn := fun u : Unit => (wX4OUT cI cJ Ax Bx Aw As Asm Bsm Ast Bst Ag Agu Bgu Agd Bgd Ae Aeu Beu Aed Bed Af Afu Bfu Afd Bfd Bo row rc wa wb wlo whi wtot lsm nsm lst nst lgu ngu lgd ngd leu neu led ned lfu nfu lfd nfd ans rfc rfb out)) (x := ⟨0, 9, 12, 13⟩) rfl rfl (by decide) (by decide) (by decide) (by decide) (fun _ => rfl) rfl (rest := [.int 0, .ref Bo]) (q0 := 0) rfl rfl rfl hl.1 rfl (Nat.le_of_ble_eq_true rfl) (Nat.le_of_ble_eq_true rfl) (Nat.le_of_ble_eq_true rfl) dL_told_4 ht (by decide) (by decide) fL_told_13 (by decide +kernel) (fun q9_1 H locs hw hP hD hS => ?_) (fun r_2 u H locs hw hP hD hS => ?_)
  · refine lv_astore_n (lv' := [(3, .ref q9_1), (0, .ref Ax), (1, .int p1), (2, .ref Bo)]) hx hb dL_told_12 rfl hl (by decide) rfl (fun ls hl => ?_)
    refine lv_iconst (v := 1) hx hb dL_told_13 (by decide) ?_
    exact hret _ out _ _ _ _ hw hP hD hS dL_told_14
  refine lv_i2l (v := r_2.toInt64) hx hb dL_told_7 rfl ?_
  obtain ⟨hin, hw⟩ := hw
  refine k_last hx hb hK hP hD hS 23 rfl hin (w' := fun g => (wX4OUT cI cJ Ax Bx Aw As Asm Bsm Ast Bst Ag Agu Bgu Agd Bgd Ae Aeu Beu Aed Bed Af Afu Bfu Afd Bfd Bo row rc wa wb wlo whi wtot lsm nsm lst nst lgu ngu lgd ngd leu neu led ned lfu nfu lfd nfd ans rfc rfb g)) (fun _ => rfl) dL_told_8 (fun out_3 eout_3 H locs hP hD hS => ?_)
  have hw := hw out_3 eout_3
  refine lv_goto (tgt := 15) hx hb dL_told_9 (by decide) ?_
  refine lv_iconst (v := 0) hx hb dL_told_15 (by decide) ?_
  exact hret _ out_3 _ _ _ _ hw hP hD hS dL_told_16
