/-! The law: its body, from its entry (laid by wip/whole/gen.py) -/
def R_law : String := "PrivateCountsLaw"
def lw_P (b : Addr) (xs : List Int32) (args : Array Value) (s : State) : Prop := args = #[.ref b] ∧ s.IntsAt b xs ∧ xs.length ≤ 448 ∧ (Jvm.Cond.and given_1 narrow_1).before args s = true
def lw_Q (_ : Array Value) (s : State) (o : Outcome) (t : State) : Prop := o = .returned (some (.int 1)) ∧ Framed s o t [] 171 7464
def lw_Z (below : List Frame) (a : Array Value) (s : State) : State → Prop := fun t => ∃ o, t.status = .running ∧ Ended t below o ∧ lw_Q a s o t
/-- the law's own end, with 1 on the stack, nothing written that was there before, its room as the claim has it -/
theorem lw_ret {p : Program} {l : Launch} {e : Env} {s : State} {m : MethodId} {below : List Frame} {meth : Method} {c : Code} {b : Nat} (hx : p.tables.exec = Jvm.exec) (hb : c.code = code) (hr : meth.sig.returnType = ret) (hlocks : meth.locks = false) {pc : Nat} {H : Heap} {ls : Array Slot} (hdg : decode code pc = .ok (.ireturn, 1)) : W p l e room_1 s m #[Value.ref b] below meth c H [] 171 7464 (lw_Z below #[Value.ref b] s) (F0 m pc ls [.int 1]) := by
  intro T hT X
  obtain ⟨fs, hret, hrun, hended, hW, hframe⟩ := X.leave (v := some (.int 1)) (hlocks := hlocks) (fun h => by rw [hr] at h; cases h)
  have hmeth' : T.vm.method? m = some meth := X.method'
  refine ⟨T.setFrames fs, ?_, .returned (some (.int 1)), hrun, hended, rfl, ⟨_, rfl⟩, hW, hframe⟩
  jvm_step X.here [X.here.top, hx, hb, hdg, hmeth', hr, ret, narrow_b1]
  (try refine ⟨rfl, ?_⟩); (try refine ⟨rfl, ?_⟩)
  first | (intro acts; rw [hret _ acts rfl rfl rfl]) | rw [hret _ _ rfl rfl rfl]
  exact Steps.refl _
/-- what holds at the law's entry: the machine, the code, the tables' words (any of lw_tbl by 'hts w (by decide +kernel)'), the script of L ints xs at the cell b, what the Statement gives of the start (any of its parts by flat_of_before) -/
def lw_At (p : Program) (s : State) (m : MethodId) (meth : Method) (c : Code) (b L : Nat) (xs : Nat → Int32) : Prop :=
  p.tables.exec = Jvm.exec ∧ c.code = code ∧ meth.sig.returnType = ret ∧ c.maxLocals = 8 ∧ s.vm.findClass R_law = some m.cls ∧ (∀ w ∈ lw_tbl, w.before #[Value.ref b] s = true) ∧ va_X b L xs s s.heap ∧ b < s.heap.size ∧ meth.locks = false ∧ (Jvm.Cond.and given_1 narrow_1).before #[Value.ref b] s = true
theorem k_law7 (k : Nat) : nI (7 * k) + 7 = nI (7 * (k + 1)) := by rw [show (7 : Int32) = nI 7 from rfl, nI_add]; rfl
theorem k_lawk {L k : Nat} (hL : L ≤ 448) (hk : k ≤ 64) (h : ¬ Int32.ofNat L - 7 < nI (7 * k)) : k ≤ 63 := by
  rcases Nat.lt_or_ge k 64 with q | q
  · omega
  · exfalso; apply h
    have e : k = 64 := by omega
    subst e
    have h1 : (Int32.ofNat L - 7).toInt = (L : Int) - 7 := pk_sub_toInt (a := L) (b := 7) (by omega) (by omega)
    have h2 : (nI (7 * 64)).toInt = 448 := rfl
    rw [Int32.lt_iff_toInt_lt, h1, h2]; omega
def wLaw (cI cJ : ClassId) (An1 Bx Aw As Asm Bsm Ast Bst Ag Agu Bgu Agd Bgd Ae Aeu Beu Aed Bed Af Afu Bfu Afd Bfd An2 Bmr Bfg Bln Btp Bbl Btr Bwh Bn3 : Nat) (row : Nat → Int32) (rc : Int32) (wa : Int32) (wb : Int32) (wlo : Int32) (whi : Int32) (wtot : Int64) (lsm : Nat → Int32) (nsm : Int32) (lst : Nat → Int32) (nst : Int32) (lgu : Nat → Int32) (ngu : Int32) (lgd : Nat → Int32) (ngd : Int32) (leu : Nat → Int32) (neu : Int32) (led : Nat → Int32) (ned : Int32) (lfu : Nat → Int32) (nfu : Int32) (lfd : Nat → Int32) (nfd : Int32) (ans : Int32) (rfc : Int32) (rfb : Int32) (mrow : Nat → Int32) (mrs : Int32) (ma : Int32) (mb : Int32) (mlo : Int32) (mhi : Int32) (man : Int32) (mtl : Int32) (mtm : Int32) (fig : Nat → Int64) (len : Nat → Int32) (top : Nat → Int64) (bel : Nat → Int64) (thr : Int32) (trm : Nat → Int32) (who : Nat → Int32) (out : Nat → Int64) : va_W := [(An1, .inr (4, [.ref Bx, .int rc, .ref Aw, .ref As, .ref Ag, .ref Ae, .ref Af, .int ans, .int rfc, .int rfb])), (Bx, .inl (cI, 60, .inl row)), (Aw, .inr (3, [.int wa, .int wb, .int wlo, .int whi, .long wtot])), (As, .inr (2, [.ref Asm, .ref Ast])), (Asm, .inr (1, [.ref Bsm, .int nsm])), (Bsm, .inl (cI, 64, .inl lsm)), (Ast, .inr (1, [.ref Bst, .int nst])), (Bst, .inl (cI, 64, .inl lst)), (Ag, .inr (0, [.ref Agu, .ref Agd])), (Agu, .inr (1, [.ref Bgu, .int ngu])), (Bgu, .inl (cI, 64, .inl lgu)), (Agd, .inr (1, [.ref Bgd, .int ngd])), (Bgd, .inl (cI, 64, .inl lgd)), (Ae, .inr (0, [.ref Aeu, .ref Aed])), (Aeu, .inr (1, [.ref Beu, .int neu])), (Beu, .inl (cI, 64, .inl leu)), (Aed, .inr (1, [.ref Bed, .int ned])), (Bed, .inl (cI, 64, .inl led)), (Af, .inr (0, [.ref Afu, .ref Afd])), (Afu, .inr (1, [.ref Bfu, .int nfu])), (Bfu, .inl (cI, 64, .inl lfu)), (Afd, .inr (1, [.ref Bfd, .int nfd])), (Bfd, .inl (cI, 64, .inl lfd)), (An2, .inr (5, [.ref Bmr, .int mrs, .int ma, .int mb, .int mlo, .int mhi, .int man, .int mtl, .int mtm, .ref Bfg, .ref Bln, .ref Btp, .ref Bbl, .int thr, .ref Btr, .ref Bwh])), (Bmr, .inl (cI, 60, .inl mrow)), (Bfg, .inl (cJ, 4608, .inr (.inl fig))), (Bln, .inl (cI, 18, .inl len)), (Btp, .inl (cJ, 520, .inr (.inl top))), (Bbl, .inl (cJ, 520, .inr (.inl bel))), (Btr, .inl (cI, 10, .inl trm)), (Bwh, .inl (cI, 10, .inl who)), (Bn3, .inl (cJ, 1, .inr (.inl out)))]
def w_L_law (L : Nat) (xs : Nat → Int32) (Q : Int32 → Prop) : Prop :=
  w_X4_init (fun (row_1 : Nat → Int32) (rc_2 : Int32) (wa_3 : Int32) (wb_4 : Int32) (wlo_5 : Int32) (whi_6 : Int32) (wtot_7 : Int64) (lsm_8 : Nat → Int32) (nsm_9 : Int32) (lst_10 : Nat → Int32) (nst_11 : Int32) (lgu_12 : Nat → Int32) (ngu_13 : Int32) (lgd_14 : Nat → Int32) (ngd_15 : Int32) (leu_16 : Nat → Int32) (neu_17 : Int32) (led_18 : Nat → Int32) (ned_19 : Int32) (lfu_20 : Nat → Int32) (nfu_21 : Int32) (lfd_22 : Nat → Int32) (nfd_23 : Int32) (ans_24 : Int32) (rfc_25 : Int32) (rfb_26 : Int32) =>
  w_X5_init (fun (mrow_27 : Nat → Int32) (mrs_28 : Int32) (ma_29 : Int32) (mb_30 : Int32) (mlo_31 : Int32) (mhi_32 : Int32) (man_33 : Int32) (mtl_34 : Int32) (mtm_35 : Int32) (fig_36 : Nat → Int64) (len_37 : Nat → Int32) (top_38 : Nat → Int64) (bel_39 : Nat → Int64) (thr_40 : Int32) (trm_41 : Nat → Int32) (who_42 : Nat → Int32) =>
  ∃ (I23_87 : Int32 → (Nat → Int32) → Int32 → Int32 → Int32 → Int32 → Int32 → Int64 → (Nat → Int32) → Int32 → (Nat → Int32) → Int32 → (Nat → Int32) → Int32 → (Nat → Int32) → Int32 → (Nat → Int32) → Int32 → (Nat → Int32) → Int32 → (Nat → Int32) → Int32 → (Nat → Int32) → Int32 → Int32 → Int32 → Int32 → (Nat → Int32) → Int32 → Int32 → Int32 → Int32 → Int32 → Int32 → Int32 → Int32 → (Nat → Int64) → (Nat → Int32) → (Nat → Int64) → (Nat → Int64) → Int32 → (Nat → Int32) → (Nat → Int32) → (Nat → Int64) → Prop) (μ23_87 : Int32 → (Nat → Int32) → Int32 → Int32 → Int32 → Int32 → Int32 → Int64 → (Nat → Int32) → Int32 → (Nat → Int32) → Int32 → (Nat → Int32) → Int32 → (Nat → Int32) → Int32 → (Nat → Int32) → Int32 → (Nat → Int32) → Int32 → (Nat → Int32) → Int32 → (Nat → Int32) → Int32 → Int32 → Int32 → Int32 → (Nat → Int32) → Int32 → Int32 → Int32 → Int32 → Int32 → Int32 → Int32 → Int32 → (Nat → Int64) → (Nat → Int32) → (Nat → Int64) → (Nat → Int64) → Int32 → (Nat → Int32) → (Nat → Int32) → (Nat → Int64) → Nat), I23_87 (0 : Int32) row_1 rc_2 wa_3 wb_4 wlo_5 whi_6 wtot_7 lsm_8 nsm_9 lst_10 nst_11 lgu_12 ngu_13 lgd_14 ngd_15 leu_16 neu_17 led_18 ned_19 lfu_20 nfu_21 lfd_22 nfd_23 ans_24 rfc_25 rfb_26 mrow_27 mrs_28 ma_29 mb_30 mlo_31 mhi_32 man_33 mtl_34 mtm_35 fig_36 len_37 top_38 bel_39 thr_40 trm_41 who_42 (fun _ => 0) ∧ ∀ (i4_43 : Int32) (row_44 : Nat → Int32) (rc_45 : Int32) (wa_46 : Int32) (wb_47 : Int32) (wlo_48 : Int32) (whi_49 : Int32) (wtot_50 : Int64) (lsm_51 : Nat → Int32) (nsm_52 : Int32) (lst_53 : Nat → Int32) (nst_54 : Int32) (lgu_55 : Nat → Int32) (ngu_56 : Int32) (lgd_57 : Nat → Int32) (ngd_58 : Int32) (leu_59 : Nat → Int32) (neu_60 : Int32) (led_61 : Nat → Int32) (ned_62 : Int32) (lfu_63 : Nat → Int32) (nfu_64 : Int32) (lfd_65 : Nat → Int32) (nfd_66 : Int32) (ans_67 : Int32) (rfc_68 : Int32) (rfb_69 : Int32) (mrow_70 : Nat → Int32) (mrs_71 : Int32) (ma_72 : Int32) (mb_73 : Int32) (mlo_74 : Int32) (mhi_75 : Int32) (man_76 : Int32) (mtl_77 : Int32) (mtm_78 : Int32) (fig_79 : Nat → Int64) (len_80 : Nat → Int32) (top_81 : Nat → Int64) (bel_82 : Nat → Int64) (thr_83 : Int32) (trm_84 : Nat → Int32) (who_85 : Nat → Int32) (out_86 : Nat → Int64), I23_87 i4_43 row_44 rc_45 wa_46 wb_47 wlo_48 whi_49 wtot_50 lsm_51 nsm_52 lst_53 nst_54 lgu_55 ngu_56 lgd_57 ngd_58 leu_59 neu_60 led_61 ned_62 lfu_63 nfu_64 lfd_65 nfd_66 ans_67 rfc_68 rfb_69 mrow_70 mrs_71 ma_72 mb_73 mlo_74 mhi_75 man_76 mtl_77 mtm_78 fig_79 len_80 top_81 bel_82 thr_83 trm_84 who_85 out_86 →
    ∀ (v_88 : Int32), v_88 = (Int32.ofNat L) - 7 →
    ((v_88 < i4_43 →
      Q 1
     ) ∧ (¬ v_88 < i4_43 →
      vp_in i4_43 L ∧
      ∀ (v_89 : Int32), v_89 = (xs i4_43.toNatClampNeg) &&& 15 →
      ((v_89 = 0 →
        vp_in (i4_43 + 1) L ∧
        w_X4_add row_44 rc_45 (xs (i4_43 + 1).toNatClampNeg) (fun (r_91 : Int32) (row_92 : Nat → Int32) (rc_93 : Int32) =>
        vp_in (i4_43 + 1) L ∧
        w_X5_add mrow_70 mrs_71 thr_83 (xs (i4_43 + 1).toNatClampNeg) (fun (r_94 : Int32) (mrow_95 : Nat → Int32) (mrs_96 : Int32) (thr_97 : Int32) =>
        ((r_91 = r_94 →
          ∀ (i4_98 : Int32), i4_98 = i4_43 + 7 →
          I23_87 i4_98 row_92 rc_93 wa_46 wb_47 wlo_48 whi_49 wtot_50 lsm_51 nsm_52 lst_53 nst_54 lgu_55 ngu_56 lgd_57 ngd_58 leu_59 neu_60 led_61 ned_62 lfu_63 nfu_64 lfd_65 nfd_66 ans_67 rfc_68 rfb_69 mrow_95 mrs_96 ma_72 mb_73 mlo_74 mhi_75 man_76 mtl_77 mtm_78 fig_79 len_80 top_81 bel_82 thr_97 trm_84 who_85 out_86 ∧ μ23_87 i4_98 row_92 rc_93 wa_46 wb_47 wlo_48 whi_49 wtot_50 lsm_51 nsm_52 lst_53 nst_54 lgu_55 ngu_56 lgd_57 ngd_58 leu_59 neu_60 led_61 ned_62 lfu_63 nfu_64 lfd_65 nfd_66 ans_67 rfc_68 rfb_69 mrow_95 mrs_96 ma_72 mb_73 mlo_74 mhi_75 man_76 mtl_77 mtm_78 fig_79 len_80 top_81 bel_82 thr_97 trm_84 who_85 out_86 < μ23_87 i4_43 row_44 rc_45 wa_46 wb_47 wlo_48 whi_49 wtot_50 lsm_51 nsm_52 lst_53 nst_54 lgu_55 ngu_56 lgd_57 ngd_58 leu_59 neu_60 led_61 ned_62 lfu_63 nfu_64 lfd_65 nfd_66 ans_67 rfc_68 rfb_69 mrow_70 mrs_71 ma_72 mb_73 mlo_74 mhi_75 man_76 mtl_77 mtm_78 fig_79 len_80 top_81 bel_82 thr_83 trm_84 who_85 out_86
         ) ∧ (¬ r_91 = r_94 →
          Q 0
         ))))
       ) ∧ (¬ v_89 = 0 →
      ((v_89 = 1 →
        vp_in (i4_43 + 1) L ∧
        w_L_remove row_44 rc_45 out_86 (xs (i4_43 + 1).toNatClampNeg) (fun (r_101 : Int32) (row_102 : Nat → Int32) (rc_103 : Int32) (out_104 : Nat → Int64) =>
        vp_in (i4_43 + 1) L ∧
        w_X5_remove mrow_70 mrs_71 thr_83 (xs (i4_43 + 1).toNatClampNeg) (fun (r_105 : Int32) (mrow_106 : Nat → Int32) (mrs_107 : Int32) (thr_108 : Int32) =>
        w_X5_thrown thr_108 (fun (r_109 : Int32) =>
        ((r_109 = r_101 →
          ((¬ r_101 = 0 →
            ∀ (i4_110 : Int32), i4_110 = i4_43 + 7 →
            I23_87 i4_110 row_102 rc_103 wa_46 wb_47 wlo_48 whi_49 wtot_50 lsm_51 nsm_52 lst_53 nst_54 lgu_55 ngu_56 lgd_57 ngd_58 leu_59 neu_60 led_61 ned_62 lfu_63 nfu_64 lfd_65 nfd_66 ans_67 rfc_68 rfb_69 mrow_106 mrs_107 ma_72 mb_73 mlo_74 mhi_75 man_76 mtl_77 mtm_78 fig_79 len_80 top_81 bel_82 thr_108 trm_84 who_85 out_104 ∧ μ23_87 i4_110 row_102 rc_103 wa_46 wb_47 wlo_48 whi_49 wtot_50 lsm_51 nsm_52 lst_53 nst_54 lgu_55 ngu_56 lgd_57 ngd_58 leu_59 neu_60 led_61 ned_62 lfu_63 nfu_64 lfd_65 nfd_66 ans_67 rfc_68 rfb_69 mrow_106 mrs_107 ma_72 mb_73 mlo_74 mhi_75 man_76 mtl_77 mtm_78 fig_79 len_80 top_81 bel_82 thr_108 trm_84 who_85 out_104 < μ23_87 i4_43 row_44 rc_45 wa_46 wb_47 wlo_48 whi_49 wtot_50 lsm_51 nsm_52 lst_53 nst_54 lgu_55 ngu_56 lgd_57 ngd_58 leu_59 neu_60 led_61 ned_62 lfu_63 nfu_64 lfd_65 nfd_66 ans_67 rfc_68 rfb_69 mrow_70 mrs_71 ma_72 mb_73 mlo_74 mhi_75 man_76 mtl_77 mtm_78 fig_79 len_80 top_81 bel_82 thr_83 trm_84 who_85 out_86
           ) ∧ (r_101 = 0 →
            vp_in 0 1 ∧
            (((out_104 (0 : Int32).toNatClampNeg) = r_105.toInt64 →
              ∀ (i4_111 : Int32), i4_111 = i4_43 + 7 →
              I23_87 i4_111 row_102 rc_103 wa_46 wb_47 wlo_48 whi_49 wtot_50 lsm_51 nsm_52 lst_53 nst_54 lgu_55 ngu_56 lgd_57 ngd_58 leu_59 neu_60 led_61 ned_62 lfu_63 nfu_64 lfd_65 nfd_66 ans_67 rfc_68 rfb_69 mrow_106 mrs_107 ma_72 mb_73 mlo_74 mhi_75 man_76 mtl_77 mtm_78 fig_79 len_80 top_81 bel_82 thr_108 trm_84 who_85 out_104 ∧ μ23_87 i4_111 row_102 rc_103 wa_46 wb_47 wlo_48 whi_49 wtot_50 lsm_51 nsm_52 lst_53 nst_54 lgu_55 ngu_56 lgd_57 ngd_58 leu_59 neu_60 led_61 ned_62 lfu_63 nfu_64 lfd_65 nfd_66 ans_67 rfc_68 rfb_69 mrow_106 mrs_107 ma_72 mb_73 mlo_74 mhi_75 man_76 mtl_77 mtm_78 fig_79 len_80 top_81 bel_82 thr_108 trm_84 who_85 out_104 < μ23_87 i4_43 row_44 rc_45 wa_46 wb_47 wlo_48 whi_49 wtot_50 lsm_51 nsm_52 lst_53 nst_54 lgu_55 ngu_56 lgd_57 ngd_58 leu_59 neu_60 led_61 ned_62 lfu_63 nfu_64 lfd_65 nfd_66 ans_67 rfc_68 rfb_69 mrow_70 mrs_71 ma_72 mb_73 mlo_74 mhi_75 man_76 mtl_77 mtm_78 fig_79 len_80 top_81 bel_82 thr_83 trm_84 who_85 out_86
             ) ∧ (¬ (out_104 (0 : Int32).toNatClampNeg) = r_105.toInt64 →
              Q 0
             ))
           ))
         ) ∧ (¬ r_109 = r_101 →
          Q 0
         )))))
       ) ∧ (¬ v_89 = 1 →
      ((v_89 = 2 →
        vp_in (i4_43 + 1) L ∧
        vp_in (i4_43 + 2) L ∧
        w_X4_count row_44 rc_45 (xs (i4_43 + 1).toNatClampNeg) (xs (i4_43 + 2).toNatClampNeg) (fun (r_116 : Int32) =>
        vp_in (i4_43 + 1) L ∧
        vp_in (i4_43 + 2) L ∧
        w_X5_count mrow_70 mrs_71 thr_83 (xs (i4_43 + 1).toNatClampNeg) (xs (i4_43 + 2).toNatClampNeg) (fun (r_117 : Int32) (thr_118 : Int32) =>
        ((r_116 = r_117 →
          ∀ (i4_119 : Int32), i4_119 = i4_43 + 7 →
          I23_87 i4_119 row_44 rc_45 wa_46 wb_47 wlo_48 whi_49 wtot_50 lsm_51 nsm_52 lst_53 nst_54 lgu_55 ngu_56 lgd_57 ngd_58 leu_59 neu_60 led_61 ned_62 lfu_63 nfu_64 lfd_65 nfd_66 ans_67 rfc_68 rfb_69 mrow_70 mrs_71 ma_72 mb_73 mlo_74 mhi_75 man_76 mtl_77 mtm_78 fig_79 len_80 top_81 bel_82 thr_118 trm_84 who_85 out_86 ∧ μ23_87 i4_119 row_44 rc_45 wa_46 wb_47 wlo_48 whi_49 wtot_50 lsm_51 nsm_52 lst_53 nst_54 lgu_55 ngu_56 lgd_57 ngd_58 leu_59 neu_60 led_61 ned_62 lfu_63 nfu_64 lfd_65 nfd_66 ans_67 rfc_68 rfb_69 mrow_70 mrs_71 ma_72 mb_73 mlo_74 mhi_75 man_76 mtl_77 mtm_78 fig_79 len_80 top_81 bel_82 thr_118 trm_84 who_85 out_86 < μ23_87 i4_43 row_44 rc_45 wa_46 wb_47 wlo_48 whi_49 wtot_50 lsm_51 nsm_52 lst_53 nst_54 lgu_55 ngu_56 lgd_57 ngd_58 leu_59 neu_60 led_61 ned_62 lfu_63 nfu_64 lfd_65 nfd_66 ans_67 rfc_68 rfb_69 mrow_70 mrs_71 ma_72 mb_73 mlo_74 mhi_75 man_76 mtl_77 mtm_78 fig_79 len_80 top_81 bel_82 thr_83 trm_84 who_85 out_86
         ) ∧ (¬ r_116 = r_117 →
          Q 0
         ))))
       ) ∧ (¬ v_89 = 2 →
      ((v_89 = 3 →
        vp_in (i4_43 + 1) L ∧
        vp_in (i4_43 + 2) L ∧
        vp_in (i4_43 + 3) L ∧
        vp_in (i4_43 + 4) L ∧
        w_L_table wa_46 wb_47 wlo_48 whi_49 wtot_50 out_86 (xs (i4_43 + 1).toNatClampNeg) (xs (i4_43 + 2).toNatClampNeg) (xs (i4_43 + 3).toNatClampNeg) (xs (i4_43 + 4).toNatClampNeg) (fun (r_122 : Int32) (wa_123 : Int32) (wb_124 : Int32) (wlo_125 : Int32) (whi_126 : Int32) (wtot_127 : Int64) (out_128 : Nat → Int64) =>
        vp_in (i4_43 + 1) L ∧
        vp_in (i4_43 + 2) L ∧
        vp_in (i4_43 + 3) L ∧
        vp_in (i4_43 + 4) L ∧
        w_X5_table ma_72 mb_73 mlo_74 mhi_75 thr_83 (xs (i4_43 + 1).toNatClampNeg) (xs (i4_43 + 2).toNatClampNeg) (xs (i4_43 + 3).toNatClampNeg) (xs (i4_43 + 4).toNatClampNeg) (fun (r_129 : Int64) (ma_130 : Int32) (mb_131 : Int32) (mlo_132 : Int32) (mhi_133 : Int32) (thr_134 : Int32) =>
        w_X5_thrown thr_134 (fun (r_135 : Int32) =>
        ((r_135 = r_122 →
          ((¬ r_122 = 0 →
            ∀ (i4_136 : Int32), i4_136 = i4_43 + 7 →
            I23_87 i4_136 row_44 rc_45 wa_123 wb_124 wlo_125 whi_126 wtot_127 lsm_51 nsm_52 lst_53 nst_54 lgu_55 ngu_56 lgd_57 ngd_58 leu_59 neu_60 led_61 ned_62 lfu_63 nfu_64 lfd_65 nfd_66 ans_67 rfc_68 rfb_69 mrow_70 mrs_71 ma_130 mb_131 mlo_132 mhi_133 man_76 mtl_77 mtm_78 fig_79 len_80 top_81 bel_82 thr_134 trm_84 who_85 out_128 ∧ μ23_87 i4_136 row_44 rc_45 wa_123 wb_124 wlo_125 whi_126 wtot_127 lsm_51 nsm_52 lst_53 nst_54 lgu_55 ngu_56 lgd_57 ngd_58 leu_59 neu_60 led_61 ned_62 lfu_63 nfu_64 lfd_65 nfd_66 ans_67 rfc_68 rfb_69 mrow_70 mrs_71 ma_130 mb_131 mlo_132 mhi_133 man_76 mtl_77 mtm_78 fig_79 len_80 top_81 bel_82 thr_134 trm_84 who_85 out_128 < μ23_87 i4_43 row_44 rc_45 wa_46 wb_47 wlo_48 whi_49 wtot_50 lsm_51 nsm_52 lst_53 nst_54 lgu_55 ngu_56 lgd_57 ngd_58 leu_59 neu_60 led_61 ned_62 lfu_63 nfu_64 lfd_65 nfd_66 ans_67 rfc_68 rfb_69 mrow_70 mrs_71 ma_72 mb_73 mlo_74 mhi_75 man_76 mtl_77 mtm_78 fig_79 len_80 top_81 bel_82 thr_83 trm_84 who_85 out_86
           ) ∧ (r_122 = 0 →
            vp_in 0 1 ∧
            (((out_128 (0 : Int32).toNatClampNeg) = r_129 →
              ∀ (i4_137 : Int32), i4_137 = i4_43 + 7 →
              I23_87 i4_137 row_44 rc_45 wa_123 wb_124 wlo_125 whi_126 wtot_127 lsm_51 nsm_52 lst_53 nst_54 lgu_55 ngu_56 lgd_57 ngd_58 leu_59 neu_60 led_61 ned_62 lfu_63 nfu_64 lfd_65 nfd_66 ans_67 rfc_68 rfb_69 mrow_70 mrs_71 ma_130 mb_131 mlo_132 mhi_133 man_76 mtl_77 mtm_78 fig_79 len_80 top_81 bel_82 thr_134 trm_84 who_85 out_128 ∧ μ23_87 i4_137 row_44 rc_45 wa_123 wb_124 wlo_125 whi_126 wtot_127 lsm_51 nsm_52 lst_53 nst_54 lgu_55 ngu_56 lgd_57 ngd_58 leu_59 neu_60 led_61 ned_62 lfu_63 nfu_64 lfd_65 nfd_66 ans_67 rfc_68 rfb_69 mrow_70 mrs_71 ma_130 mb_131 mlo_132 mhi_133 man_76 mtl_77 mtm_78 fig_79 len_80 top_81 bel_82 thr_134 trm_84 who_85 out_128 < μ23_87 i4_43 row_44 rc_45 wa_46 wb_47 wlo_48 whi_49 wtot_50 lsm_51 nsm_52 lst_53 nst_54 lgu_55 ngu_56 lgd_57 ngd_58 leu_59 neu_60 led_61 ned_62 lfu_63 nfu_64 lfd_65 nfd_66 ans_67 rfc_68 rfb_69 mrow_70 mrs_71 ma_72 mb_73 mlo_74 mhi_75 man_76 mtl_77 mtm_78 fig_79 len_80 top_81 bel_82 thr_83 trm_84 who_85 out_86
             ) ∧ (¬ (out_128 (0 : Int32).toNatClampNeg) = r_129 →
              Q 0
             ))
           ))
         ) ∧ (¬ r_135 = r_122 →
          Q 0
         )))))
       ) ∧ (¬ v_89 = 3 →
      ((v_89 = 4 →
        w_X4_all wtot_50 (fun (r_142 : Int64) =>
        w_X5_all ma_72 mb_73 mlo_74 mhi_75 thr_83 (fun (r_143 : Int64) (thr_144 : Int32) =>
        ((r_142 = r_143 →
          ∀ (i4_145 : Int32), i4_145 = i4_43 + 7 →
          I23_87 i4_145 row_44 rc_45 wa_46 wb_47 wlo_48 whi_49 wtot_50 lsm_51 nsm_52 lst_53 nst_54 lgu_55 ngu_56 lgd_57 ngd_58 leu_59 neu_60 led_61 ned_62 lfu_63 nfu_64 lfd_65 nfd_66 ans_67 rfc_68 rfb_69 mrow_70 mrs_71 ma_72 mb_73 mlo_74 mhi_75 man_76 mtl_77 mtm_78 fig_79 len_80 top_81 bel_82 thr_144 trm_84 who_85 out_86 ∧ μ23_87 i4_145 row_44 rc_45 wa_46 wb_47 wlo_48 whi_49 wtot_50 lsm_51 nsm_52 lst_53 nst_54 lgu_55 ngu_56 lgd_57 ngd_58 leu_59 neu_60 led_61 ned_62 lfu_63 nfu_64 lfd_65 nfd_66 ans_67 rfc_68 rfb_69 mrow_70 mrs_71 ma_72 mb_73 mlo_74 mhi_75 man_76 mtl_77 mtm_78 fig_79 len_80 top_81 bel_82 thr_144 trm_84 who_85 out_86 < μ23_87 i4_43 row_44 rc_45 wa_46 wb_47 wlo_48 whi_49 wtot_50 lsm_51 nsm_52 lst_53 nst_54 lgu_55 ngu_56 lgd_57 ngd_58 leu_59 neu_60 led_61 ned_62 lfu_63 nfu_64 lfd_65 nfd_66 ans_67 rfc_68 rfb_69 mrow_70 mrs_71 ma_72 mb_73 mlo_74 mhi_75 man_76 mtl_77 mtm_78 fig_79 len_80 top_81 bel_82 thr_83 trm_84 who_85 out_86
         ) ∧ (¬ r_142 = r_143 →
          Q 0
         ))))
       ) ∧ (¬ v_89 = 4 →
      ((v_89 = 5 →
        vp_in (i4_43 + 1) L ∧
        vp_in (i4_43 + 2) L ∧
        w_X4_weight wa_46 wb_47 wlo_48 whi_49 wtot_50 (xs (i4_43 + 1).toNatClampNeg) (xs (i4_43 + 2).toNatClampNeg) (fun (r_148 : Int64) =>
        vp_in (i4_43 + 1) L ∧
        vp_in (i4_43 + 2) L ∧
        w_X5_weight ma_72 mb_73 mlo_74 mhi_75 thr_83 (xs (i4_43 + 1).toNatClampNeg) (xs (i4_43 + 2).toNatClampNeg) (fun (r_149 : Int64) (thr_150 : Int32) =>
        ((r_148 = r_149 →
          ∀ (i4_151 : Int32), i4_151 = i4_43 + 7 →
          I23_87 i4_151 row_44 rc_45 wa_46 wb_47 wlo_48 whi_49 wtot_50 lsm_51 nsm_52 lst_53 nst_54 lgu_55 ngu_56 lgd_57 ngd_58 leu_59 neu_60 led_61 ned_62 lfu_63 nfu_64 lfd_65 nfd_66 ans_67 rfc_68 rfb_69 mrow_70 mrs_71 ma_72 mb_73 mlo_74 mhi_75 man_76 mtl_77 mtm_78 fig_79 len_80 top_81 bel_82 thr_150 trm_84 who_85 out_86 ∧ μ23_87 i4_151 row_44 rc_45 wa_46 wb_47 wlo_48 whi_49 wtot_50 lsm_51 nsm_52 lst_53 nst_54 lgu_55 ngu_56 lgd_57 ngd_58 leu_59 neu_60 led_61 ned_62 lfu_63 nfu_64 lfd_65 nfd_66 ans_67 rfc_68 rfb_69 mrow_70 mrs_71 ma_72 mb_73 mlo_74 mhi_75 man_76 mtl_77 mtm_78 fig_79 len_80 top_81 bel_82 thr_150 trm_84 who_85 out_86 < μ23_87 i4_43 row_44 rc_45 wa_46 wb_47 wlo_48 whi_49 wtot_50 lsm_51 nsm_52 lst_53 nst_54 lgu_55 ngu_56 lgd_57 ngd_58 leu_59 neu_60 led_61 ned_62 lfu_63 nfu_64 lfd_65 nfd_66 ans_67 rfc_68 rfb_69 mrow_70 mrs_71 ma_72 mb_73 mlo_74 mhi_75 man_76 mtl_77 mtm_78 fig_79 len_80 top_81 bel_82 thr_83 trm_84 who_85 out_86
         ) ∧ (¬ r_148 = r_149 →
          Q 0
         ))))
       ) ∧ (¬ v_89 = 5 →
      ((v_89 = 6 →
        vp_in (i4_43 + 1) L ∧
        vp_in (i4_43 + 2) L ∧
        w_X4_upTo wa_46 wb_47 wlo_48 whi_49 wtot_50 (xs (i4_43 + 1).toNatClampNeg) (xs (i4_43 + 2).toNatClampNeg) (fun (r_154 : Int64) =>
        vp_in (i4_43 + 1) L ∧
        vp_in (i4_43 + 2) L ∧
        w_X5_upTo ma_72 mb_73 mlo_74 mhi_75 thr_83 (xs (i4_43 + 1).toNatClampNeg) (xs (i4_43 + 2).toNatClampNeg) (fun (r_155 : Int64) (thr_156 : Int32) =>
        ((r_154 = r_155 →
          ∀ (i4_157 : Int32), i4_157 = i4_43 + 7 →
          I23_87 i4_157 row_44 rc_45 wa_46 wb_47 wlo_48 whi_49 wtot_50 lsm_51 nsm_52 lst_53 nst_54 lgu_55 ngu_56 lgd_57 ngd_58 leu_59 neu_60 led_61 ned_62 lfu_63 nfu_64 lfd_65 nfd_66 ans_67 rfc_68 rfb_69 mrow_70 mrs_71 ma_72 mb_73 mlo_74 mhi_75 man_76 mtl_77 mtm_78 fig_79 len_80 top_81 bel_82 thr_156 trm_84 who_85 out_86 ∧ μ23_87 i4_157 row_44 rc_45 wa_46 wb_47 wlo_48 whi_49 wtot_50 lsm_51 nsm_52 lst_53 nst_54 lgu_55 ngu_56 lgd_57 ngd_58 leu_59 neu_60 led_61 ned_62 lfu_63 nfu_64 lfd_65 nfd_66 ans_67 rfc_68 rfb_69 mrow_70 mrs_71 ma_72 mb_73 mlo_74 mhi_75 man_76 mtl_77 mtm_78 fig_79 len_80 top_81 bel_82 thr_156 trm_84 who_85 out_86 < μ23_87 i4_43 row_44 rc_45 wa_46 wb_47 wlo_48 whi_49 wtot_50 lsm_51 nsm_52 lst_53 nst_54 lgu_55 ngu_56 lgd_57 ngd_58 leu_59 neu_60 led_61 ned_62 lfu_63 nfu_64 lfd_65 nfd_66 ans_67 rfc_68 rfb_69 mrow_70 mrs_71 ma_72 mb_73 mlo_74 mhi_75 man_76 mtl_77 mtm_78 fig_79 len_80 top_81 bel_82 thr_83 trm_84 who_85 out_86
         ) ∧ (¬ r_154 = r_155 →
          Q 0
         ))))
       ) ∧ (¬ v_89 = 6 →
      ((v_89 = 7 →
        vp_in (i4_43 + 1) L ∧
        vp_in (i4_43 + 2) L ∧
        ∀ (v_160 : Int64), v_160 = ((xs (i4_43 + 2).toNatClampNeg).toInt64) <<< ((32 : Int32).toInt64 &&& 63) →
        vp_in (i4_43 + 3) L ∧
        ∀ (v_161 : Int64), v_161 = ((xs (i4_43 + 3).toNatClampNeg).toInt64) &&& 4294967295 →
        w_L_draw wa_46 wb_47 wlo_48 whi_49 wtot_50 out_86 (xs (i4_43 + 1).toNatClampNeg) (v_160 ||| v_161) (fun (r_162 : Int32) (out_163 : Nat → Int64) =>
        vp_in (i4_43 + 1) L ∧
        vp_in (i4_43 + 2) L ∧
        ∀ (v_164 : Int64), v_164 = ((xs (i4_43 + 2).toNatClampNeg).toInt64) <<< ((32 : Int32).toInt64 &&& 63) →
        vp_in (i4_43 + 3) L ∧
        ∀ (v_165 : Int64), v_165 = ((xs (i4_43 + 3).toNatClampNeg).toInt64) &&& 4294967295 →
        w_X5_draw ma_72 mb_73 mlo_74 mhi_75 thr_83 (xs (i4_43 + 1).toNatClampNeg) (v_164 ||| v_165) (fun (r_166 : Int32) (thr_167 : Int32) =>
        w_X5_thrown thr_167 (fun (r_168 : Int32) =>
        ((r_168 = r_162 →
          ((¬ r_162 = 0 →
            ∀ (i4_169 : Int32), i4_169 = i4_43 + 7 →
            I23_87 i4_169 row_44 rc_45 wa_46 wb_47 wlo_48 whi_49 wtot_50 lsm_51 nsm_52 lst_53 nst_54 lgu_55 ngu_56 lgd_57 ngd_58 leu_59 neu_60 led_61 ned_62 lfu_63 nfu_64 lfd_65 nfd_66 ans_67 rfc_68 rfb_69 mrow_70 mrs_71 ma_72 mb_73 mlo_74 mhi_75 man_76 mtl_77 mtm_78 fig_79 len_80 top_81 bel_82 thr_167 trm_84 who_85 out_163 ∧ μ23_87 i4_169 row_44 rc_45 wa_46 wb_47 wlo_48 whi_49 wtot_50 lsm_51 nsm_52 lst_53 nst_54 lgu_55 ngu_56 lgd_57 ngd_58 leu_59 neu_60 led_61 ned_62 lfu_63 nfu_64 lfd_65 nfd_66 ans_67 rfc_68 rfb_69 mrow_70 mrs_71 ma_72 mb_73 mlo_74 mhi_75 man_76 mtl_77 mtm_78 fig_79 len_80 top_81 bel_82 thr_167 trm_84 who_85 out_163 < μ23_87 i4_43 row_44 rc_45 wa_46 wb_47 wlo_48 whi_49 wtot_50 lsm_51 nsm_52 lst_53 nst_54 lgu_55 ngu_56 lgd_57 ngd_58 leu_59 neu_60 led_61 ned_62 lfu_63 nfu_64 lfd_65 nfd_66 ans_67 rfc_68 rfb_69 mrow_70 mrs_71 ma_72 mb_73 mlo_74 mhi_75 man_76 mtl_77 mtm_78 fig_79 len_80 top_81 bel_82 thr_83 trm_84 who_85 out_86
           ) ∧ (r_162 = 0 →
            vp_in 0 1 ∧
            (((out_163 (0 : Int32).toNatClampNeg) = r_166.toInt64 →
              ∀ (i4_170 : Int32), i4_170 = i4_43 + 7 →
              I23_87 i4_170 row_44 rc_45 wa_46 wb_47 wlo_48 whi_49 wtot_50 lsm_51 nsm_52 lst_53 nst_54 lgu_55 ngu_56 lgd_57 ngd_58 leu_59 neu_60 led_61 ned_62 lfu_63 nfu_64 lfd_65 nfd_66 ans_67 rfc_68 rfb_69 mrow_70 mrs_71 ma_72 mb_73 mlo_74 mhi_75 man_76 mtl_77 mtm_78 fig_79 len_80 top_81 bel_82 thr_167 trm_84 who_85 out_163 ∧ μ23_87 i4_170 row_44 rc_45 wa_46 wb_47 wlo_48 whi_49 wtot_50 lsm_51 nsm_52 lst_53 nst_54 lgu_55 ngu_56 lgd_57 ngd_58 leu_59 neu_60 led_61 ned_62 lfu_63 nfu_64 lfd_65 nfd_66 ans_67 rfc_68 rfb_69 mrow_70 mrs_71 ma_72 mb_73 mlo_74 mhi_75 man_76 mtl_77 mtm_78 fig_79 len_80 top_81 bel_82 thr_167 trm_84 who_85 out_163 < μ23_87 i4_43 row_44 rc_45 wa_46 wb_47 wlo_48 whi_49 wtot_50 lsm_51 nsm_52 lst_53 nst_54 lgu_55 ngu_56 lgd_57 ngd_58 leu_59 neu_60 led_61 ned_62 lfu_63 nfu_64 lfd_65 nfd_66 ans_67 rfc_68 rfb_69 mrow_70 mrs_71 ma_72 mb_73 mlo_74 mhi_75 man_76 mtl_77 mtm_78 fig_79 len_80 top_81 bel_82 thr_83 trm_84 who_85 out_86
             ) ∧ (¬ (out_163 (0 : Int32).toNatClampNeg) = r_166.toInt64 →
              Q 0
             ))
           ))
         ) ∧ (¬ r_168 = r_162 →
          Q 0
         )))))
       ) ∧ (¬ v_89 = 7 →
      ((v_89 = 8 →
        vp_in (i4_43 + 1) L ∧
        vp_in (i4_43 + 2) L ∧
        w_L_isNear wa_46 wb_47 wlo_48 whi_49 wtot_50 out_86 (xs (i4_43 + 1).toNatClampNeg) (xs (i4_43 + 2).toNatClampNeg) (fun (r_175 : Int32) (out_176 : Nat → Int64) =>
        vp_in (i4_43 + 1) L ∧
        vp_in (i4_43 + 2) L ∧
        w_X5_isNear ma_72 mb_73 mlo_74 mhi_75 thr_83 (xs (i4_43 + 1).toNatClampNeg) (xs (i4_43 + 2).toNatClampNeg) (fun (r_177 : Int32) (thr_178 : Int32) =>
        w_X5_thrown thr_178 (fun (r_179 : Int32) =>
        ((r_179 = r_175 →
          ((¬ r_175 = 0 →
            ∀ (i4_180 : Int32), i4_180 = i4_43 + 7 →
            I23_87 i4_180 row_44 rc_45 wa_46 wb_47 wlo_48 whi_49 wtot_50 lsm_51 nsm_52 lst_53 nst_54 lgu_55 ngu_56 lgd_57 ngd_58 leu_59 neu_60 led_61 ned_62 lfu_63 nfu_64 lfd_65 nfd_66 ans_67 rfc_68 rfb_69 mrow_70 mrs_71 ma_72 mb_73 mlo_74 mhi_75 man_76 mtl_77 mtm_78 fig_79 len_80 top_81 bel_82 thr_178 trm_84 who_85 out_176 ∧ μ23_87 i4_180 row_44 rc_45 wa_46 wb_47 wlo_48 whi_49 wtot_50 lsm_51 nsm_52 lst_53 nst_54 lgu_55 ngu_56 lgd_57 ngd_58 leu_59 neu_60 led_61 ned_62 lfu_63 nfu_64 lfd_65 nfd_66 ans_67 rfc_68 rfb_69 mrow_70 mrs_71 ma_72 mb_73 mlo_74 mhi_75 man_76 mtl_77 mtm_78 fig_79 len_80 top_81 bel_82 thr_178 trm_84 who_85 out_176 < μ23_87 i4_43 row_44 rc_45 wa_46 wb_47 wlo_48 whi_49 wtot_50 lsm_51 nsm_52 lst_53 nst_54 lgu_55 ngu_56 lgd_57 ngd_58 leu_59 neu_60 led_61 ned_62 lfu_63 nfu_64 lfd_65 nfd_66 ans_67 rfc_68 rfb_69 mrow_70 mrs_71 ma_72 mb_73 mlo_74 mhi_75 man_76 mtl_77 mtm_78 fig_79 len_80 top_81 bel_82 thr_83 trm_84 who_85 out_86
           ) ∧ (r_175 = 0 →
            vp_in 0 1 ∧
            ((r_177 = 0 →
              (((out_176 (0 : Int32).toNatClampNeg) = 0 →
                ∀ (i4_181 : Int32), i4_181 = i4_43 + 7 →
                I23_87 i4_181 row_44 rc_45 wa_46 wb_47 wlo_48 whi_49 wtot_50 lsm_51 nsm_52 lst_53 nst_54 lgu_55 ngu_56 lgd_57 ngd_58 leu_59 neu_60 led_61 ned_62 lfu_63 nfu_64 lfd_65 nfd_66 ans_67 rfc_68 rfb_69 mrow_70 mrs_71 ma_72 mb_73 mlo_74 mhi_75 man_76 mtl_77 mtm_78 fig_79 len_80 top_81 bel_82 thr_178 trm_84 who_85 out_176 ∧ μ23_87 i4_181 row_44 rc_45 wa_46 wb_47 wlo_48 whi_49 wtot_50 lsm_51 nsm_52 lst_53 nst_54 lgu_55 ngu_56 lgd_57 ngd_58 leu_59 neu_60 led_61 ned_62 lfu_63 nfu_64 lfd_65 nfd_66 ans_67 rfc_68 rfb_69 mrow_70 mrs_71 ma_72 mb_73 mlo_74 mhi_75 man_76 mtl_77 mtm_78 fig_79 len_80 top_81 bel_82 thr_178 trm_84 who_85 out_176 < μ23_87 i4_43 row_44 rc_45 wa_46 wb_47 wlo_48 whi_49 wtot_50 lsm_51 nsm_52 lst_53 nst_54 lgu_55 ngu_56 lgd_57 ngd_58 leu_59 neu_60 led_61 ned_62 lfu_63 nfu_64 lfd_65 nfd_66 ans_67 rfc_68 rfb_69 mrow_70 mrs_71 ma_72 mb_73 mlo_74 mhi_75 man_76 mtl_77 mtm_78 fig_79 len_80 top_81 bel_82 thr_83 trm_84 who_85 out_86
               ) ∧ (¬ (out_176 (0 : Int32).toNatClampNeg) = 0 →
                Q 0
               ))
             ) ∧ (¬ r_177 = 0 →
              (((out_176 (0 : Int32).toNatClampNeg) = 1 →
                ∀ (i4_183 : Int32), i4_183 = i4_43 + 7 →
                I23_87 i4_183 row_44 rc_45 wa_46 wb_47 wlo_48 whi_49 wtot_50 lsm_51 nsm_52 lst_53 nst_54 lgu_55 ngu_56 lgd_57 ngd_58 leu_59 neu_60 led_61 ned_62 lfu_63 nfu_64 lfd_65 nfd_66 ans_67 rfc_68 rfb_69 mrow_70 mrs_71 ma_72 mb_73 mlo_74 mhi_75 man_76 mtl_77 mtm_78 fig_79 len_80 top_81 bel_82 thr_178 trm_84 who_85 out_176 ∧ μ23_87 i4_183 row_44 rc_45 wa_46 wb_47 wlo_48 whi_49 wtot_50 lsm_51 nsm_52 lst_53 nst_54 lgu_55 ngu_56 lgd_57 ngd_58 leu_59 neu_60 led_61 ned_62 lfu_63 nfu_64 lfd_65 nfd_66 ans_67 rfc_68 rfb_69 mrow_70 mrs_71 ma_72 mb_73 mlo_74 mhi_75 man_76 mtl_77 mtm_78 fig_79 len_80 top_81 bel_82 thr_178 trm_84 who_85 out_176 < μ23_87 i4_43 row_44 rc_45 wa_46 wb_47 wlo_48 whi_49 wtot_50 lsm_51 nsm_52 lst_53 nst_54 lgu_55 ngu_56 lgd_57 ngd_58 leu_59 neu_60 led_61 ned_62 lfu_63 nfu_64 lfd_65 nfd_66 ans_67 rfc_68 rfb_69 mrow_70 mrs_71 ma_72 mb_73 mlo_74 mhi_75 man_76 mtl_77 mtm_78 fig_79 len_80 top_81 bel_82 thr_83 trm_84 who_85 out_86
               ) ∧ (¬ (out_176 (0 : Int32).toNatClampNeg) = 1 →
                Q 0
               ))
             ))
           ))
         ) ∧ (¬ r_179 = r_175 →
          Q 0
         )))))
       ) ∧ (¬ v_89 = 8 →
      ((v_89 = 9 →
        vp_in (i4_43 + 1) L ∧
        vp_in (i4_43 + 2) L ∧
        w_L_budget lgu_55 ngu_56 lgd_57 ngd_58 leu_59 neu_60 led_61 ned_62 lfu_63 nfu_64 lfd_65 nfd_66 ans_67 rfc_68 rfb_69 (xs (i4_43 + 1).toNatClampNeg) (xs (i4_43 + 2).toNatClampNeg) (fun (r_189 : Int32) (lgu_190 : Nat → Int32) (ngu_191 : Int32) (lgd_192 : Nat → Int32) (ngd_193 : Int32) (leu_194 : Nat → Int32) (neu_195 : Int32) (led_196 : Nat → Int32) (ned_197 : Int32) (lfu_198 : Nat → Int32) (nfu_199 : Int32) (lfd_200 : Nat → Int32) (nfd_201 : Int32) (ans_202 : Int32) (rfc_203 : Int32) (rfb_204 : Int32) =>
        vp_in (i4_43 + 1) L ∧
        vp_in (i4_43 + 2) L ∧
        w_X5_budget man_76 mtl_77 mtm_78 fig_79 len_80 top_81 bel_82 thr_83 (xs (i4_43 + 1).toNatClampNeg) (xs (i4_43 + 2).toNatClampNeg) (fun (man_205 : Int32) (mtl_206 : Int32) (mtm_207 : Int32) (fig_208 : Nat → Int64) (len_209 : Nat → Int32) (top_210 : Nat → Int64) (bel_211 : Nat → Int64) (thr_212 : Int32) =>
        w_X5_thrown thr_212 (fun (r_213 : Int32) =>
        ((r_213 = r_189 →
          ∀ (i4_214 : Int32), i4_214 = i4_43 + 7 →
          I23_87 i4_214 row_44 rc_45 wa_46 wb_47 wlo_48 whi_49 wtot_50 lsm_51 nsm_52 lst_53 nst_54 lgu_190 ngu_191 lgd_192 ngd_193 leu_194 neu_195 led_196 ned_197 lfu_198 nfu_199 lfd_200 nfd_201 ans_202 rfc_203 rfb_204 mrow_70 mrs_71 ma_72 mb_73 mlo_74 mhi_75 man_205 mtl_206 mtm_207 fig_208 len_209 top_210 bel_211 thr_212 trm_84 who_85 out_86 ∧ μ23_87 i4_214 row_44 rc_45 wa_46 wb_47 wlo_48 whi_49 wtot_50 lsm_51 nsm_52 lst_53 nst_54 lgu_190 ngu_191 lgd_192 ngd_193 leu_194 neu_195 led_196 ned_197 lfu_198 nfu_199 lfd_200 nfd_201 ans_202 rfc_203 rfb_204 mrow_70 mrs_71 ma_72 mb_73 mlo_74 mhi_75 man_205 mtl_206 mtm_207 fig_208 len_209 top_210 bel_211 thr_212 trm_84 who_85 out_86 < μ23_87 i4_43 row_44 rc_45 wa_46 wb_47 wlo_48 whi_49 wtot_50 lsm_51 nsm_52 lst_53 nst_54 lgu_55 ngu_56 lgd_57 ngd_58 leu_59 neu_60 led_61 ned_62 lfu_63 nfu_64 lfd_65 nfd_66 ans_67 rfc_68 rfb_69 mrow_70 mrs_71 ma_72 mb_73 mlo_74 mhi_75 man_76 mtl_77 mtm_78 fig_79 len_80 top_81 bel_82 thr_83 trm_84 who_85 out_86
         ) ∧ (¬ r_213 = r_189 →
          Q 0
         )))))
       ) ∧ (¬ v_89 = 9 →
      ((v_89 = 10 →
        vp_in (i4_43 + 1) L ∧
        vp_in (i4_43 + 2) L ∧
        w_L_raise lgu_55 ngu_56 lgd_57 ngd_58 lfu_63 nfu_64 lfd_65 nfd_66 (xs (i4_43 + 1).toNatClampNeg) (xs (i4_43 + 2).toNatClampNeg) (fun (r_217 : Int32) (lgu_218 : Nat → Int32) (ngu_219 : Int32) (lgd_220 : Nat → Int32) (ngd_221 : Int32) (lfu_222 : Nat → Int32) (nfu_223 : Int32) (lfd_224 : Nat → Int32) (nfd_225 : Int32) =>
        vp_in (i4_43 + 1) L ∧
        vp_in (i4_43 + 2) L ∧
        w_X5_raise fig_79 len_80 top_81 bel_82 thr_83 (xs (i4_43 + 1).toNatClampNeg) (xs (i4_43 + 2).toNatClampNeg) (fun (fig_226 : Nat → Int64) (len_227 : Nat → Int32) (top_228 : Nat → Int64) (bel_229 : Nat → Int64) (thr_230 : Int32) =>
        w_X5_thrown thr_230 (fun (r_231 : Int32) =>
        ((r_231 = r_217 →
          ∀ (i4_232 : Int32), i4_232 = i4_43 + 7 →
          I23_87 i4_232 row_44 rc_45 wa_46 wb_47 wlo_48 whi_49 wtot_50 lsm_51 nsm_52 lst_53 nst_54 lgu_218 ngu_219 lgd_220 ngd_221 leu_59 neu_60 led_61 ned_62 lfu_222 nfu_223 lfd_224 nfd_225 ans_67 rfc_68 rfb_69 mrow_70 mrs_71 ma_72 mb_73 mlo_74 mhi_75 man_76 mtl_77 mtm_78 fig_226 len_227 top_228 bel_229 thr_230 trm_84 who_85 out_86 ∧ μ23_87 i4_232 row_44 rc_45 wa_46 wb_47 wlo_48 whi_49 wtot_50 lsm_51 nsm_52 lst_53 nst_54 lgu_218 ngu_219 lgd_220 ngd_221 leu_59 neu_60 led_61 ned_62 lfu_222 nfu_223 lfd_224 nfd_225 ans_67 rfc_68 rfb_69 mrow_70 mrs_71 ma_72 mb_73 mlo_74 mhi_75 man_76 mtl_77 mtm_78 fig_226 len_227 top_228 bel_229 thr_230 trm_84 who_85 out_86 < μ23_87 i4_43 row_44 rc_45 wa_46 wb_47 wlo_48 whi_49 wtot_50 lsm_51 nsm_52 lst_53 nst_54 lgu_55 ngu_56 lgd_57 ngd_58 leu_59 neu_60 led_61 ned_62 lfu_63 nfu_64 lfd_65 nfd_66 ans_67 rfc_68 rfb_69 mrow_70 mrs_71 ma_72 mb_73 mlo_74 mhi_75 man_76 mtl_77 mtm_78 fig_79 len_80 top_81 bel_82 thr_83 trm_84 who_85 out_86
         ) ∧ (¬ r_231 = r_217 →
          Q 0
         )))))
       ) ∧ (¬ v_89 = 10 →
      ((v_89 = 11 →
        vp_in (i4_43 + 1) L ∧
        vp_in (i4_43 + 2) L ∧
        w_L_isEnough wa_46 wb_47 lsm_51 nsm_52 lst_53 nst_54 out_86 (xs (i4_43 + 1).toNatClampNeg) (xs (i4_43 + 2).toNatClampNeg) (fun (r_235 : Int32) (lsm_236 : Nat → Int32) (nsm_237 : Int32) (lst_238 : Nat → Int32) (nst_239 : Int32) (out_240 : Nat → Int64) =>
        vp_in (i4_43 + 1) L ∧
        vp_in (i4_43 + 2) L ∧
        w_X5_isEnough ma_72 mb_73 thr_83 trm_84 who_85 (xs (i4_43 + 1).toNatClampNeg) (xs (i4_43 + 2).toNatClampNeg) (fun (r_241 : Int32) (thr_242 : Int32) (trm_243 : Nat → Int32) (who_244 : Nat → Int32) =>
        w_X5_thrown thr_242 (fun (r_245 : Int32) =>
        ((r_245 = r_235 →
          ((¬ r_235 = 0 →
            ∀ (i4_246 : Int32), i4_246 = i4_43 + 7 →
            I23_87 i4_246 row_44 rc_45 wa_46 wb_47 wlo_48 whi_49 wtot_50 lsm_236 nsm_237 lst_238 nst_239 lgu_55 ngu_56 lgd_57 ngd_58 leu_59 neu_60 led_61 ned_62 lfu_63 nfu_64 lfd_65 nfd_66 ans_67 rfc_68 rfb_69 mrow_70 mrs_71 ma_72 mb_73 mlo_74 mhi_75 man_76 mtl_77 mtm_78 fig_79 len_80 top_81 bel_82 thr_242 trm_243 who_244 out_240 ∧ μ23_87 i4_246 row_44 rc_45 wa_46 wb_47 wlo_48 whi_49 wtot_50 lsm_236 nsm_237 lst_238 nst_239 lgu_55 ngu_56 lgd_57 ngd_58 leu_59 neu_60 led_61 ned_62 lfu_63 nfu_64 lfd_65 nfd_66 ans_67 rfc_68 rfb_69 mrow_70 mrs_71 ma_72 mb_73 mlo_74 mhi_75 man_76 mtl_77 mtm_78 fig_79 len_80 top_81 bel_82 thr_242 trm_243 who_244 out_240 < μ23_87 i4_43 row_44 rc_45 wa_46 wb_47 wlo_48 whi_49 wtot_50 lsm_51 nsm_52 lst_53 nst_54 lgu_55 ngu_56 lgd_57 ngd_58 leu_59 neu_60 led_61 ned_62 lfu_63 nfu_64 lfd_65 nfd_66 ans_67 rfc_68 rfb_69 mrow_70 mrs_71 ma_72 mb_73 mlo_74 mhi_75 man_76 mtl_77 mtm_78 fig_79 len_80 top_81 bel_82 thr_83 trm_84 who_85 out_86
           ) ∧ (r_235 = 0 →
            vp_in 0 1 ∧
            ((r_241 = 0 →
              (((out_240 (0 : Int32).toNatClampNeg) = 0 →
                ∀ (i4_247 : Int32), i4_247 = i4_43 + 7 →
                I23_87 i4_247 row_44 rc_45 wa_46 wb_47 wlo_48 whi_49 wtot_50 lsm_236 nsm_237 lst_238 nst_239 lgu_55 ngu_56 lgd_57 ngd_58 leu_59 neu_60 led_61 ned_62 lfu_63 nfu_64 lfd_65 nfd_66 ans_67 rfc_68 rfb_69 mrow_70 mrs_71 ma_72 mb_73 mlo_74 mhi_75 man_76 mtl_77 mtm_78 fig_79 len_80 top_81 bel_82 thr_242 trm_243 who_244 out_240 ∧ μ23_87 i4_247 row_44 rc_45 wa_46 wb_47 wlo_48 whi_49 wtot_50 lsm_236 nsm_237 lst_238 nst_239 lgu_55 ngu_56 lgd_57 ngd_58 leu_59 neu_60 led_61 ned_62 lfu_63 nfu_64 lfd_65 nfd_66 ans_67 rfc_68 rfb_69 mrow_70 mrs_71 ma_72 mb_73 mlo_74 mhi_75 man_76 mtl_77 mtm_78 fig_79 len_80 top_81 bel_82 thr_242 trm_243 who_244 out_240 < μ23_87 i4_43 row_44 rc_45 wa_46 wb_47 wlo_48 whi_49 wtot_50 lsm_51 nsm_52 lst_53 nst_54 lgu_55 ngu_56 lgd_57 ngd_58 leu_59 neu_60 led_61 ned_62 lfu_63 nfu_64 lfd_65 nfd_66 ans_67 rfc_68 rfb_69 mrow_70 mrs_71 ma_72 mb_73 mlo_74 mhi_75 man_76 mtl_77 mtm_78 fig_79 len_80 top_81 bel_82 thr_83 trm_84 who_85 out_86
               ) ∧ (¬ (out_240 (0 : Int32).toNatClampNeg) = 0 →
                Q 0
               ))
             ) ∧ (¬ r_241 = 0 →
              (((out_240 (0 : Int32).toNatClampNeg) = 1 →
                ∀ (i4_249 : Int32), i4_249 = i4_43 + 7 →
                I23_87 i4_249 row_44 rc_45 wa_46 wb_47 wlo_48 whi_49 wtot_50 lsm_236 nsm_237 lst_238 nst_239 lgu_55 ngu_56 lgd_57 ngd_58 leu_59 neu_60 led_61 ned_62 lfu_63 nfu_64 lfd_65 nfd_66 ans_67 rfc_68 rfb_69 mrow_70 mrs_71 ma_72 mb_73 mlo_74 mhi_75 man_76 mtl_77 mtm_78 fig_79 len_80 top_81 bel_82 thr_242 trm_243 who_244 out_240 ∧ μ23_87 i4_249 row_44 rc_45 wa_46 wb_47 wlo_48 whi_49 wtot_50 lsm_236 nsm_237 lst_238 nst_239 lgu_55 ngu_56 lgd_57 ngd_58 leu_59 neu_60 led_61 ned_62 lfu_63 nfu_64 lfd_65 nfd_66 ans_67 rfc_68 rfb_69 mrow_70 mrs_71 ma_72 mb_73 mlo_74 mhi_75 man_76 mtl_77 mtm_78 fig_79 len_80 top_81 bel_82 thr_242 trm_243 who_244 out_240 < μ23_87 i4_43 row_44 rc_45 wa_46 wb_47 wlo_48 whi_49 wtot_50 lsm_51 nsm_52 lst_53 nst_54 lgu_55 ngu_56 lgd_57 ngd_58 leu_59 neu_60 led_61 ned_62 lfu_63 nfu_64 lfd_65 nfd_66 ans_67 rfc_68 rfb_69 mrow_70 mrs_71 ma_72 mb_73 mlo_74 mhi_75 man_76 mtl_77 mtm_78 fig_79 len_80 top_81 bel_82 thr_83 trm_84 who_85 out_86
               ) ∧ (¬ (out_240 (0 : Int32).toNatClampNeg) = 1 →
                Q 0
               ))
             ))
           ))
         ) ∧ (¬ r_245 = r_235 →
          Q 0
         )))))
       ) ∧ (¬ v_89 = 11 →
      ((v_89 = 12 →
        vp_in (i4_43 + 1) L ∧
        w_L_least wa_46 wb_47 lsm_51 nsm_52 lst_53 nst_54 out_86 (xs (i4_43 + 1).toNatClampNeg) (fun (r_255 : Int32) (lsm_256 : Nat → Int32) (nsm_257 : Int32) (lst_258 : Nat → Int32) (nst_259 : Int32) (out_260 : Nat → Int64) =>
        vp_in (i4_43 + 1) L ∧
        w_X5_least ma_72 mb_73 thr_83 trm_84 who_85 (xs (i4_43 + 1).toNatClampNeg) (fun (r_261 : Int32) (thr_262 : Int32) (trm_263 : Nat → Int32) (who_264 : Nat → Int32) =>
        w_X5_thrown thr_262 (fun (r_265 : Int32) =>
        ((r_265 = r_255 →
          ((¬ r_255 = 0 →
            ∀ (i4_266 : Int32), i4_266 = i4_43 + 7 →
            I23_87 i4_266 row_44 rc_45 wa_46 wb_47 wlo_48 whi_49 wtot_50 lsm_256 nsm_257 lst_258 nst_259 lgu_55 ngu_56 lgd_57 ngd_58 leu_59 neu_60 led_61 ned_62 lfu_63 nfu_64 lfd_65 nfd_66 ans_67 rfc_68 rfb_69 mrow_70 mrs_71 ma_72 mb_73 mlo_74 mhi_75 man_76 mtl_77 mtm_78 fig_79 len_80 top_81 bel_82 thr_262 trm_263 who_264 out_260 ∧ μ23_87 i4_266 row_44 rc_45 wa_46 wb_47 wlo_48 whi_49 wtot_50 lsm_256 nsm_257 lst_258 nst_259 lgu_55 ngu_56 lgd_57 ngd_58 leu_59 neu_60 led_61 ned_62 lfu_63 nfu_64 lfd_65 nfd_66 ans_67 rfc_68 rfb_69 mrow_70 mrs_71 ma_72 mb_73 mlo_74 mhi_75 man_76 mtl_77 mtm_78 fig_79 len_80 top_81 bel_82 thr_262 trm_263 who_264 out_260 < μ23_87 i4_43 row_44 rc_45 wa_46 wb_47 wlo_48 whi_49 wtot_50 lsm_51 nsm_52 lst_53 nst_54 lgu_55 ngu_56 lgd_57 ngd_58 leu_59 neu_60 led_61 ned_62 lfu_63 nfu_64 lfd_65 nfd_66 ans_67 rfc_68 rfb_69 mrow_70 mrs_71 ma_72 mb_73 mlo_74 mhi_75 man_76 mtl_77 mtm_78 fig_79 len_80 top_81 bel_82 thr_83 trm_84 who_85 out_86
           ) ∧ (r_255 = 0 →
            vp_in 0 1 ∧
            (((out_260 (0 : Int32).toNatClampNeg) = r_261.toInt64 →
              ∀ (i4_267 : Int32), i4_267 = i4_43 + 7 →
              I23_87 i4_267 row_44 rc_45 wa_46 wb_47 wlo_48 whi_49 wtot_50 lsm_256 nsm_257 lst_258 nst_259 lgu_55 ngu_56 lgd_57 ngd_58 leu_59 neu_60 led_61 ned_62 lfu_63 nfu_64 lfd_65 nfd_66 ans_67 rfc_68 rfb_69 mrow_70 mrs_71 ma_72 mb_73 mlo_74 mhi_75 man_76 mtl_77 mtm_78 fig_79 len_80 top_81 bel_82 thr_262 trm_263 who_264 out_260 ∧ μ23_87 i4_267 row_44 rc_45 wa_46 wb_47 wlo_48 whi_49 wtot_50 lsm_256 nsm_257 lst_258 nst_259 lgu_55 ngu_56 lgd_57 ngd_58 leu_59 neu_60 led_61 ned_62 lfu_63 nfu_64 lfd_65 nfd_66 ans_67 rfc_68 rfb_69 mrow_70 mrs_71 ma_72 mb_73 mlo_74 mhi_75 man_76 mtl_77 mtm_78 fig_79 len_80 top_81 bel_82 thr_262 trm_263 who_264 out_260 < μ23_87 i4_43 row_44 rc_45 wa_46 wb_47 wlo_48 whi_49 wtot_50 lsm_51 nsm_52 lst_53 nst_54 lgu_55 ngu_56 lgd_57 ngd_58 leu_59 neu_60 led_61 ned_62 lfu_63 nfu_64 lfd_65 nfd_66 ans_67 rfc_68 rfb_69 mrow_70 mrs_71 ma_72 mb_73 mlo_74 mhi_75 man_76 mtl_77 mtm_78 fig_79 len_80 top_81 bel_82 thr_83 trm_84 who_85 out_86
             ) ∧ (¬ (out_260 (0 : Int32).toNatClampNeg) = r_261.toInt64 →
              Q 0
             ))
           ))
         ) ∧ (¬ r_265 = r_255 →
          Q 0
         )))))
       ) ∧ (¬ v_89 = 12 →
      ((v_89 = 13 →
        vp_in (i4_43 + 1) L ∧
        vp_in (i4_43 + 2) L ∧
        vp_in (i4_43 + 3) L ∧
        vp_in (i4_43 + 4) L ∧
        vp_in (i4_43 + 5) L ∧
        ∀ (v_272 : Int64), v_272 = ((xs (i4_43 + 5).toNatClampNeg).toInt64) <<< ((32 : Int32).toInt64 &&& 63) →
        vp_in (i4_43 + 6) L ∧
        ∀ (v_273 : Int64), v_273 = ((xs (i4_43 + 6).toNatClampNeg).toInt64) &&& 4294967295 →
        w_L_ask row_44 rc_45 wa_46 wb_47 wlo_48 whi_49 wtot_50 lsm_51 nsm_52 lst_53 nst_54 leu_59 neu_60 led_61 ned_62 lfu_63 nfu_64 lfd_65 nfd_66 ans_67 rfc_68 rfb_69 out_86 (xs (i4_43 + 1).toNatClampNeg) (xs (i4_43 + 2).toNatClampNeg) (xs (i4_43 + 3).toNatClampNeg) (xs (i4_43 + 4).toNatClampNeg) (v_272 ||| v_273) (fun (r_274 : Int32) (lsm_275 : Nat → Int32) (nsm_276 : Int32) (lst_277 : Nat → Int32) (nst_278 : Int32) (leu_279 : Nat → Int32) (neu_280 : Int32) (led_281 : Nat → Int32) (ned_282 : Int32) (lfu_283 : Nat → Int32) (nfu_284 : Int32) (lfd_285 : Nat → Int32) (nfd_286 : Int32) (ans_287 : Int32) (rfc_288 : Int32) (rfb_289 : Int32) (out_290 : Nat → Int64) =>
        vp_in (i4_43 + 1) L ∧
        vp_in (i4_43 + 2) L ∧
        vp_in (i4_43 + 3) L ∧
        vp_in (i4_43 + 4) L ∧
        vp_in (i4_43 + 5) L ∧
        ∀ (v_291 : Int64), v_291 = ((xs (i4_43 + 5).toNatClampNeg).toInt64) <<< ((32 : Int32).toInt64 &&& 63) →
        vp_in (i4_43 + 6) L ∧
        ∀ (v_292 : Int64), v_292 = ((xs (i4_43 + 6).toNatClampNeg).toInt64) &&& 4294967295 →
        w_X5_ask mrow_70 mrs_71 ma_72 mb_73 mlo_74 mhi_75 man_76 mtl_77 mtm_78 fig_79 len_80 top_81 bel_82 thr_83 trm_84 who_85 (xs (i4_43 + 1).toNatClampNeg) (xs (i4_43 + 2).toNatClampNeg) (xs (i4_43 + 3).toNatClampNeg) (xs (i4_43 + 4).toNatClampNeg) (v_291 ||| v_292) (fun (r_293 : Int32) (man_294 : Int32) (mtl_295 : Int32) (mtm_296 : Int32) (fig_297 : Nat → Int64) (len_298 : Nat → Int32) (top_299 : Nat → Int64) (bel_300 : Nat → Int64) (thr_301 : Int32) (trm_302 : Nat → Int32) (who_303 : Nat → Int32) =>
        w_X5_thrown thr_301 (fun (r_304 : Int32) =>
        ((r_304 = r_274 →
          ((¬ r_274 = 0 →
            ∀ (i4_305 : Int32), i4_305 = i4_43 + 7 →
            I23_87 i4_305 row_44 rc_45 wa_46 wb_47 wlo_48 whi_49 wtot_50 lsm_275 nsm_276 lst_277 nst_278 lgu_55 ngu_56 lgd_57 ngd_58 leu_279 neu_280 led_281 ned_282 lfu_283 nfu_284 lfd_285 nfd_286 ans_287 rfc_288 rfb_289 mrow_70 mrs_71 ma_72 mb_73 mlo_74 mhi_75 man_294 mtl_295 mtm_296 fig_297 len_298 top_299 bel_300 thr_301 trm_302 who_303 out_290 ∧ μ23_87 i4_305 row_44 rc_45 wa_46 wb_47 wlo_48 whi_49 wtot_50 lsm_275 nsm_276 lst_277 nst_278 lgu_55 ngu_56 lgd_57 ngd_58 leu_279 neu_280 led_281 ned_282 lfu_283 nfu_284 lfd_285 nfd_286 ans_287 rfc_288 rfb_289 mrow_70 mrs_71 ma_72 mb_73 mlo_74 mhi_75 man_294 mtl_295 mtm_296 fig_297 len_298 top_299 bel_300 thr_301 trm_302 who_303 out_290 < μ23_87 i4_43 row_44 rc_45 wa_46 wb_47 wlo_48 whi_49 wtot_50 lsm_51 nsm_52 lst_53 nst_54 lgu_55 ngu_56 lgd_57 ngd_58 leu_59 neu_60 led_61 ned_62 lfu_63 nfu_64 lfd_65 nfd_66 ans_67 rfc_68 rfb_69 mrow_70 mrs_71 ma_72 mb_73 mlo_74 mhi_75 man_76 mtl_77 mtm_78 fig_79 len_80 top_81 bel_82 thr_83 trm_84 who_85 out_86
           ) ∧ (r_274 = 0 →
            vp_in 0 1 ∧
            (((out_290 (0 : Int32).toNatClampNeg) = r_293.toInt64 →
              ∀ (i4_306 : Int32), i4_306 = i4_43 + 7 →
              I23_87 i4_306 row_44 rc_45 wa_46 wb_47 wlo_48 whi_49 wtot_50 lsm_275 nsm_276 lst_277 nst_278 lgu_55 ngu_56 lgd_57 ngd_58 leu_279 neu_280 led_281 ned_282 lfu_283 nfu_284 lfd_285 nfd_286 ans_287 rfc_288 rfb_289 mrow_70 mrs_71 ma_72 mb_73 mlo_74 mhi_75 man_294 mtl_295 mtm_296 fig_297 len_298 top_299 bel_300 thr_301 trm_302 who_303 out_290 ∧ μ23_87 i4_306 row_44 rc_45 wa_46 wb_47 wlo_48 whi_49 wtot_50 lsm_275 nsm_276 lst_277 nst_278 lgu_55 ngu_56 lgd_57 ngd_58 leu_279 neu_280 led_281 ned_282 lfu_283 nfu_284 lfd_285 nfd_286 ans_287 rfc_288 rfb_289 mrow_70 mrs_71 ma_72 mb_73 mlo_74 mhi_75 man_294 mtl_295 mtm_296 fig_297 len_298 top_299 bel_300 thr_301 trm_302 who_303 out_290 < μ23_87 i4_43 row_44 rc_45 wa_46 wb_47 wlo_48 whi_49 wtot_50 lsm_51 nsm_52 lst_53 nst_54 lgu_55 ngu_56 lgd_57 ngd_58 leu_59 neu_60 led_61 ned_62 lfu_63 nfu_64 lfd_65 nfd_66 ans_67 rfc_68 rfb_69 mrow_70 mrs_71 ma_72 mb_73 mlo_74 mhi_75 man_76 mtl_77 mtm_78 fig_79 len_80 top_81 bel_82 thr_83 trm_84 who_85 out_86
             ) ∧ (¬ (out_290 (0 : Int32).toNatClampNeg) = r_293.toInt64 →
              Q 0
             ))
           ))
         ) ∧ (¬ r_304 = r_274 →
          Q 0
         )))))
       ) ∧ (¬ v_89 = 13 →
      ((v_89 = 14 →
        vp_in (i4_43 + 1) L ∧
        vp_in (i4_43 + 2) L ∧
        vp_in (i4_43 + 3) L ∧
        w_L_limb lgu_55 ngu_56 lgd_57 ngd_58 leu_59 neu_60 led_61 ned_62 lfu_63 nfu_64 lfd_65 nfd_66 out_86 (xs (i4_43 + 1).toNatClampNeg) (xs (i4_43 + 2).toNatClampNeg) (xs (i4_43 + 3).toNatClampNeg) (fun (r_311 : Int32) (out_312 : Nat → Int64) =>
        vp_in (i4_43 + 1) L ∧
        vp_in (i4_43 + 2) L ∧
        vp_in (i4_43 + 3) L ∧
        w_X5_limb fig_79 len_80 top_81 bel_82 thr_83 (xs (i4_43 + 1).toNatClampNeg) (xs (i4_43 + 2).toNatClampNeg) (xs (i4_43 + 3).toNatClampNeg) (fun (r_313 : Int32) (fig_314 : Nat → Int64) (len_315 : Nat → Int32) (top_316 : Nat → Int64) (bel_317 : Nat → Int64) (thr_318 : Int32) =>
        w_X5_thrown thr_318 (fun (r_319 : Int32) =>
        ((r_319 = r_311 →
          ((¬ r_311 = 0 →
            ∀ (i4_320 : Int32), i4_320 = i4_43 + 7 →
            I23_87 i4_320 row_44 rc_45 wa_46 wb_47 wlo_48 whi_49 wtot_50 lsm_51 nsm_52 lst_53 nst_54 lgu_55 ngu_56 lgd_57 ngd_58 leu_59 neu_60 led_61 ned_62 lfu_63 nfu_64 lfd_65 nfd_66 ans_67 rfc_68 rfb_69 mrow_70 mrs_71 ma_72 mb_73 mlo_74 mhi_75 man_76 mtl_77 mtm_78 fig_314 len_315 top_316 bel_317 thr_318 trm_84 who_85 out_312 ∧ μ23_87 i4_320 row_44 rc_45 wa_46 wb_47 wlo_48 whi_49 wtot_50 lsm_51 nsm_52 lst_53 nst_54 lgu_55 ngu_56 lgd_57 ngd_58 leu_59 neu_60 led_61 ned_62 lfu_63 nfu_64 lfd_65 nfd_66 ans_67 rfc_68 rfb_69 mrow_70 mrs_71 ma_72 mb_73 mlo_74 mhi_75 man_76 mtl_77 mtm_78 fig_314 len_315 top_316 bel_317 thr_318 trm_84 who_85 out_312 < μ23_87 i4_43 row_44 rc_45 wa_46 wb_47 wlo_48 whi_49 wtot_50 lsm_51 nsm_52 lst_53 nst_54 lgu_55 ngu_56 lgd_57 ngd_58 leu_59 neu_60 led_61 ned_62 lfu_63 nfu_64 lfd_65 nfd_66 ans_67 rfc_68 rfb_69 mrow_70 mrs_71 ma_72 mb_73 mlo_74 mhi_75 man_76 mtl_77 mtm_78 fig_79 len_80 top_81 bel_82 thr_83 trm_84 who_85 out_86
           ) ∧ (r_311 = 0 →
            vp_in 0 1 ∧
            (((out_312 (0 : Int32).toNatClampNeg) = r_313.toInt64 →
              ∀ (i4_321 : Int32), i4_321 = i4_43 + 7 →
              I23_87 i4_321 row_44 rc_45 wa_46 wb_47 wlo_48 whi_49 wtot_50 lsm_51 nsm_52 lst_53 nst_54 lgu_55 ngu_56 lgd_57 ngd_58 leu_59 neu_60 led_61 ned_62 lfu_63 nfu_64 lfd_65 nfd_66 ans_67 rfc_68 rfb_69 mrow_70 mrs_71 ma_72 mb_73 mlo_74 mhi_75 man_76 mtl_77 mtm_78 fig_314 len_315 top_316 bel_317 thr_318 trm_84 who_85 out_312 ∧ μ23_87 i4_321 row_44 rc_45 wa_46 wb_47 wlo_48 whi_49 wtot_50 lsm_51 nsm_52 lst_53 nst_54 lgu_55 ngu_56 lgd_57 ngd_58 leu_59 neu_60 led_61 ned_62 lfu_63 nfu_64 lfd_65 nfd_66 ans_67 rfc_68 rfb_69 mrow_70 mrs_71 ma_72 mb_73 mlo_74 mhi_75 man_76 mtl_77 mtm_78 fig_314 len_315 top_316 bel_317 thr_318 trm_84 who_85 out_312 < μ23_87 i4_43 row_44 rc_45 wa_46 wb_47 wlo_48 whi_49 wtot_50 lsm_51 nsm_52 lst_53 nst_54 lgu_55 ngu_56 lgd_57 ngd_58 leu_59 neu_60 led_61 ned_62 lfu_63 nfu_64 lfd_65 nfd_66 ans_67 rfc_68 rfb_69 mrow_70 mrs_71 ma_72 mb_73 mlo_74 mhi_75 man_76 mtl_77 mtm_78 fig_79 len_80 top_81 bel_82 thr_83 trm_84 who_85 out_86
             ) ∧ (¬ (out_312 (0 : Int32).toNatClampNeg) = r_313.toInt64 →
              Q 0
             ))
           ))
         ) ∧ (¬ r_319 = r_311 →
          Q 0
         )))))
       ) ∧ (¬ v_89 = 14 →
      ((v_89 = 15 →
        vp_in (i4_43 + 1) L ∧
        w_L_told rc_45 wa_46 wb_47 wlo_48 whi_49 ans_67 rfc_68 rfb_69 out_86 (xs (i4_43 + 1).toNatClampNeg) (fun (r_326 : Int32) (out_327 : Nat → Int64) =>
        vp_in (i4_43 + 1) L ∧
        w_X5_told mrs_71 ma_72 mb_73 mlo_74 mhi_75 man_76 mtl_77 mtm_78 thr_83 (xs (i4_43 + 1).toNatClampNeg) (fun (r_328 : Int32) (thr_329 : Int32) =>
        w_X5_thrown thr_329 (fun (r_330 : Int32) =>
        ((r_330 = r_326 →
          ((¬ r_326 = 0 →
            ∀ (i4_331 : Int32), i4_331 = i4_43 + 7 →
            I23_87 i4_331 row_44 rc_45 wa_46 wb_47 wlo_48 whi_49 wtot_50 lsm_51 nsm_52 lst_53 nst_54 lgu_55 ngu_56 lgd_57 ngd_58 leu_59 neu_60 led_61 ned_62 lfu_63 nfu_64 lfd_65 nfd_66 ans_67 rfc_68 rfb_69 mrow_70 mrs_71 ma_72 mb_73 mlo_74 mhi_75 man_76 mtl_77 mtm_78 fig_79 len_80 top_81 bel_82 thr_329 trm_84 who_85 out_327 ∧ μ23_87 i4_331 row_44 rc_45 wa_46 wb_47 wlo_48 whi_49 wtot_50 lsm_51 nsm_52 lst_53 nst_54 lgu_55 ngu_56 lgd_57 ngd_58 leu_59 neu_60 led_61 ned_62 lfu_63 nfu_64 lfd_65 nfd_66 ans_67 rfc_68 rfb_69 mrow_70 mrs_71 ma_72 mb_73 mlo_74 mhi_75 man_76 mtl_77 mtm_78 fig_79 len_80 top_81 bel_82 thr_329 trm_84 who_85 out_327 < μ23_87 i4_43 row_44 rc_45 wa_46 wb_47 wlo_48 whi_49 wtot_50 lsm_51 nsm_52 lst_53 nst_54 lgu_55 ngu_56 lgd_57 ngd_58 leu_59 neu_60 led_61 ned_62 lfu_63 nfu_64 lfd_65 nfd_66 ans_67 rfc_68 rfb_69 mrow_70 mrs_71 ma_72 mb_73 mlo_74 mhi_75 man_76 mtl_77 mtm_78 fig_79 len_80 top_81 bel_82 thr_83 trm_84 who_85 out_86
           ) ∧ (r_326 = 0 →
            vp_in 0 1 ∧
            (((out_327 (0 : Int32).toNatClampNeg) = r_328.toInt64 →
              ∀ (i4_332 : Int32), i4_332 = i4_43 + 7 →
              I23_87 i4_332 row_44 rc_45 wa_46 wb_47 wlo_48 whi_49 wtot_50 lsm_51 nsm_52 lst_53 nst_54 lgu_55 ngu_56 lgd_57 ngd_58 leu_59 neu_60 led_61 ned_62 lfu_63 nfu_64 lfd_65 nfd_66 ans_67 rfc_68 rfb_69 mrow_70 mrs_71 ma_72 mb_73 mlo_74 mhi_75 man_76 mtl_77 mtm_78 fig_79 len_80 top_81 bel_82 thr_329 trm_84 who_85 out_327 ∧ μ23_87 i4_332 row_44 rc_45 wa_46 wb_47 wlo_48 whi_49 wtot_50 lsm_51 nsm_52 lst_53 nst_54 lgu_55 ngu_56 lgd_57 ngd_58 leu_59 neu_60 led_61 ned_62 lfu_63 nfu_64 lfd_65 nfd_66 ans_67 rfc_68 rfb_69 mrow_70 mrs_71 ma_72 mb_73 mlo_74 mhi_75 man_76 mtl_77 mtm_78 fig_79 len_80 top_81 bel_82 thr_329 trm_84 who_85 out_327 < μ23_87 i4_43 row_44 rc_45 wa_46 wb_47 wlo_48 whi_49 wtot_50 lsm_51 nsm_52 lst_53 nst_54 lgu_55 ngu_56 lgd_57 ngd_58 leu_59 neu_60 led_61 ned_62 lfu_63 nfu_64 lfd_65 nfd_66 ans_67 rfc_68 rfb_69 mrow_70 mrs_71 ma_72 mb_73 mlo_74 mhi_75 man_76 mtl_77 mtm_78 fig_79 len_80 top_81 bel_82 thr_83 trm_84 who_85 out_86
             ) ∧ (¬ (out_327 (0 : Int32).toNatClampNeg) = r_328.toInt64 →
              Q 0
             ))
           ))
         ) ∧ (¬ r_330 = r_326 →
          Q 0
         )))))
       ) ∧ (¬ v_89 = 15 →
        ∀ (i4_336 : Int32), i4_336 = i4_43 + 7 →
        I23_87 i4_336 row_44 rc_45 wa_46 wb_47 wlo_48 whi_49 wtot_50 lsm_51 nsm_52 lst_53 nst_54 lgu_55 ngu_56 lgd_57 ngd_58 leu_59 neu_60 led_61 ned_62 lfu_63 nfu_64 lfd_65 nfd_66 ans_67 rfc_68 rfb_69 mrow_70 mrs_71 ma_72 mb_73 mlo_74 mhi_75 man_76 mtl_77 mtm_78 fig_79 len_80 top_81 bel_82 thr_83 trm_84 who_85 out_86 ∧ μ23_87 i4_336 row_44 rc_45 wa_46 wb_47 wlo_48 whi_49 wtot_50 lsm_51 nsm_52 lst_53 nst_54 lgu_55 ngu_56 lgd_57 ngd_58 leu_59 neu_60 led_61 ned_62 lfu_63 nfu_64 lfd_65 nfd_66 ans_67 rfc_68 rfb_69 mrow_70 mrs_71 ma_72 mb_73 mlo_74 mhi_75 man_76 mtl_77 mtm_78 fig_79 len_80 top_81 bel_82 thr_83 trm_84 who_85 out_86 < μ23_87 i4_43 row_44 rc_45 wa_46 wb_47 wlo_48 whi_49 wtot_50 lsm_51 nsm_52 lst_53 nst_54 lgu_55 ngu_56 lgd_57 ngd_58 leu_59 neu_60 led_61 ned_62 lfu_63 nfu_64 lfd_65 nfd_66 ans_67 rfc_68 rfb_69 mrow_70 mrs_71 ma_72 mb_73 mlo_74 mhi_75 man_76 mtl_77 mtm_78 fig_79 len_80 top_81 bel_82 thr_83 trm_84 who_85 out_86
       ))))))))))))))))))))))))))))))))
     ))))

theorem uL_law_X4 : ∀ w ∈ u_ws RX4 TX4 10, w ∈ wsL_law := by decide +kernel
theorem fL_law_8 : Cond.classLink RL 8 RX4 ∈ wsL_law := by decide +kernel
theorem fL_law_iX4 : Cond.instantiable RX4 10 ∈ wsL_law := by decide +kernel
theorem fL_law_jX4 : Cond.initialized RX4 ∈ wsL_law := by decide +kernel
theorem fL_law_mX4_init : Cond.instanceMethod yX4_init ∈ wsL_law := by decide +kernel
theorem fL_law_53 : Cond.methodLink RL 53 yX4_init ∈ wsL_law := by decide +kernel
theorem uL_law_X5 : ∀ w ∈ u_ws RX5 TX5 16, w ∈ wsL_law := by decide +kernel
theorem fL_law_54 : Cond.classLink RL 54 RX5 ∈ wsL_law := by decide +kernel
theorem fL_law_iX5 : Cond.instantiable RX5 16 ∈ wsL_law := by decide +kernel
theorem fL_law_jX5 : Cond.initialized RX5 ∈ wsL_law := by decide +kernel
theorem fL_law_mX5_init : Cond.instanceMethod yX5_init ∈ wsL_law := by decide +kernel
theorem fL_law_56 : Cond.methodLink RL 56 yX5_init ∈ wsL_law := by decide +kernel
theorem fL_law_aJ : Cond.arrayClass .long ∈ wsL_law := by decide +kernel
theorem fL_law_94 : Cond.constantLong RL 94 (4294967295) ∈ wsL_law := by decide +kernel
set_option maxHeartbeats 40000000 in
set_option maxRecDepth 100000 in
theorem M_L_law {p : Program} {e : Env} {s : State} {m : MethodId} {below : List Frame} {meth : Method} {c : Code} (l : Launch) (hst : l.stackTraces = false) {bS L : Nat} {xs : Nat → Int32} (hL : L ≤ 448) (C0 : lw_At p s m meth c bS L xs) (sa : Nat → Nat) (G : va_G) (cI cJ : ClassId) (hK : wKK G cI cJ s) (hE : wEX xTx sa (fun q => s.heap.size ≤ q) s s.heap) (hw : w_L_law L xs (fun r => r = 1)) : W p l e room_1 s m #[Value.ref bS] below meth c s.heap [] 0 0 (lw_Z below #[Value.ref bS] s) (entryFrame m ([Value.ref bS] : List Value).toArray 8) := by
  obtain ⟨hx, hb, hr, hml, hown, hts0, hX, hbl, hlocks, hgv⟩ := C0
  have hts : ∀ w ∈ wsL_law, w.before #[Value.ref bS] s = true := fun w h => hts0 w (wsL_law_in w h)
  have hown : s.vm.findClass RL = some m.cls := hown
  obtain ⟨A, hAe⟩ : ∃ A : Nat → Prop, A = (fun q => s.heap.size ≤ q) := ⟨_, rfl⟩
  rw [← hAe] at hE
  have hA : ∀ q : Nat, s.heap.size ≤ q → A q := fun q h => by rw [hAe]; exact h
  have hbA : ¬ A bS := by rw [hAe]; exact Nat.not_le.mpr hbl
  have hS : va_S A s.heap s.heap [] := va_S.rf
  have hP : va_P G vwCl [] s.heap := fun k q h => by simp at h
  have hD : va_D A [] := ⟨fun i j p q h => by simp at h, fun k q h => by simp at h⟩
  have hl := lv_entry ([.ref bS]) (n := 8) (Nat.le_of_ble_eq_true rfl)
  rw [lg_entry_eq]
  generalize (lg_sl ([.ref bS]) ++ List.replicate (8 - (lg_sl ([.ref bS])).length) Slot.unset).toArray = ls at hl ⊢
  have hl : lv_has ls 8 [(0, .ref bS)] := hl
  unfold w_L_law at hw
  refine va_new (ci := 4) (fs := [.null, .int 0, .null, .null, .null, .null, .null, .int 0, .int 0, .int 0]) (C := RX4) (T := TX4) (N := 10) hx hb hts uL_law_X4 tyX4 tyX4_ok hown (hts _ fL_law_8) (hts _ fL_law_iX4) (hts _ fL_law_jX4) hK.1 hP hD hS hA rfl (fun j hj => by rcases (show j = 0 ∨ j = 1 ∨ j = 2 ∨ j = 3 ∨ j = 4 ∨ j = 5 ∨ j = 6 ∨ j = 7 ∨ j = 8 ∨ j = 9 by omega) with rfl | rfl | rfl | rfl | rfl | rfl | rfl | rfl | rfl | rfl <;> rfl) (Nat.le_of_ble_eq_true rfl) (Nat.le_of_ble_eq_true rfl) dL_law_0 (fun An1 H hP hD hS => ?_)
  refine W.widen (k := 1) (n := 10) (Nat.le_of_ble_eq_true rfl) (Nat.le_of_ble_eq_true rfl) ?_
  have hP : va_P G vwCl [(An1, .inr (4, [.null, .int 0, .null, .null, .null, .null, .null, .int 0, .int 0, .int 0]))] H := hP
  have hD : va_D A [(An1, .inr (4, [.null, .int 0, .null, .null, .null, .null, .null, .int 0, .int 0, .int 0]))] := hD
  refine lv_dup hx hb dL_law_3 rfl ?_
  refine k_I (M_X4_init l xTx sa G cI cJ An1 _ hw) ⟨hx, hb, hml, hown, hts⟩ (cwI 0 hts gL_law_X4_init rfl rfl rfl (hts _ fL_law_jX4) (hts _ fL_law_53) (hts _ fL_law_mX4_init) rfl (by decide +kernel) ⟨(Nat.le_of_ble_eq_true rfl), (Nat.le_of_ble_eq_true rfl)⟩) hK hP hD hS hA hE [0] [] (wr := []) rfl rfl (by decide) (by decide) (by decide) (rest := [.ref An1]) rfl hl.1 rfl (Nat.le_of_ble_eq_true rfl) (Nat.le_of_ble_eq_true rfl) (Nat.le_of_ble_eq_true rfl) dL_law_4 (fun u H locs hw hP hD hS => ?_)
  obtain ⟨Bx, Aw, As, Asm, Bsm, Ast, Bst, Ag, Agu, Bgu, Agd, Bgd, Ae, Aeu, Beu, Aed, Bed, Af, Afu, Bfu, Afd, Bfd, row_1, rc_2, wa_3, wb_4, wlo_5, whi_6, wtot_7, lsm_8, nsm_9, lst_10, nst_11, lgu_12, ngu_13, lgd_14, ngd_15, leu_16, neu_17, led_18, ned_19, lfu_20, nfu_21, lfd_22, nfd_23, ans_24, rfc_25, rfb_26⟩ := u
  have hP : va_P G vwCl [(An1, .inr (4, [.ref Bx, .int rc_2, .ref Aw, .ref As, .ref Ag, .ref Ae, .ref Af, .int ans_24, .int rfc_25, .int rfb_26])), (Bx, .inl (cI, 60, .inl row_1)), (Aw, .inr (3, [.int wa_3, .int wb_4, .int wlo_5, .int whi_6, .long wtot_7])), (As, .inr (2, [.ref Asm, .ref Ast])), (Asm, .inr (1, [.ref Bsm, .int nsm_9])), (Bsm, .inl (cI, 64, .inl lsm_8)), (Ast, .inr (1, [.ref Bst, .int nst_11])), (Bst, .inl (cI, 64, .inl lst_10)), (Ag, .inr (0, [.ref Agu, .ref Agd])), (Agu, .inr (1, [.ref Bgu, .int ngu_13])), (Bgu, .inl (cI, 64, .inl lgu_12)), (Agd, .inr (1, [.ref Bgd, .int ngd_15])), (Bgd, .inl (cI, 64, .inl lgd_14)), (Ae, .inr (0, [.ref Aeu, .ref Aed])), (Aeu, .inr (1, [.ref Beu, .int neu_17])), (Beu, .inl (cI, 64, .inl leu_16)), (Aed, .inr (1, [.ref Bed, .int ned_19])), (Bed, .inl (cI, 64, .inl led_18)), (Af, .inr (0, [.ref Afu, .ref Afd])), (Afu, .inr (1, [.ref Bfu, .int nfu_21])), (Bfu, .inl (cI, 64, .inl lfu_20)), (Afd, .inr (1, [.ref Bfd, .int nfd_23])), (Bfd, .inl (cI, 64, .inl lfd_22))] H := hP
  have hD : va_D A [(An1, .inr (4, [.ref Bx, .int rc_2, .ref Aw, .ref As, .ref Ag, .ref Ae, .ref Af, .int ans_24, .int rfc_25, .int rfb_26])), (Bx, .inl (cI, 60, .inl row_1)), (Aw, .inr (3, [.int wa_3, .int wb_4, .int wlo_5, .int whi_6, .long wtot_7])), (As, .inr (2, [.ref Asm, .ref Ast])), (Asm, .inr (1, [.ref Bsm, .int nsm_9])), (Bsm, .inl (cI, 64, .inl lsm_8)), (Ast, .inr (1, [.ref Bst, .int nst_11])), (Bst, .inl (cI, 64, .inl lst_10)), (Ag, .inr (0, [.ref Agu, .ref Agd])), (Agu, .inr (1, [.ref Bgu, .int ngu_13])), (Bgu, .inl (cI, 64, .inl lgu_12)), (Agd, .inr (1, [.ref Bgd, .int ngd_15])), (Bgd, .inl (cI, 64, .inl lgd_14)), (Ae, .inr (0, [.ref Aeu, .ref Aed])), (Aeu, .inr (1, [.ref Beu, .int neu_17])), (Beu, .inl (cI, 64, .inl leu_16)), (Aed, .inr (1, [.ref Bed, .int ned_19])), (Bed, .inl (cI, 64, .inl led_18)), (Af, .inr (0, [.ref Afu, .ref Afd])), (Afu, .inr (1, [.ref Bfu, .int nfu_21])), (Bfu, .inl (cI, 64, .inl lfu_20)), (Afd, .inr (1, [.ref Bfd, .int nfd_23])), (Bfd, .inl (cI, 64, .inl lfd_22))] := hD
  refine W.widen (k := 23) (n := 611) (Nat.le_of_ble_eq_true rfl) (Nat.le_of_ble_eq_true rfl) ?_
  refine lv_astore_n (lv' := [(1, .ref An1), (0, .ref bS)]) hx hb dL_law_7 rfl hl (by decide) rfl (fun ls hl => ?_)
  refine va_new (ci := 5) (fs := [.null, .int 0, .int 0, .int 0, .int 0, .int 0, .int 0, .int 0, .int 0, .null, .null, .null, .null, .int 0, .null, .null]) (C := RX5) (T := TX5) (N := 16) hx hb hts uL_law_X5 tyX5 tyX5_ok hown (hts _ fL_law_54) (hts _ fL_law_iX5) (hts _ fL_law_jX5) hK.1 hP hD hS hA rfl (fun j hj => by rcases (show j = 0 ∨ j = 1 ∨ j = 2 ∨ j = 3 ∨ j = 4 ∨ j = 5 ∨ j = 6 ∨ j = 7 ∨ j = 8 ∨ j = 9 ∨ j = 10 ∨ j = 11 ∨ j = 12 ∨ j = 13 ∨ j = 14 ∨ j = 15 by omega) with rfl | rfl | rfl | rfl | rfl | rfl | rfl | rfl | rfl | rfl | rfl | rfl | rfl | rfl | rfl | rfl <;> rfl) (Nat.le_of_ble_eq_true rfl) (Nat.le_of_ble_eq_true rfl) dL_law_8 (fun An2 H hP hD hS => ?_)
  refine W.widen (k := 24) (n := 627) (Nat.le_of_ble_eq_true rfl) (Nat.le_of_ble_eq_true rfl) ?_
  have hP : va_P G vwCl [(An1, .inr (4, [.ref Bx, .int rc_2, .ref Aw, .ref As, .ref Ag, .ref Ae, .ref Af, .int ans_24, .int rfc_25, .int rfb_26])), (Bx, .inl (cI, 60, .inl row_1)), (Aw, .inr (3, [.int wa_3, .int wb_4, .int wlo_5, .int whi_6, .long wtot_7])), (As, .inr (2, [.ref Asm, .ref Ast])), (Asm, .inr (1, [.ref Bsm, .int nsm_9])), (Bsm, .inl (cI, 64, .inl lsm_8)), (Ast, .inr (1, [.ref Bst, .int nst_11])), (Bst, .inl (cI, 64, .inl lst_10)), (Ag, .inr (0, [.ref Agu, .ref Agd])), (Agu, .inr (1, [.ref Bgu, .int ngu_13])), (Bgu, .inl (cI, 64, .inl lgu_12)), (Agd, .inr (1, [.ref Bgd, .int ngd_15])), (Bgd, .inl (cI, 64, .inl lgd_14)), (Ae, .inr (0, [.ref Aeu, .ref Aed])), (Aeu, .inr (1, [.ref Beu, .int neu_17])), (Beu, .inl (cI, 64, .inl leu_16)), (Aed, .inr (1, [.ref Bed, .int ned_19])), (Bed, .inl (cI, 64, .inl led_18)), (Af, .inr (0, [.ref Afu, .ref Afd])), (Afu, .inr (1, [.ref Bfu, .int nfu_21])), (Bfu, .inl (cI, 64, .inl lfu_20)), (Afd, .inr (1, [.ref Bfd, .int nfd_23])), (Bfd, .inl (cI, 64, .inl lfd_22)), (An2, .inr (5, [.null, .int 0, .int 0, .int 0, .int 0, .int 0, .int 0, .int 0, .int 0, .null, .null, .null, .null, .int 0, .null, .null]))] H := hP
  have hD : va_D A [(An1, .inr (4, [.ref Bx, .int rc_2, .ref Aw, .ref As, .ref Ag, .ref Ae, .ref Af, .int ans_24, .int rfc_25, .int rfb_26])), (Bx, .inl (cI, 60, .inl row_1)), (Aw, .inr (3, [.int wa_3, .int wb_4, .int wlo_5, .int whi_6, .long wtot_7])), (As, .inr (2, [.ref Asm, .ref Ast])), (Asm, .inr (1, [.ref Bsm, .int nsm_9])), (Bsm, .inl (cI, 64, .inl lsm_8)), (Ast, .inr (1, [.ref Bst, .int nst_11])), (Bst, .inl (cI, 64, .inl lst_10)), (Ag, .inr (0, [.ref Agu, .ref Agd])), (Agu, .inr (1, [.ref Bgu, .int ngu_13])), (Bgu, .inl (cI, 64, .inl lgu_12)), (Agd, .inr (1, [.ref Bgd, .int ngd_15])), (Bgd, .inl (cI, 64, .inl lgd_14)), (Ae, .inr (0, [.ref Aeu, .ref Aed])), (Aeu, .inr (1, [.ref Beu, .int neu_17])), (Beu, .inl (cI, 64, .inl leu_16)), (Aed, .inr (1, [.ref Bed, .int ned_19])), (Bed, .inl (cI, 64, .inl led_18)), (Af, .inr (0, [.ref Afu, .ref Afd])), (Afu, .inr (1, [.ref Bfu, .int nfu_21])), (Bfu, .inl (cI, 64, .inl lfu_20)), (Afd, .inr (1, [.ref Bfd, .int nfd_23])), (Bfd, .inl (cI, 64, .inl lfd_22)), (An2, .inr (5, [.null, .int 0, .int 0, .int 0, .int 0, .int 0, .int 0, .int 0, .int 0, .null, .null, .null, .null, .int 0, .null, .null]))] := hD
  refine lv_dup hx hb dL_law_11 rfl ?_
  refine k_I (M_X5_init l xTx sa G cI cJ An2 _ hw) ⟨hx, hb, hml, hown, hts⟩ (cwI 0 hts gL_law_X5_init rfl rfl rfl (hts _ fL_law_jX5) (hts _ fL_law_56) (hts _ fL_law_mX5_init) rfl (by decide +kernel) ⟨(Nat.le_of_ble_eq_true rfl), (Nat.le_of_ble_eq_true rfl)⟩) hK hP hD hS hA hE [23] [0, 1, 2, 3, 4, 5, 6, 7, 8, 9, 10, 11, 12, 13, 14, 15, 16, 17, 18, 19, 20, 21, 22] (wr := [(An1, .inr (4, [.ref Bx, .int rc_2, .ref Aw, .ref As, .ref Ag, .ref Ae, .ref Af, .int ans_24, .int rfc_25, .int rfb_26])), (Bx, .inl (cI, 60, .inl row_1)), (Aw, .inr (3, [.int wa_3, .int wb_4, .int wlo_5, .int whi_6, .long wtot_7])), (As, .inr (2, [.ref Asm, .ref Ast])), (Asm, .inr (1, [.ref Bsm, .int nsm_9])), (Bsm, .inl (cI, 64, .inl lsm_8)), (Ast, .inr (1, [.ref Bst, .int nst_11])), (Bst, .inl (cI, 64, .inl lst_10)), (Ag, .inr (0, [.ref Agu, .ref Agd])), (Agu, .inr (1, [.ref Bgu, .int ngu_13])), (Bgu, .inl (cI, 64, .inl lgu_12)), (Agd, .inr (1, [.ref Bgd, .int ngd_15])), (Bgd, .inl (cI, 64, .inl lgd_14)), (Ae, .inr (0, [.ref Aeu, .ref Aed])), (Aeu, .inr (1, [.ref Beu, .int neu_17])), (Beu, .inl (cI, 64, .inl leu_16)), (Aed, .inr (1, [.ref Bed, .int ned_19])), (Bed, .inl (cI, 64, .inl led_18)), (Af, .inr (0, [.ref Afu, .ref Afd])), (Afu, .inr (1, [.ref Bfu, .int nfu_21])), (Bfu, .inl (cI, 64, .inl lfu_20)), (Afd, .inr (1, [.ref Bfd, .int nfd_23])), (Bfd, .inl (cI, 64, .inl lfd_22))]) rfl rfl (by decide) (by decide) (by decide) (rest := [.ref An2]) rfl hl.1 rfl (Nat.le_of_ble_eq_true rfl) (Nat.le_of_ble_eq_true rfl) (Nat.le_of_ble_eq_true rfl) dL_law_12 (fun u H locs hw hP hD hS => ?_)
  obtain ⟨Bmr, Bfg, Bln, Btp, Bbl, Btr, Bwh, mrow_27, mrs_28, ma_29, mb_30, mlo_31, mhi_32, man_33, mtl_34, mtm_35, fig_36, len_37, top_38, bel_39, thr_40, trm_41, who_42⟩ := u
  have hP : va_P G vwCl [(An1, .inr (4, [.ref Bx, .int rc_2, .ref Aw, .ref As, .ref Ag, .ref Ae, .ref Af, .int ans_24, .int rfc_25, .int rfb_26])), (Bx, .inl (cI, 60, .inl row_1)), (Aw, .inr (3, [.int wa_3, .int wb_4, .int wlo_5, .int whi_6, .long wtot_7])), (As, .inr (2, [.ref Asm, .ref Ast])), (Asm, .inr (1, [.ref Bsm, .int nsm_9])), (Bsm, .inl (cI, 64, .inl lsm_8)), (Ast, .inr (1, [.ref Bst, .int nst_11])), (Bst, .inl (cI, 64, .inl lst_10)), (Ag, .inr (0, [.ref Agu, .ref Agd])), (Agu, .inr (1, [.ref Bgu, .int ngu_13])), (Bgu, .inl (cI, 64, .inl lgu_12)), (Agd, .inr (1, [.ref Bgd, .int ngd_15])), (Bgd, .inl (cI, 64, .inl lgd_14)), (Ae, .inr (0, [.ref Aeu, .ref Aed])), (Aeu, .inr (1, [.ref Beu, .int neu_17])), (Beu, .inl (cI, 64, .inl leu_16)), (Aed, .inr (1, [.ref Bed, .int ned_19])), (Bed, .inl (cI, 64, .inl led_18)), (Af, .inr (0, [.ref Afu, .ref Afd])), (Afu, .inr (1, [.ref Bfu, .int nfu_21])), (Bfu, .inl (cI, 64, .inl lfu_20)), (Afd, .inr (1, [.ref Bfd, .int nfd_23])), (Bfd, .inl (cI, 64, .inl lfd_22)), (An2, .inr (5, [.ref Bmr, .int mrs_28, .int ma_29, .int mb_30, .int mlo_31, .int mhi_32, .int man_33, .int mtl_34, .int mtm_35, .ref Bfg, .ref Bln, .ref Btp, .ref Bbl, .int thr_40, .ref Btr, .ref Bwh])), (Bmr, .inl (cI, 60, .inl mrow_27)), (Bfg, .inl (cJ, 4608, .inr (.inl fig_36))), (Bln, .inl (cI, 18, .inl len_37)), (Btp, .inl (cJ, 520, .inr (.inl top_38))), (Bbl, .inl (cJ, 520, .inr (.inl bel_39))), (Btr, .inl (cI, 10, .inl trm_41)), (Bwh, .inl (cI, 10, .inl who_42))] H := hP
  have hD : va_D A [(An1, .inr (4, [.ref Bx, .int rc_2, .ref Aw, .ref As, .ref Ag, .ref Ae, .ref Af, .int ans_24, .int rfc_25, .int rfb_26])), (Bx, .inl (cI, 60, .inl row_1)), (Aw, .inr (3, [.int wa_3, .int wb_4, .int wlo_5, .int whi_6, .long wtot_7])), (As, .inr (2, [.ref Asm, .ref Ast])), (Asm, .inr (1, [.ref Bsm, .int nsm_9])), (Bsm, .inl (cI, 64, .inl lsm_8)), (Ast, .inr (1, [.ref Bst, .int nst_11])), (Bst, .inl (cI, 64, .inl lst_10)), (Ag, .inr (0, [.ref Agu, .ref Agd])), (Agu, .inr (1, [.ref Bgu, .int ngu_13])), (Bgu, .inl (cI, 64, .inl lgu_12)), (Agd, .inr (1, [.ref Bgd, .int ngd_15])), (Bgd, .inl (cI, 64, .inl lgd_14)), (Ae, .inr (0, [.ref Aeu, .ref Aed])), (Aeu, .inr (1, [.ref Beu, .int neu_17])), (Beu, .inl (cI, 64, .inl leu_16)), (Aed, .inr (1, [.ref Bed, .int ned_19])), (Bed, .inl (cI, 64, .inl led_18)), (Af, .inr (0, [.ref Afu, .ref Afd])), (Afu, .inr (1, [.ref Bfu, .int nfu_21])), (Bfu, .inl (cI, 64, .inl lfu_20)), (Afd, .inr (1, [.ref Bfd, .int nfd_23])), (Bfd, .inl (cI, 64, .inl lfd_22)), (An2, .inr (5, [.ref Bmr, .int mrs_28, .int ma_29, .int mb_30, .int mlo_31, .int mhi_32, .int man_33, .int mtl_34, .int mtm_35, .ref Bfg, .ref Bln, .ref Btp, .ref Bbl, .int thr_40, .ref Btr, .ref Bwh])), (Bmr, .inl (cI, 60, .inl mrow_27)), (Bfg, .inl (cJ, 4608, .inr (.inl fig_36))), (Bln, .inl (cI, 18, .inl len_37)), (Btp, .inl (cJ, 520, .inr (.inl top_38))), (Bbl, .inl (cJ, 520, .inr (.inl bel_39))), (Btr, .inl (cI, 10, .inl trm_41)), (Bwh, .inl (cI, 10, .inl who_42))] := hD
  refine W.widen (k := 31) (n := 6373) (Nat.le_of_ble_eq_true rfl) (Nat.le_of_ble_eq_true rfl) ?_
  refine lv_astore_n (lv' := [(2, .ref An2), (1, .ref An1), (0, .ref bS)]) hx hb dL_law_15 rfl hl (by decide) rfl (fun ls hl => ?_)
  refine lv_iconst (v := 1) hx hb dL_law_16 (by decide) ?_
  refine k_newJ hx hb (hts _ fL_law_aJ) hK hP hD hS hA 1 (by decide) rfl (Nat.le_of_ble_eq_true rfl) (Nat.le_of_ble_eq_true rfl) (Nat.le_of_ble_eq_true rfl) dL_law_17 (fun Bn3 H hP hD hS => ?_)
  refine W.widen (k := 32) (n := 6374) (Nat.le_of_ble_eq_true rfl) (Nat.le_of_ble_eq_true rfl) ?_
  have hP : va_P G vwCl [(An1, .inr (4, [.ref Bx, .int rc_2, .ref Aw, .ref As, .ref Ag, .ref Ae, .ref Af, .int ans_24, .int rfc_25, .int rfb_26])), (Bx, .inl (cI, 60, .inl row_1)), (Aw, .inr (3, [.int wa_3, .int wb_4, .int wlo_5, .int whi_6, .long wtot_7])), (As, .inr (2, [.ref Asm, .ref Ast])), (Asm, .inr (1, [.ref Bsm, .int nsm_9])), (Bsm, .inl (cI, 64, .inl lsm_8)), (Ast, .inr (1, [.ref Bst, .int nst_11])), (Bst, .inl (cI, 64, .inl lst_10)), (Ag, .inr (0, [.ref Agu, .ref Agd])), (Agu, .inr (1, [.ref Bgu, .int ngu_13])), (Bgu, .inl (cI, 64, .inl lgu_12)), (Agd, .inr (1, [.ref Bgd, .int ngd_15])), (Bgd, .inl (cI, 64, .inl lgd_14)), (Ae, .inr (0, [.ref Aeu, .ref Aed])), (Aeu, .inr (1, [.ref Beu, .int neu_17])), (Beu, .inl (cI, 64, .inl leu_16)), (Aed, .inr (1, [.ref Bed, .int ned_19])), (Bed, .inl (cI, 64, .inl led_18)), (Af, .inr (0, [.ref Afu, .ref Afd])), (Afu, .inr (1, [.ref Bfu, .int nfu_21])), (Bfu, .inl (cI, 64, .inl lfu_20)), (Afd, .inr (1, [.ref Bfd, .int nfd_23])), (Bfd, .inl (cI, 64, .inl lfd_22)), (An2, .inr (5, [.ref Bmr, .int mrs_28, .int ma_29, .int mb_30, .int mlo_31, .int mhi_32, .int man_33, .int mtl_34, .int mtm_35, .ref Bfg, .ref Bln, .ref Btp, .ref Bbl, .int thr_40, .ref Btr, .ref Bwh])), (Bmr, .inl (cI, 60, .inl mrow_27)), (Bfg, .inl (cJ, 4608, .inr (.inl fig_36))), (Bln, .inl (cI, 18, .inl len_37)), (Btp, .inl (cJ, 520, .inr (.inl top_38))), (Bbl, .inl (cJ, 520, .inr (.inl bel_39))), (Btr, .inl (cI, 10, .inl trm_41)), (Bwh, .inl (cI, 10, .inl who_42)), (Bn3, .inl (cJ, 1, .inr (.inl (fun _ => 0))))] H := hP
  have hD : va_D A [(An1, .inr (4, [.ref Bx, .int rc_2, .ref Aw, .ref As, .ref Ag, .ref Ae, .ref Af, .int ans_24, .int rfc_25, .int rfb_26])), (Bx, .inl (cI, 60, .inl row_1)), (Aw, .inr (3, [.int wa_3, .int wb_4, .int wlo_5, .int whi_6, .long wtot_7])), (As, .inr (2, [.ref Asm, .ref Ast])), (Asm, .inr (1, [.ref Bsm, .int nsm_9])), (Bsm, .inl (cI, 64, .inl lsm_8)), (Ast, .inr (1, [.ref Bst, .int nst_11])), (Bst, .inl (cI, 64, .inl lst_10)), (Ag, .inr (0, [.ref Agu, .ref Agd])), (Agu, .inr (1, [.ref Bgu, .int ngu_13])), (Bgu, .inl (cI, 64, .inl lgu_12)), (Agd, .inr (1, [.ref Bgd, .int ngd_15])), (Bgd, .inl (cI, 64, .inl lgd_14)), (Ae, .inr (0, [.ref Aeu, .ref Aed])), (Aeu, .inr (1, [.ref Beu, .int neu_17])), (Beu, .inl (cI, 64, .inl leu_16)), (Aed, .inr (1, [.ref Bed, .int ned_19])), (Bed, .inl (cI, 64, .inl led_18)), (Af, .inr (0, [.ref Afu, .ref Afd])), (Afu, .inr (1, [.ref Bfu, .int nfu_21])), (Bfu, .inl (cI, 64, .inl lfu_20)), (Afd, .inr (1, [.ref Bfd, .int nfd_23])), (Bfd, .inl (cI, 64, .inl lfd_22)), (An2, .inr (5, [.ref Bmr, .int mrs_28, .int ma_29, .int mb_30, .int mlo_31, .int mhi_32, .int man_33, .int mtl_34, .int mtm_35, .ref Bfg, .ref Bln, .ref Btp, .ref Bbl, .int thr_40, .ref Btr, .ref Bwh])), (Bmr, .inl (cI, 60, .inl mrow_27)), (Bfg, .inl (cJ, 4608, .inr (.inl fig_36))), (Bln, .inl (cI, 18, .inl len_37)), (Btp, .inl (cJ, 520, .inr (.inl top_38))), (Bbl, .inl (cJ, 520, .inr (.inl bel_39))), (Btr, .inl (cI, 10, .inl trm_41)), (Bwh, .inl (cI, 10, .inl who_42)), (Bn3, .inl (cJ, 1, .inr (.inl (fun _ => 0))))] := hD
  refine lv_astore_n (lv' := [(3, .ref Bn3), (2, .ref An2), (1, .ref An1), (0, .ref bS)]) hx hb dL_law_19 rfl hl (by decide) rfl (fun ls hl => ?_)
  refine lv_iconst (v := 0) hx hb dL_law_20 (by decide) ?_
  refine lv_istore (lv' := [(4, .int 0), (3, .ref Bn3), (2, .ref An2), (1, .ref An1), (0, .ref bS)]) hx hb dL_law_21 hl (by decide) rfl (fun ls hl => ?_)
  obtain ⟨I23_87, μ23_87, hi, hw⟩ := hw
  suffices hLI23_87 : ∀ (N : Nat) (i4_43 : Int32) (row_44 : Nat → Int32) (rc_45 : Int32) (wa_46 : Int32) (wb_47 : Int32) (wlo_48 : Int32) (whi_49 : Int32) (wtot_50 : Int64) (lsm_51 : Nat → Int32) (nsm_52 : Int32) (lst_53 : Nat → Int32) (nst_54 : Int32) (lgu_55 : Nat → Int32) (ngu_56 : Int32) (lgd_57 : Nat → Int32) (ngd_58 : Int32) (leu_59 : Nat → Int32) (neu_60 : Int32) (led_61 : Nat → Int32) (ned_62 : Int32) (lfu_63 : Nat → Int32) (nfu_64 : Int32) (lfd_65 : Nat → Int32) (nfd_66 : Int32) (ans_67 : Int32) (rfc_68 : Int32) (rfb_69 : Int32) (mrow_70 : Nat → Int32) (mrs_71 : Int32) (ma_72 : Int32) (mb_73 : Int32) (mlo_74 : Int32) (mhi_75 : Int32) (man_76 : Int32) (mtl_77 : Int32) (mtm_78 : Int32) (fig_79 : Nat → Int64) (len_80 : Nat → Int32) (top_81 : Nat → Int64) (bel_82 : Nat → Int64) (thr_83 : Int32) (trm_84 : Nat → Int32) (who_85 : Nat → Int32) (out_86 : Nat → Int64) (_ : μ23_87 i4_43 row_44 rc_45 wa_46 wb_47 wlo_48 whi_49 wtot_50 lsm_51 nsm_52 lst_53 nst_54 lgu_55 ngu_56 lgd_57 ngd_58 leu_59 neu_60 led_61 ned_62 lfu_63 nfu_64 lfd_65 nfd_66 ans_67 rfc_68 rfb_69 mrow_70 mrs_71 ma_72 mb_73 mlo_74 mhi_75 man_76 mtl_77 mtm_78 fig_79 len_80 top_81 bel_82 thr_83 trm_84 who_85 out_86 = N) (_ : I23_87 i4_43 row_44 rc_45 wa_46 wb_47 wlo_48 whi_49 wtot_50 lsm_51 nsm_52 lst_53 nst_54 lgu_55 ngu_56 lgd_57 ngd_58 leu_59 neu_60 led_61 ned_62 lfu_63 nfu_64 lfd_65 nfd_66 ans_67 rfc_68 rfb_69 mrow_70 mrs_71 ma_72 mb_73 mlo_74 mhi_75 man_76 mtl_77 mtm_78 fig_79 len_80 top_81 bel_82 thr_83 trm_84 who_85 out_86) (kk : Nat) (hkk : kk ≤ 64) (hik : i4_43 = nI (7 * kk)) (H : Heap) (locs : List Loc) (ls : Array Slot), va_P G vwCl (wLaw cI cJ An1 Bx Aw As Asm Bsm Ast Bst Ag Agu Bgu Agd Bgd Ae Aeu Beu Aed Bed Af Afu Bfu Afd Bfd An2 Bmr Bfg Bln Btp Bbl Btr Bwh Bn3 row_44 rc_45 wa_46 wb_47 wlo_48 whi_49 wtot_50 lsm_51 nsm_52 lst_53 nst_54 lgu_55 ngu_56 lgd_57 ngd_58 leu_59 neu_60 led_61 ned_62 lfu_63 nfu_64 lfd_65 nfd_66 ans_67 rfc_68 rfb_69 mrow_70 mrs_71 ma_72 mb_73 mlo_74 mhi_75 man_76 mtl_77 mtm_78 fig_79 len_80 top_81 bel_82 thr_83 trm_84 who_85 out_86) H → va_D A (wLaw cI cJ An1 Bx Aw As Asm Bsm Ast Bst Ag Agu Bgu Agd Bgd Ae Aeu Beu Aed Bed Af Afu Bfu Afd Bfd An2 Bmr Bfg Bln Btp Bbl Btr Bwh Bn3 row_44 rc_45 wa_46 wb_47 wlo_48 whi_49 wtot_50 lsm_51 nsm_52 lst_53 nst_54 lgu_55 ngu_56 lgd_57 ngd_58 leu_59 neu_60 led_61 ned_62 lfu_63 nfu_64 lfd_65 nfd_66 ans_67 rfc_68 rfb_69 mrow_70 mrs_71 ma_72 mb_73 mlo_74 mhi_75 man_76 mtl_77 mtm_78 fig_79 len_80 top_81 bel_82 thr_83 trm_84 who_85 out_86) → va_S A s.heap H locs → lv_has ls 8 [(4, .int i4_43), (3, .ref Bn3), (2, .ref An2), (1, .ref An1), (0, .ref bS)] → W p l e room_1 s m #[Value.ref bS] below meth c H locs (32 + kk) (6374 + 6 * kk) (lw_Z below #[Value.ref bS] s) (F0 m 23 ls []) from
    hLI23_87 _ (0 : Int32) row_1 rc_2 wa_3 wb_4 wlo_5 whi_6 wtot_7 lsm_8 nsm_9 lst_10 nst_11 lgu_12 ngu_13 lgd_14 ngd_15 leu_16 neu_17 led_18 ned_19 lfu_20 nfu_21 lfd_22 nfd_23 ans_24 rfc_25 rfb_26 mrow_27 mrs_28 ma_29 mb_30 mlo_31 mhi_32 man_33 mtl_34 mtm_35 fig_36 len_37 top_38 bel_39 thr_40 trm_41 who_42 (fun _ => 0) rfl hi 0 (by omega) rfl _ _ _ hP hD hS (lv_sub hl [0, 1, 2, 3, 4] rfl)
  clear hi hP hD hS hl
  intro N
  induction N using Nat.strongRecOn with
  | ind N ihI23_87 =>
    intro i4_43 row_44 rc_45 wa_46 wb_47 wlo_48 whi_49 wtot_50 lsm_51 nsm_52 lst_53 nst_54 lgu_55 ngu_56 lgd_57 ngd_58 leu_59 neu_60 led_61 ned_62 lfu_63 nfu_64 lfd_65 nfd_66 ans_67 rfc_68 rfb_69 mrow_70 mrs_71 ma_72 mb_73 mlo_74 mhi_75 man_76 mtl_77 mtm_78 fig_79 len_80 top_81 bel_82 thr_83 trm_84 who_85 out_86 hNI23_87 hi kk hkk hik H locs ls hP hD hS hl
    have hw := hw i4_43 row_44 rc_45 wa_46 wb_47 wlo_48 whi_49 wtot_50 lsm_51 nsm_52 lst_53 nst_54 lgu_55 ngu_56 lgd_57 ngd_58 leu_59 neu_60 led_61 ned_62 lfu_63 nfu_64 lfd_65 nfd_66 ans_67 rfc_68 rfb_69 mrow_70 mrs_71 ma_72 mb_73 mlo_74 mhi_75 man_76 mtl_77 mtm_78 fig_79 len_80 top_81 bel_82 thr_83 trm_84 who_85 out_86 hi
    refine lv_iload hx hb dL_law_23 (lv_at hl 0 rfl) ?_
    refine lv_aload_n hx hb dL_law_25 rfl (lv_at hl 4 rfl) ?_
    refine va_slen hx hb hX hbl hbA hS dL_law_26 ?_
    refine lv_bipush (v := 7) hx hb dL_law_27 (by decide) ?_
    refine lv_isub hx hb dL_law_29 ?_
    refine lv_topi (fun v_88 ev_88 => ?_)
    have hw := hw v_88 ev_88
    refine lv_icmp_gt (tgt := 1101) hx hb dL_law_30 (by decide) (fun c_337 => ?_) (fun c_337 => ?_)
    · have hw := hw.1 c_337
      refine lv_iconst (v := 1) hx hb dL_law_1101 (by decide) ?_
      refine va_forget (fun q hq => by have h9 := hS.2.2 q hq; rw [hAe] at h9; exact h9) ?_
      refine W.widen (k := 171) (n := 7464) (by omega) (by omega) ?_
      exact lw_ret hx hb hr hlocks dL_law_1102
    · have hw := hw.2 c_337
      have hk63 : kk ≤ 63 := k_lawk hL hkk (by rw [← hik, ← ev_88]; exact c_337)
      refine lv_aload_n hx hb dL_law_33 rfl (lv_at hl 4 rfl) ?_
      refine lv_iload hx hb dL_law_34 (lv_at hl 0 rfl) ?_
      obtain ⟨hin, hw⟩ := hw
      refine va_sld hx hb hX hbl hbA hS hin dL_law_36 ?_
      refine lv_bipush (v := 15) hx hb dL_law_37 (by decide) ?_
      refine lv_iand hx hb dL_law_39 ?_
      refine lv_topi (fun v_89 ev_89 => ?_)
      have hw := hw v_89 ev_89
      by_cases c_90 : v_89 = 0
      · have hw := hw.1 c_90
        refine lv_tableIn (off := 80) (tgt := 120) hx hb dL_law_40 (by rw [c_90]; decide) (by rw [c_90]; decide) (by rw [c_90]; rfl) (by decide) ?_
        refine lv_aload_n hx hb dL_law_120 rfl (lv_at hl 3 rfl) ?_
        refine lv_aload_n hx hb dL_law_121 rfl (lv_at hl 4 rfl) ?_
        refine lv_iload hx hb dL_law_122 (lv_at hl 0 rfl) ?_
        refine lv_iconst (v := 1) hx hb dL_law_124 (by decide) ?_
        refine lv_iadd hx hb dL_law_125 ?_
        obtain ⟨hin, hw⟩ := hw
        refine va_sld hx hb hX hbl hbA hS hin dL_law_126 ?_
        refine k_Vi (M_X4_add l G cI cJ An1 Bx Aw As Asm Bsm Ast Bst Ag Agu Bgu Agd Bgd Ae Aeu Beu Aed Bed Af Afu Bfu Afd Bfd row_44 rc_45 wa_46 wb_47 wlo_48 whi_49 wtot_50 lsm_51 nsm_52 lst_53 nst_54 lgu_55 ngu_56 lgd_57 ngd_58 leu_59 neu_60 led_61 ned_62 lfu_63 nfu_64 lfd_65 nfd_66 ans_67 rfc_68 rfb_69 (xs (i4_43 + 1).toNatClampNeg) _ hw) ⟨hx, hb, hml, hown, hts⟩ (cwV 1 hts gL_law_X4_add rfl rfl rfl (by decide +kernel) ⟨Nat.le_of_ble_eq_true rfl, Nat.le_of_ble_eq_true rfl⟩) hK hP hD hS hA [0, 1, 2, 3, 4, 5, 6, 7, 8, 9, 10, 11, 12, 13, 14, 15, 16, 17, 18, 19, 20, 21, 22] [23, 24, 25, 26, 27, 28, 29, 30, 31] [9, 10, 11, 12, 13, 14, 15, 16, 17, 18, 19, 20, 21, 22, 23, 24, 25, 26, 27, 28, 29, 30, 31, 0, 1, 2, 3, 4, 5, 6, 7, 8] (wr := [(An2, .inr (5, [.ref Bmr, .int mrs_71, .int ma_72, .int mb_73, .int mlo_74, .int mhi_75, .int man_76, .int mtl_77, .int mtm_78, .ref Bfg, .ref Bln, .ref Btp, .ref Bbl, .int thr_83, .ref Btr, .ref Bwh])), (Bmr, .inl (cI, 60, .inl mrow_70)), (Bfg, .inl (cJ, 4608, .inr (.inl fig_79))), (Bln, .inl (cI, 18, .inl len_80)), (Btp, .inl (cJ, 520, .inr (.inl top_81))), (Bbl, .inl (cJ, 520, .inr (.inl bel_82))), (Btr, .inl (cI, 10, .inl trm_84)), (Bwh, .inl (cI, 10, .inl who_85)), (Bn3, .inl (cJ, 1, .inr (.inl out_86)))]) (wn := fun u : (Nat → Int32) × (Int32) => (wLaw cI cJ An1 Bx Aw As Asm Bsm Ast Bst Ag Agu Bgu Agd Bgd Ae Aeu Beu Aed Bed Af Afu Bfu Afd Bfd An2 Bmr Bfg Bln Btp Bbl Btr Bwh Bn3 u.1 u.2 wa_46 wb_47 wlo_48 whi_49 wtot_50 lsm_51 nsm_52 lst_53 nst_54 lgu_55 ngu_56 lgd_57 ngd_58 leu_59 neu_60 led_61 ned_62 lfu_63 nfu_64 lfd_65 nfd_66 ans_67 rfc_68 rfb_69 mrow_70 mrs_71 ma_72 mb_73 mlo_74 mhi_75 man_76 mtl_77 mtm_78 fig_79 len_80 top_81 bel_82 thr_83 trm_84 who_85 out_86)) rfl rfl (by decide) (by decide) (by decide) (by decide) (fun _ => rfl) (rest := []) (q0 := 0) rfl rfl rfl hl.1 rfl (Nat.le_of_ble_eq_true rfl) (by show _ ≤ 171; omega) (by show _ ≤ 7464; omega) dL_law_127 (fun r_91 u H locs hw hP hD hS => ?_)
        obtain ⟨row_92, rc_93⟩ := u
        have hP : va_P G vwCl (wLaw cI cJ An1 Bx Aw As Asm Bsm Ast Bst Ag Agu Bgu Agd Bgd Ae Aeu Beu Aed Bed Af Afu Bfu Afd Bfd An2 Bmr Bfg Bln Btp Bbl Btr Bwh Bn3 row_92 rc_93 wa_46 wb_47 wlo_48 whi_49 wtot_50 lsm_51 nsm_52 lst_53 nst_54 lgu_55 ngu_56 lgd_57 ngd_58 leu_59 neu_60 led_61 ned_62 lfu_63 nfu_64 lfd_65 nfd_66 ans_67 rfc_68 rfb_69 mrow_70 mrs_71 ma_72 mb_73 mlo_74 mhi_75 man_76 mtl_77 mtm_78 fig_79 len_80 top_81 bel_82 thr_83 trm_84 who_85 out_86) H := hP
        have hD : va_D A (wLaw cI cJ An1 Bx Aw As Asm Bsm Ast Bst Ag Agu Bgu Agd Bgd Ae Aeu Beu Aed Bed Af Afu Bfu Afd Bfd An2 Bmr Bfg Bln Btp Bbl Btr Bwh Bn3 row_92 rc_93 wa_46 wb_47 wlo_48 whi_49 wtot_50 lsm_51 nsm_52 lst_53 nst_54 lgu_55 ngu_56 lgd_57 ngd_58 leu_59 neu_60 led_61 ned_62 lfu_63 nfu_64 lfd_65 nfd_66 ans_67 rfc_68 rfb_69 mrow_70 mrs_71 ma_72 mb_73 mlo_74 mhi_75 man_76 mtl_77 mtm_78 fig_79 len_80 top_81 bel_82 thr_83 trm_84 who_85 out_86) := hD
        refine lv_aload_n hx hb dL_law_130 rfl (lv_at hl 2 rfl) ?_
        refine lv_aload_n hx hb dL_law_131 rfl (lv_at hl 4 rfl) ?_
        refine lv_iload hx hb dL_law_132 (lv_at hl 0 rfl) ?_
        refine lv_iconst (v := 1) hx hb dL_law_134 (by decide) ?_
        refine lv_iadd hx hb dL_law_135 ?_
        obtain ⟨hin, hw⟩ := hw
        refine va_sld hx hb hX hbl hbA hS hin dL_law_136 ?_
        refine k_Vi (M_X5_add l G cI cJ An2 Bmr Bfg Bln Btp Bbl Btr Bwh mrow_70 mrs_71 ma_72 mb_73 mlo_74 mhi_75 man_76 mtl_77 mtm_78 fig_79 len_80 top_81 bel_82 thr_83 trm_84 who_85 (xs (i4_43 + 1).toNatClampNeg) _ hw) ⟨hx, hb, hml, hown, hts⟩ (cwV 1 hts gL_law_X5_add rfl rfl rfl (by decide +kernel) ⟨Nat.le_of_ble_eq_true rfl, Nat.le_of_ble_eq_true rfl⟩) hK hP hD hS hA [23, 24, 25, 26, 27, 28, 29, 30] [0, 1, 2, 3, 4, 5, 6, 7, 8, 9, 10, 11, 12, 13, 14, 15, 16, 17, 18, 19, 20, 21, 22, 31] [0, 1, 2, 3, 4, 5, 6, 7, 8, 9, 10, 11, 12, 13, 14, 15, 16, 17, 18, 19, 20, 21, 22, 24, 25, 26, 27, 28, 29, 30, 31, 23] (wr := [(An1, .inr (4, [.ref Bx, .int rc_93, .ref Aw, .ref As, .ref Ag, .ref Ae, .ref Af, .int ans_67, .int rfc_68, .int rfb_69])), (Bx, .inl (cI, 60, .inl row_92)), (Aw, .inr (3, [.int wa_46, .int wb_47, .int wlo_48, .int whi_49, .long wtot_50])), (As, .inr (2, [.ref Asm, .ref Ast])), (Asm, .inr (1, [.ref Bsm, .int nsm_52])), (Bsm, .inl (cI, 64, .inl lsm_51)), (Ast, .inr (1, [.ref Bst, .int nst_54])), (Bst, .inl (cI, 64, .inl lst_53)), (Ag, .inr (0, [.ref Agu, .ref Agd])), (Agu, .inr (1, [.ref Bgu, .int ngu_56])), (Bgu, .inl (cI, 64, .inl lgu_55)), (Agd, .inr (1, [.ref Bgd, .int ngd_58])), (Bgd, .inl (cI, 64, .inl lgd_57)), (Ae, .inr (0, [.ref Aeu, .ref Aed])), (Aeu, .inr (1, [.ref Beu, .int neu_60])), (Beu, .inl (cI, 64, .inl leu_59)), (Aed, .inr (1, [.ref Bed, .int ned_62])), (Bed, .inl (cI, 64, .inl led_61)), (Af, .inr (0, [.ref Afu, .ref Afd])), (Afu, .inr (1, [.ref Bfu, .int nfu_64])), (Bfu, .inl (cI, 64, .inl lfu_63)), (Afd, .inr (1, [.ref Bfd, .int nfd_66])), (Bfd, .inl (cI, 64, .inl lfd_65)), (Bn3, .inl (cJ, 1, .inr (.inl out_86)))]) (wn := fun u : (Nat → Int32) × (Int32) × (Int32) => (wLaw cI cJ An1 Bx Aw As Asm Bsm Ast Bst Ag Agu Bgu Agd Bgd Ae Aeu Beu Aed Bed Af Afu Bfu Afd Bfd An2 Bmr Bfg Bln Btp Bbl Btr Bwh Bn3 row_92 rc_93 wa_46 wb_47 wlo_48 whi_49 wtot_50 lsm_51 nsm_52 lst_53 nst_54 lgu_55 ngu_56 lgd_57 ngd_58 leu_59 neu_60 led_61 ned_62 lfu_63 nfu_64 lfd_65 nfd_66 ans_67 rfc_68 rfb_69 u.1 u.2.1 ma_72 mb_73 mlo_74 mhi_75 man_76 mtl_77 mtm_78 fig_79 len_80 top_81 bel_82 u.2.2 trm_84 who_85 out_86)) rfl rfl (by decide) (by decide) (by decide) (by decide) (fun _ => rfl) (rest := [.int r_91]) (q0 := 0) rfl rfl rfl hl.1 rfl (Nat.le_of_ble_eq_true rfl) (by show _ ≤ 171; omega) (by show _ ≤ 7464; omega) dL_law_137 (fun r_94 u H locs hw hP hD hS => ?_)
        obtain ⟨mrow_95, mrs_96, thr_97⟩ := u
        have hP : va_P G vwCl (wLaw cI cJ An1 Bx Aw As Asm Bsm Ast Bst Ag Agu Bgu Agd Bgd Ae Aeu Beu Aed Bed Af Afu Bfu Afd Bfd An2 Bmr Bfg Bln Btp Bbl Btr Bwh Bn3 row_92 rc_93 wa_46 wb_47 wlo_48 whi_49 wtot_50 lsm_51 nsm_52 lst_53 nst_54 lgu_55 ngu_56 lgd_57 ngd_58 leu_59 neu_60 led_61 ned_62 lfu_63 nfu_64 lfd_65 nfd_66 ans_67 rfc_68 rfb_69 mrow_95 mrs_96 ma_72 mb_73 mlo_74 mhi_75 man_76 mtl_77 mtm_78 fig_79 len_80 top_81 bel_82 thr_97 trm_84 who_85 out_86) H := hP
        have hD : va_D A (wLaw cI cJ An1 Bx Aw As Asm Bsm Ast Bst Ag Agu Bgu Agd Bgd Ae Aeu Beu Aed Bed Af Afu Bfu Afd Bfd An2 Bmr Bfg Bln Btp Bbl Btr Bwh Bn3 row_92 rc_93 wa_46 wb_47 wlo_48 whi_49 wtot_50 lsm_51 nsm_52 lst_53 nst_54 lgu_55 ngu_56 lgd_57 ngd_58 leu_59 neu_60 led_61 ned_62 lfu_63 nfu_64 lfd_65 nfd_66 ans_67 rfc_68 rfb_69 mrow_95 mrs_96 ma_72 mb_73 mlo_74 mhi_75 man_76 mtl_77 mtm_78 fig_79 len_80 top_81 bel_82 thr_97 trm_84 who_85 out_86) := hD
        refine lv_icmp_eq (tgt := 1095) hx hb dL_law_140 (by decide) (fun c_99 => ?_) (fun c_99 => ?_)
        · have hw := hw.1 c_99
          obtain ⟨i4_98, ei4_98⟩ : ∃ y : Int32, y = i4_43 + 7 := ⟨_, rfl⟩
          have hw := hw i4_98 ei4_98
          refine lv_iinc (v := i4_98) (lv' := [(4, .int i4_98), (3, .ref Bn3), (2, .ref An2), (1, .ref An1), (0, .ref bS)]) hx hb dL_law_1095 hl (k := 0) rfl (by rw [ei4_98]; rfl) (by decide) rfl (fun ls hl => ?_)
          refine lv_goto (tgt := 23) hx hb dL_law_1098 (by decide) ?_
          refine W.widen (k := 32 + (kk + 1)) (n := 6374 + 6 * (kk + 1)) (by omega) (by omega) ?_
          exact ihI23_87 _ (by rw [← hNI23_87]; exact hw.2) i4_98 row_92 rc_93 wa_46 wb_47 wlo_48 whi_49 wtot_50 lsm_51 nsm_52 lst_53 nst_54 lgu_55 ngu_56 lgd_57 ngd_58 leu_59 neu_60 led_61 ned_62 lfu_63 nfu_64 lfd_65 nfd_66 ans_67 rfc_68 rfb_69 mrow_95 mrs_96 ma_72 mb_73 mlo_74 mhi_75 man_76 mtl_77 mtm_78 fig_79 len_80 top_81 bel_82 thr_97 trm_84 who_85 out_86 rfl hw.1 (kk + 1) (by omega) (by rw [ei4_98, hik]; exact k_law7 kk) _ _ _ hP hD hS (lv_sub hl [0, 1, 2, 3, 4] rfl)
        · have hw := hw.2 c_99
          refine lv_iconst (v := 0) hx hb dL_law_143 (by decide) ?_
          exact absurd hw (by decide)
      have hw := hw.2 c_90
      by_cases c_100 : v_89 = 1
      · have hw := hw.1 c_100
        refine lv_tableIn (off := 105) (tgt := 145) hx hb dL_law_40 (by rw [c_100]; decide) (by rw [c_100]; decide) (by rw [c_100]; rfl) (by decide) ?_
        refine lv_aload_n hx hb dL_law_145 rfl (lv_at hl 3 rfl) ?_
        refine lv_aload_n hx hb dL_law_146 rfl (lv_at hl 4 rfl) ?_
        refine lv_iload hx hb dL_law_147 (lv_at hl 0 rfl) ?_
        refine lv_iconst (v := 1) hx hb dL_law_149 (by decide) ?_
        refine lv_iadd hx hb dL_law_150 ?_
        obtain ⟨hin, hw⟩ := hw
        refine va_sld hx hb hX hbl hbA hS hin dL_law_151 ?_
        refine lv_aload_n hx hb dL_law_152 rfl (lv_at hl 1 rfl) ?_
        refine k_SW (M_L_remove l hst sa G cI cJ An1 Bx Aw As Asm Bsm Ast Bst Ag Agu Bgu Agd Bgd Ae Aeu Beu Aed Bed Af Afu Bfu Afd Bfd Bn3 row_44 rc_45 wa_46 wb_47 wlo_48 whi_49 wtot_50 lsm_51 nsm_52 lst_53 nst_54 lgu_55 ngu_56 lgd_57 ngd_58 leu_59 neu_60 led_61 ned_62 lfu_63 nfu_64 lfd_65 nfd_66 ans_67 rfc_68 rfb_69 out_86 (xs (i4_43 + 1).toNatClampNeg) _ hw) ⟨hx, hb, hml, hown, hts⟩ (vx_cwSW 3 hts gL_law_L_remove rfl rfl rfl (by decide +kernel) ⟨(Nat.le_of_ble_eq_true rfl), (Nat.le_of_ble_eq_true rfl)⟩) hK hP hD hS hA hE [0, 1, 2, 3, 4, 5, 6, 7, 8, 9, 10, 11, 12, 13, 14, 15, 16, 17, 18, 19, 20, 21, 22, 31] [23, 24, 25, 26, 27, 28, 29, 30] [8, 9, 10, 11, 12, 13, 14, 15, 16, 17, 18, 19, 20, 21, 22, 23, 24, 25, 26, 27, 28, 29, 30, 0, 1, 2, 3, 4, 5, 6, 7, 31] (wr := [(An2, .inr (5, [.ref Bmr, .int mrs_71, .int ma_72, .int mb_73, .int mlo_74, .int mhi_75, .int man_76, .int mtl_77, .int mtm_78, .ref Bfg, .ref Bln, .ref Btp, .ref Bbl, .int thr_83, .ref Btr, .ref Bwh])), (Bmr, .inl (cI, 60, .inl mrow_70)), (Bfg, .inl (cJ, 4608, .inr (.inl fig_79))), (Bln, .inl (cI, 18, .inl len_80)), (Btp, .inl (cJ, 520, .inr (.inl top_81))), (Bbl, .inl (cJ, 520, .inr (.inl bel_82))), (Btr, .inl (cI, 10, .inl trm_84)), (Bwh, .inl (cI, 10, .inl who_85))]) (wn := fun u : (Nat → Int32) × (Int32) × (Nat → Int64) => (wLaw cI cJ An1 Bx Aw As Asm Bsm Ast Bst Ag Agu Bgu Agd Bgd Ae Aeu Beu Aed Bed Af Afu Bfu Afd Bfd An2 Bmr Bfg Bln Btp Bbl Btr Bwh Bn3 u.1 u.2.1 wa_46 wb_47 wlo_48 whi_49 wtot_50 lsm_51 nsm_52 lst_53 nst_54 lgu_55 ngu_56 lgd_57 ngd_58 leu_59 neu_60 led_61 ned_62 lfu_63 nfu_64 lfd_65 nfd_66 ans_67 rfc_68 rfb_69 mrow_70 mrs_71 ma_72 mb_73 mlo_74 mhi_75 man_76 mtl_77 mtm_78 fig_79 len_80 top_81 bel_82 thr_83 trm_84 who_85 u.2.2)) rfl rfl (by decide) (by decide) (by decide) (by decide) (fun _ => rfl) (rest := []) rfl hl.1 rfl (Nat.le_of_ble_eq_true rfl) (by show _ ≤ 171; omega) (by show _ ≤ 7464; omega) dL_law_153 (fun r_101 u H locs hw hP hD hS => ?_)
        obtain ⟨row_102, rc_103, out_104⟩ := u
        have hP : va_P G vwCl (wLaw cI cJ An1 Bx Aw As Asm Bsm Ast Bst Ag Agu Bgu Agd Bgd Ae Aeu Beu Aed Bed Af Afu Bfu Afd Bfd An2 Bmr Bfg Bln Btp Bbl Btr Bwh Bn3 row_102 rc_103 wa_46 wb_47 wlo_48 whi_49 wtot_50 lsm_51 nsm_52 lst_53 nst_54 lgu_55 ngu_56 lgd_57 ngd_58 leu_59 neu_60 led_61 ned_62 lfu_63 nfu_64 lfd_65 nfd_66 ans_67 rfc_68 rfb_69 mrow_70 mrs_71 ma_72 mb_73 mlo_74 mhi_75 man_76 mtl_77 mtm_78 fig_79 len_80 top_81 bel_82 thr_83 trm_84 who_85 out_104) H := hP
        have hD : va_D A (wLaw cI cJ An1 Bx Aw As Asm Bsm Ast Bst Ag Agu Bgu Agd Bgd Ae Aeu Beu Aed Bed Af Afu Bfu Afd Bfd An2 Bmr Bfg Bln Btp Bbl Btr Bwh Bn3 row_102 rc_103 wa_46 wb_47 wlo_48 whi_49 wtot_50 lsm_51 nsm_52 lst_53 nst_54 lgu_55 ngu_56 lgd_57 ngd_58 leu_59 neu_60 led_61 ned_62 lfu_63 nfu_64 lfd_65 nfd_66 ans_67 rfc_68 rfb_69 mrow_70 mrs_71 ma_72 mb_73 mlo_74 mhi_75 man_76 mtl_77 mtm_78 fig_79 len_80 top_81 bel_82 thr_83 trm_84 who_85 out_104) := hD
        refine lv_istore (lv' := [(5, .int r_101), (4, .int i4_43), (3, .ref Bn3), (2, .ref An2), (1, .ref An1), (0, .ref bS)]) hx hb dL_law_156 hl (by decide) rfl (fun ls hl => ?_)
        refine lv_aload_n hx hb dL_law_158 rfl (lv_at hl 3 rfl) ?_
        refine lv_aload_n hx hb dL_law_159 rfl (lv_at hl 5 rfl) ?_
        refine lv_iload hx hb dL_law_160 (lv_at hl 1 rfl) ?_
        refine lv_iconst (v := 1) hx hb dL_law_162 (by decide) ?_
        refine lv_iadd hx hb dL_law_163 ?_
        obtain ⟨hin, hw⟩ := hw
        refine va_sld hx hb hX hbl hbA hS hin dL_law_164 ?_
        refine k_Vi (M_X5_remove l G cI cJ An2 Bmr Bfg Bln Btp Bbl Btr Bwh mrow_70 mrs_71 ma_72 mb_73 mlo_74 mhi_75 man_76 mtl_77 mtm_78 fig_79 len_80 top_81 bel_82 thr_83 trm_84 who_85 (xs (i4_43 + 1).toNatClampNeg) _ hw) ⟨hx, hb, hml, hown, hts⟩ (cwV 1 hts gL_law_X5_remove rfl rfl rfl (by decide +kernel) ⟨Nat.le_of_ble_eq_true rfl, Nat.le_of_ble_eq_true rfl⟩) hK hP hD hS hA [23, 24, 25, 26, 27, 28, 29, 30] [0, 1, 2, 3, 4, 5, 6, 7, 8, 9, 10, 11, 12, 13, 14, 15, 16, 17, 18, 19, 20, 21, 22, 31] [0, 1, 2, 3, 4, 5, 6, 7, 8, 9, 10, 11, 12, 13, 14, 15, 16, 17, 18, 19, 20, 21, 22, 24, 25, 26, 27, 28, 29, 30, 31, 23] (wr := [(An1, .inr (4, [.ref Bx, .int rc_103, .ref Aw, .ref As, .ref Ag, .ref Ae, .ref Af, .int ans_67, .int rfc_68, .int rfb_69])), (Bx, .inl (cI, 60, .inl row_102)), (Aw, .inr (3, [.int wa_46, .int wb_47, .int wlo_48, .int whi_49, .long wtot_50])), (As, .inr (2, [.ref Asm, .ref Ast])), (Asm, .inr (1, [.ref Bsm, .int nsm_52])), (Bsm, .inl (cI, 64, .inl lsm_51)), (Ast, .inr (1, [.ref Bst, .int nst_54])), (Bst, .inl (cI, 64, .inl lst_53)), (Ag, .inr (0, [.ref Agu, .ref Agd])), (Agu, .inr (1, [.ref Bgu, .int ngu_56])), (Bgu, .inl (cI, 64, .inl lgu_55)), (Agd, .inr (1, [.ref Bgd, .int ngd_58])), (Bgd, .inl (cI, 64, .inl lgd_57)), (Ae, .inr (0, [.ref Aeu, .ref Aed])), (Aeu, .inr (1, [.ref Beu, .int neu_60])), (Beu, .inl (cI, 64, .inl leu_59)), (Aed, .inr (1, [.ref Bed, .int ned_62])), (Bed, .inl (cI, 64, .inl led_61)), (Af, .inr (0, [.ref Afu, .ref Afd])), (Afu, .inr (1, [.ref Bfu, .int nfu_64])), (Bfu, .inl (cI, 64, .inl lfu_63)), (Afd, .inr (1, [.ref Bfd, .int nfd_66])), (Bfd, .inl (cI, 64, .inl lfd_65)), (Bn3, .inl (cJ, 1, .inr (.inl out_104)))]) (wn := fun u : (Nat → Int32) × (Int32) × (Int32) => (wLaw cI cJ An1 Bx Aw As Asm Bsm Ast Bst Ag Agu Bgu Agd Bgd Ae Aeu Beu Aed Bed Af Afu Bfu Afd Bfd An2 Bmr Bfg Bln Btp Bbl Btr Bwh Bn3 row_102 rc_103 wa_46 wb_47 wlo_48 whi_49 wtot_50 lsm_51 nsm_52 lst_53 nst_54 lgu_55 ngu_56 lgd_57 ngd_58 leu_59 neu_60 led_61 ned_62 lfu_63 nfu_64 lfd_65 nfd_66 ans_67 rfc_68 rfb_69 u.1 u.2.1 ma_72 mb_73 mlo_74 mhi_75 man_76 mtl_77 mtm_78 fig_79 len_80 top_81 bel_82 u.2.2 trm_84 who_85 out_104)) rfl rfl (by decide) (by decide) (by decide) (by decide) (fun _ => rfl) (rest := []) (q0 := 0) rfl rfl rfl hl.1 rfl (Nat.le_of_ble_eq_true rfl) (by show _ ≤ 171; omega) (by show _ ≤ 7464; omega) dL_law_165 (fun r_105 u H locs hw hP hD hS => ?_)
        obtain ⟨mrow_106, mrs_107, thr_108⟩ := u
        have hP : va_P G vwCl (wLaw cI cJ An1 Bx Aw As Asm Bsm Ast Bst Ag Agu Bgu Agd Bgd Ae Aeu Beu Aed Bed Af Afu Bfu Afd Bfd An2 Bmr Bfg Bln Btp Bbl Btr Bwh Bn3 row_102 rc_103 wa_46 wb_47 wlo_48 whi_49 wtot_50 lsm_51 nsm_52 lst_53 nst_54 lgu_55 ngu_56 lgd_57 ngd_58 leu_59 neu_60 led_61 ned_62 lfu_63 nfu_64 lfd_65 nfd_66 ans_67 rfc_68 rfb_69 mrow_106 mrs_107 ma_72 mb_73 mlo_74 mhi_75 man_76 mtl_77 mtm_78 fig_79 len_80 top_81 bel_82 thr_108 trm_84 who_85 out_104) H := hP
        have hD : va_D A (wLaw cI cJ An1 Bx Aw As Asm Bsm Ast Bst Ag Agu Bgu Agd Bgd Ae Aeu Beu Aed Bed Af Afu Bfu Afd Bfd An2 Bmr Bfg Bln Btp Bbl Btr Bwh Bn3 row_102 rc_103 wa_46 wb_47 wlo_48 whi_49 wtot_50 lsm_51 nsm_52 lst_53 nst_54 lgu_55 ngu_56 lgd_57 ngd_58 leu_59 neu_60 led_61 ned_62 lfu_63 nfu_64 lfd_65 nfd_66 ans_67 rfc_68 rfb_69 mrow_106 mrs_107 ma_72 mb_73 mlo_74 mhi_75 man_76 mtl_77 mtm_78 fig_79 len_80 top_81 bel_82 thr_108 trm_84 who_85 out_104) := hD
        refine lv_istore (lv' := [(6, .int r_105), (5, .int r_101), (4, .int i4_43), (3, .ref Bn3), (2, .ref An2), (1, .ref An1), (0, .ref bS)]) hx hb dL_law_168 hl (by decide) rfl (fun ls hl => ?_)
        refine lv_aload_n hx hb dL_law_170 rfl (lv_at hl 4 rfl) ?_
        refine k_Vi (M_X5_thrown l G cI cJ An2 Bmr Bfg Bln Btp Bbl Btr Bwh mrow_106 mrs_107 ma_72 mb_73 mlo_74 mhi_75 man_76 mtl_77 mtm_78 fig_79 len_80 top_81 bel_82 thr_108 trm_84 who_85 _ hw) ⟨hx, hb, hml, hown, hts⟩ (cwV 0 hts gL_law_X5_thrown rfl rfl rfl (by decide +kernel) ⟨Nat.le_of_ble_eq_true rfl, Nat.le_of_ble_eq_true rfl⟩) hK hP hD hS hA [23, 24, 25, 26, 27, 28, 29, 30] [0, 1, 2, 3, 4, 5, 6, 7, 8, 9, 10, 11, 12, 13, 14, 15, 16, 17, 18, 19, 20, 21, 22, 31] [0, 1, 2, 3, 4, 5, 6, 7, 8, 9, 10, 11, 12, 13, 14, 15, 16, 17, 18, 19, 20, 21, 22, 24, 25, 26, 27, 28, 29, 30, 31, 23] (wr := [(An1, .inr (4, [.ref Bx, .int rc_103, .ref Aw, .ref As, .ref Ag, .ref Ae, .ref Af, .int ans_67, .int rfc_68, .int rfb_69])), (Bx, .inl (cI, 60, .inl row_102)), (Aw, .inr (3, [.int wa_46, .int wb_47, .int wlo_48, .int whi_49, .long wtot_50])), (As, .inr (2, [.ref Asm, .ref Ast])), (Asm, .inr (1, [.ref Bsm, .int nsm_52])), (Bsm, .inl (cI, 64, .inl lsm_51)), (Ast, .inr (1, [.ref Bst, .int nst_54])), (Bst, .inl (cI, 64, .inl lst_53)), (Ag, .inr (0, [.ref Agu, .ref Agd])), (Agu, .inr (1, [.ref Bgu, .int ngu_56])), (Bgu, .inl (cI, 64, .inl lgu_55)), (Agd, .inr (1, [.ref Bgd, .int ngd_58])), (Bgd, .inl (cI, 64, .inl lgd_57)), (Ae, .inr (0, [.ref Aeu, .ref Aed])), (Aeu, .inr (1, [.ref Beu, .int neu_60])), (Beu, .inl (cI, 64, .inl leu_59)), (Aed, .inr (1, [.ref Bed, .int ned_62])), (Bed, .inl (cI, 64, .inl led_61)), (Af, .inr (0, [.ref Afu, .ref Afd])), (Afu, .inr (1, [.ref Bfu, .int nfu_64])), (Bfu, .inl (cI, 64, .inl lfu_63)), (Afd, .inr (1, [.ref Bfd, .int nfd_66])), (Bfd, .inl (cI, 64, .inl lfd_65)), (Bn3, .inl (cJ, 1, .inr (.inl out_104)))]) (wn := fun u : Unit => (wLaw cI cJ An1 Bx Aw As Asm Bsm Ast Bst Ag Agu Bgu Agd Bgd Ae Aeu Beu Aed Bed Af Afu Bfu Afd Bfd An2 Bmr Bfg Bln Btp Bbl Btr Bwh Bn3 row_102 rc_103 wa_46 wb_47 wlo_48 whi_49 wtot_50 lsm_51 nsm_52 lst_53 nst_54 lgu_55 ngu_56 lgd_57 ngd_58 leu_59 neu_60 led_61 ned_62 lfu_63 nfu_64 lfd_65 nfd_66 ans_67 rfc_68 rfb_69 mrow_106 mrs_107 ma_72 mb_73 mlo_74 mhi_75 man_76 mtl_77 mtm_78 fig_79 len_80 top_81 bel_82 thr_108 trm_84 who_85 out_104)) rfl rfl (by decide) (by decide) (by decide) (by decide) (fun _ => rfl) (rest := []) (q0 := 0) rfl rfl rfl hl.1 rfl (Nat.le_of_ble_eq_true rfl) (by show _ ≤ 171; omega) (by show _ ≤ 7464; omega) dL_law_171 (fun r_109 u H locs hw hP hD hS => ?_)
        refine lv_iload hx hb dL_law_174 (lv_at hl 1 rfl) ?_
        refine lv_icmp_eq (tgt := 181) hx hb dL_law_176 (by decide) (fun c_114 => ?_) (fun c_114 => ?_)
        · have hw := hw.1 c_114
          refine lv_iload hx hb dL_law_181 (lv_at hl 1 rfl) ?_
          refine lv_if_ne (tgt := 198) hx hb dL_law_183 (by decide) (fun c_113 => ?_) (fun c_113 => ?_)
          · have hw := hw.1 c_113
            refine lv_goto (tgt := 1095) hx hb dL_law_198 (by decide) ?_
            obtain ⟨i4_110, ei4_110⟩ : ∃ y : Int32, y = i4_43 + 7 := ⟨_, rfl⟩
            have hw := hw i4_110 ei4_110
            refine lv_iinc (v := i4_110) (lv' := [(4, .int i4_110), (6, .int r_105), (5, .int r_101), (3, .ref Bn3), (2, .ref An2), (1, .ref An1), (0, .ref bS)]) hx hb dL_law_1095 hl (k := 2) rfl (by rw [ei4_110]; rfl) (by decide) rfl (fun ls hl => ?_)
            refine lv_goto (tgt := 23) hx hb dL_law_1098 (by decide) ?_
            refine W.widen (k := 32 + (kk + 1)) (n := 6374 + 6 * (kk + 1)) (by omega) (by omega) ?_
            exact ihI23_87 _ (by rw [← hNI23_87]; exact hw.2) i4_110 row_102 rc_103 wa_46 wb_47 wlo_48 whi_49 wtot_50 lsm_51 nsm_52 lst_53 nst_54 lgu_55 ngu_56 lgd_57 ngd_58 leu_59 neu_60 led_61 ned_62 lfu_63 nfu_64 lfd_65 nfd_66 ans_67 rfc_68 rfb_69 mrow_106 mrs_107 ma_72 mb_73 mlo_74 mhi_75 man_76 mtl_77 mtm_78 fig_79 len_80 top_81 bel_82 thr_108 trm_84 who_85 out_104 rfl hw.1 (kk + 1) (by omega) (by rw [ei4_110, hik]; exact k_law7 kk) _ _ _ hP hD hS (lv_sub hl [0, 3, 4, 5, 6] rfl)
          · have hw := hw.2 c_113
            refine lv_aload_n hx hb dL_law_186 rfl (lv_at hl 3 rfl) ?_
            refine lv_iconst (v := 0) hx hb dL_law_187 (by decide) ?_
            obtain ⟨hin, hw⟩ := hw
            refine k_lald hx hb hK hP 31 rfl hin dL_law_188 ?_
            refine lv_iload hx hb dL_law_189 (lv_at hl 0 rfl) ?_
            refine lv_i2l (v := r_105.toInt64) hx hb dL_law_191 rfl ?_
            refine k_lif_eq (tgt := 198) hx hb dL_law_192 dL_law_193 (by decide) (fun c_112 => ?_) (fun c_112 => ?_)
            · have hw := hw.1 c_112
              refine lv_goto (tgt := 1095) hx hb dL_law_198 (by decide) ?_
              obtain ⟨i4_111, ei4_111⟩ : ∃ y : Int32, y = i4_43 + 7 := ⟨_, rfl⟩
              have hw := hw i4_111 ei4_111
              refine lv_iinc (v := i4_111) (lv' := [(4, .int i4_111), (6, .int r_105), (5, .int r_101), (3, .ref Bn3), (2, .ref An2), (1, .ref An1), (0, .ref bS)]) hx hb dL_law_1095 hl (k := 2) rfl (by rw [ei4_111]; rfl) (by decide) rfl (fun ls hl => ?_)
              refine lv_goto (tgt := 23) hx hb dL_law_1098 (by decide) ?_
              refine W.widen (k := 32 + (kk + 1)) (n := 6374 + 6 * (kk + 1)) (by omega) (by omega) ?_
              exact ihI23_87 _ (by rw [← hNI23_87]; exact hw.2) i4_111 row_102 rc_103 wa_46 wb_47 wlo_48 whi_49 wtot_50 lsm_51 nsm_52 lst_53 nst_54 lgu_55 ngu_56 lgd_57 ngd_58 leu_59 neu_60 led_61 ned_62 lfu_63 nfu_64 lfd_65 nfd_66 ans_67 rfc_68 rfb_69 mrow_106 mrs_107 ma_72 mb_73 mlo_74 mhi_75 man_76 mtl_77 mtm_78 fig_79 len_80 top_81 bel_82 thr_108 trm_84 who_85 out_104 rfl hw.1 (kk + 1) (by omega) (by rw [ei4_111, hik]; exact k_law7 kk) _ _ _ hP hD hS (lv_sub hl [0, 3, 4, 5, 6] rfl)
            · have hw := hw.2 c_112
              refine lv_iconst (v := 0) hx hb dL_law_196 (by decide) ?_
              exact absurd hw (by decide)
        · have hw := hw.2 c_114
          refine lv_iconst (v := 0) hx hb dL_law_179 (by decide) ?_
          exact absurd hw (by decide)
      have hw := hw.2 c_100
      by_cases c_115 : v_89 = 2
      · have hw := hw.1 c_115
        refine lv_tableIn (off := 161) (tgt := 201) hx hb dL_law_40 (by rw [c_115]; decide) (by rw [c_115]; decide) (by rw [c_115]; rfl) (by decide) ?_
        refine lv_aload_n hx hb dL_law_201 rfl (lv_at hl 3 rfl) ?_
        refine lv_aload_n hx hb dL_law_202 rfl (lv_at hl 4 rfl) ?_
        refine lv_iload hx hb dL_law_203 (lv_at hl 0 rfl) ?_
        refine lv_iconst (v := 1) hx hb dL_law_205 (by decide) ?_
        refine lv_iadd hx hb dL_law_206 ?_
        obtain ⟨hin, hw⟩ := hw
        refine va_sld hx hb hX hbl hbA hS hin dL_law_207 ?_
        refine lv_aload_n hx hb dL_law_208 rfl (lv_at hl 4 rfl) ?_
        refine lv_iload hx hb dL_law_209 (lv_at hl 0 rfl) ?_
        refine lv_iconst (v := 2) hx hb dL_law_211 (by decide) ?_
        refine lv_iadd hx hb dL_law_212 ?_
        obtain ⟨hin, hw⟩ := hw
        refine va_sld hx hb hX hbl hbA hS hin dL_law_213 ?_
        refine k_Vi (M_X4_count l G cI cJ An1 Bx Aw As Asm Bsm Ast Bst Ag Agu Bgu Agd Bgd Ae Aeu Beu Aed Bed Af Afu Bfu Afd Bfd row_44 rc_45 wa_46 wb_47 wlo_48 whi_49 wtot_50 lsm_51 nsm_52 lst_53 nst_54 lgu_55 ngu_56 lgd_57 ngd_58 leu_59 neu_60 led_61 ned_62 lfu_63 nfu_64 lfd_65 nfd_66 ans_67 rfc_68 rfb_69 (xs (i4_43 + 1).toNatClampNeg) (xs (i4_43 + 2).toNatClampNeg) _ hw) ⟨hx, hb, hml, hown, hts⟩ (cwV 2 hts gL_law_X4_count rfl rfl rfl (by decide +kernel) ⟨Nat.le_of_ble_eq_true rfl, Nat.le_of_ble_eq_true rfl⟩) hK hP hD hS hA [0, 1, 2, 3, 4, 5, 6, 7, 8, 9, 10, 11, 12, 13, 14, 15, 16, 17, 18, 19, 20, 21, 22] [23, 24, 25, 26, 27, 28, 29, 30, 31] [9, 10, 11, 12, 13, 14, 15, 16, 17, 18, 19, 20, 21, 22, 23, 24, 25, 26, 27, 28, 29, 30, 31, 0, 1, 2, 3, 4, 5, 6, 7, 8] (wr := [(An2, .inr (5, [.ref Bmr, .int mrs_71, .int ma_72, .int mb_73, .int mlo_74, .int mhi_75, .int man_76, .int mtl_77, .int mtm_78, .ref Bfg, .ref Bln, .ref Btp, .ref Bbl, .int thr_83, .ref Btr, .ref Bwh])), (Bmr, .inl (cI, 60, .inl mrow_70)), (Bfg, .inl (cJ, 4608, .inr (.inl fig_79))), (Bln, .inl (cI, 18, .inl len_80)), (Btp, .inl (cJ, 520, .inr (.inl top_81))), (Bbl, .inl (cJ, 520, .inr (.inl bel_82))), (Btr, .inl (cI, 10, .inl trm_84)), (Bwh, .inl (cI, 10, .inl who_85)), (Bn3, .inl (cJ, 1, .inr (.inl out_86)))]) (wn := fun u : Unit => (wLaw cI cJ An1 Bx Aw As Asm Bsm Ast Bst Ag Agu Bgu Agd Bgd Ae Aeu Beu Aed Bed Af Afu Bfu Afd Bfd An2 Bmr Bfg Bln Btp Bbl Btr Bwh Bn3 row_44 rc_45 wa_46 wb_47 wlo_48 whi_49 wtot_50 lsm_51 nsm_52 lst_53 nst_54 lgu_55 ngu_56 lgd_57 ngd_58 leu_59 neu_60 led_61 ned_62 lfu_63 nfu_64 lfd_65 nfd_66 ans_67 rfc_68 rfb_69 mrow_70 mrs_71 ma_72 mb_73 mlo_74 mhi_75 man_76 mtl_77 mtm_78 fig_79 len_80 top_81 bel_82 thr_83 trm_84 who_85 out_86)) rfl rfl (by decide) (by decide) (by decide) (by decide) (fun _ => rfl) (rest := []) (q0 := 0) rfl rfl rfl hl.1 rfl (Nat.le_of_ble_eq_true rfl) (by show _ ≤ 171; omega) (by show _ ≤ 7464; omega) dL_law_214 (fun r_116 u H locs hw hP hD hS => ?_)
        refine lv_aload_n hx hb dL_law_217 rfl (lv_at hl 2 rfl) ?_
        refine lv_aload_n hx hb dL_law_218 rfl (lv_at hl 4 rfl) ?_
        refine lv_iload hx hb dL_law_219 (lv_at hl 0 rfl) ?_
        refine lv_iconst (v := 1) hx hb dL_law_221 (by decide) ?_
        refine lv_iadd hx hb dL_law_222 ?_
        obtain ⟨hin, hw⟩ := hw
        refine va_sld hx hb hX hbl hbA hS hin dL_law_223 ?_
        refine lv_aload_n hx hb dL_law_224 rfl (lv_at hl 4 rfl) ?_
        refine lv_iload hx hb dL_law_225 (lv_at hl 0 rfl) ?_
        refine lv_iconst (v := 2) hx hb dL_law_227 (by decide) ?_
        refine lv_iadd hx hb dL_law_228 ?_
        obtain ⟨hin, hw⟩ := hw
        refine va_sld hx hb hX hbl hbA hS hin dL_law_229 ?_
        refine k_Vi (M_X5_count l G cI cJ An2 Bmr Bfg Bln Btp Bbl Btr Bwh mrow_70 mrs_71 ma_72 mb_73 mlo_74 mhi_75 man_76 mtl_77 mtm_78 fig_79 len_80 top_81 bel_82 thr_83 trm_84 who_85 (xs (i4_43 + 1).toNatClampNeg) (xs (i4_43 + 2).toNatClampNeg) _ hw) ⟨hx, hb, hml, hown, hts⟩ (cwV 2 hts gL_law_X5_count rfl rfl rfl (by decide +kernel) ⟨Nat.le_of_ble_eq_true rfl, Nat.le_of_ble_eq_true rfl⟩) hK hP hD hS hA [23, 24, 25, 26, 27, 28, 29, 30] [0, 1, 2, 3, 4, 5, 6, 7, 8, 9, 10, 11, 12, 13, 14, 15, 16, 17, 18, 19, 20, 21, 22, 31] [0, 1, 2, 3, 4, 5, 6, 7, 8, 9, 10, 11, 12, 13, 14, 15, 16, 17, 18, 19, 20, 21, 22, 24, 25, 26, 27, 28, 29, 30, 31, 23] (wr := [(An1, .inr (4, [.ref Bx, .int rc_45, .ref Aw, .ref As, .ref Ag, .ref Ae, .ref Af, .int ans_67, .int rfc_68, .int rfb_69])), (Bx, .inl (cI, 60, .inl row_44)), (Aw, .inr (3, [.int wa_46, .int wb_47, .int wlo_48, .int whi_49, .long wtot_50])), (As, .inr (2, [.ref Asm, .ref Ast])), (Asm, .inr (1, [.ref Bsm, .int nsm_52])), (Bsm, .inl (cI, 64, .inl lsm_51)), (Ast, .inr (1, [.ref Bst, .int nst_54])), (Bst, .inl (cI, 64, .inl lst_53)), (Ag, .inr (0, [.ref Agu, .ref Agd])), (Agu, .inr (1, [.ref Bgu, .int ngu_56])), (Bgu, .inl (cI, 64, .inl lgu_55)), (Agd, .inr (1, [.ref Bgd, .int ngd_58])), (Bgd, .inl (cI, 64, .inl lgd_57)), (Ae, .inr (0, [.ref Aeu, .ref Aed])), (Aeu, .inr (1, [.ref Beu, .int neu_60])), (Beu, .inl (cI, 64, .inl leu_59)), (Aed, .inr (1, [.ref Bed, .int ned_62])), (Bed, .inl (cI, 64, .inl led_61)), (Af, .inr (0, [.ref Afu, .ref Afd])), (Afu, .inr (1, [.ref Bfu, .int nfu_64])), (Bfu, .inl (cI, 64, .inl lfu_63)), (Afd, .inr (1, [.ref Bfd, .int nfd_66])), (Bfd, .inl (cI, 64, .inl lfd_65)), (Bn3, .inl (cJ, 1, .inr (.inl out_86)))]) (wn := fun u : (Int32) => (wLaw cI cJ An1 Bx Aw As Asm Bsm Ast Bst Ag Agu Bgu Agd Bgd Ae Aeu Beu Aed Bed Af Afu Bfu Afd Bfd An2 Bmr Bfg Bln Btp Bbl Btr Bwh Bn3 row_44 rc_45 wa_46 wb_47 wlo_48 whi_49 wtot_50 lsm_51 nsm_52 lst_53 nst_54 lgu_55 ngu_56 lgd_57 ngd_58 leu_59 neu_60 led_61 ned_62 lfu_63 nfu_64 lfd_65 nfd_66 ans_67 rfc_68 rfb_69 mrow_70 mrs_71 ma_72 mb_73 mlo_74 mhi_75 man_76 mtl_77 mtm_78 fig_79 len_80 top_81 bel_82 u trm_84 who_85 out_86)) rfl rfl (by decide) (by decide) (by decide) (by decide) (fun _ => rfl) (rest := [.int r_116]) (q0 := 0) rfl rfl rfl hl.1 rfl (Nat.le_of_ble_eq_true rfl) (by show _ ≤ 171; omega) (by show _ ≤ 7464; omega) dL_law_230 (fun r_117 u H locs hw hP hD hS => ?_)
        obtain ⟨thr_118, rfl⟩ : ∃ z, z = u := ⟨_, rfl⟩
        have hP : va_P G vwCl (wLaw cI cJ An1 Bx Aw As Asm Bsm Ast Bst Ag Agu Bgu Agd Bgd Ae Aeu Beu Aed Bed Af Afu Bfu Afd Bfd An2 Bmr Bfg Bln Btp Bbl Btr Bwh Bn3 row_44 rc_45 wa_46 wb_47 wlo_48 whi_49 wtot_50 lsm_51 nsm_52 lst_53 nst_54 lgu_55 ngu_56 lgd_57 ngd_58 leu_59 neu_60 led_61 ned_62 lfu_63 nfu_64 lfd_65 nfd_66 ans_67 rfc_68 rfb_69 mrow_70 mrs_71 ma_72 mb_73 mlo_74 mhi_75 man_76 mtl_77 mtm_78 fig_79 len_80 top_81 bel_82 thr_118 trm_84 who_85 out_86) H := hP
        have hD : va_D A (wLaw cI cJ An1 Bx Aw As Asm Bsm Ast Bst Ag Agu Bgu Agd Bgd Ae Aeu Beu Aed Bed Af Afu Bfu Afd Bfd An2 Bmr Bfg Bln Btp Bbl Btr Bwh Bn3 row_44 rc_45 wa_46 wb_47 wlo_48 whi_49 wtot_50 lsm_51 nsm_52 lst_53 nst_54 lgu_55 ngu_56 lgd_57 ngd_58 leu_59 neu_60 led_61 ned_62 lfu_63 nfu_64 lfd_65 nfd_66 ans_67 rfc_68 rfb_69 mrow_70 mrs_71 ma_72 mb_73 mlo_74 mhi_75 man_76 mtl_77 mtm_78 fig_79 len_80 top_81 bel_82 thr_118 trm_84 who_85 out_86) := hD
        refine lv_icmp_eq (tgt := 1095) hx hb dL_law_233 (by decide) (fun c_120 => ?_) (fun c_120 => ?_)
        · have hw := hw.1 c_120
          obtain ⟨i4_119, ei4_119⟩ : ∃ y : Int32, y = i4_43 + 7 := ⟨_, rfl⟩
          have hw := hw i4_119 ei4_119
          refine lv_iinc (v := i4_119) (lv' := [(4, .int i4_119), (3, .ref Bn3), (2, .ref An2), (1, .ref An1), (0, .ref bS)]) hx hb dL_law_1095 hl (k := 0) rfl (by rw [ei4_119]; rfl) (by decide) rfl (fun ls hl => ?_)
          refine lv_goto (tgt := 23) hx hb dL_law_1098 (by decide) ?_
          refine W.widen (k := 32 + (kk + 1)) (n := 6374 + 6 * (kk + 1)) (by omega) (by omega) ?_
          exact ihI23_87 _ (by rw [← hNI23_87]; exact hw.2) i4_119 row_44 rc_45 wa_46 wb_47 wlo_48 whi_49 wtot_50 lsm_51 nsm_52 lst_53 nst_54 lgu_55 ngu_56 lgd_57 ngd_58 leu_59 neu_60 led_61 ned_62 lfu_63 nfu_64 lfd_65 nfd_66 ans_67 rfc_68 rfb_69 mrow_70 mrs_71 ma_72 mb_73 mlo_74 mhi_75 man_76 mtl_77 mtm_78 fig_79 len_80 top_81 bel_82 thr_118 trm_84 who_85 out_86 rfl hw.1 (kk + 1) (by omega) (by rw [ei4_119, hik]; exact k_law7 kk) _ _ _ hP hD hS (lv_sub hl [0, 1, 2, 3, 4] rfl)
        · have hw := hw.2 c_120
          refine lv_iconst (v := 0) hx hb dL_law_236 (by decide) ?_
          exact absurd hw (by decide)
      have hw := hw.2 c_115
      by_cases c_121 : v_89 = 3
      · have hw := hw.1 c_121
        refine lv_tableIn (off := 198) (tgt := 238) hx hb dL_law_40 (by rw [c_121]; decide) (by rw [c_121]; decide) (by rw [c_121]; rfl) (by decide) ?_
        refine lv_aload_n hx hb dL_law_238 rfl (lv_at hl 3 rfl) ?_
        refine lv_aload_n hx hb dL_law_239 rfl (lv_at hl 4 rfl) ?_
        refine lv_iload hx hb dL_law_240 (lv_at hl 0 rfl) ?_
        refine lv_iconst (v := 1) hx hb dL_law_242 (by decide) ?_
        refine lv_iadd hx hb dL_law_243 ?_
        obtain ⟨hin, hw⟩ := hw
        refine va_sld hx hb hX hbl hbA hS hin dL_law_244 ?_
        refine lv_aload_n hx hb dL_law_245 rfl (lv_at hl 4 rfl) ?_
        refine lv_iload hx hb dL_law_246 (lv_at hl 0 rfl) ?_
        refine lv_iconst (v := 2) hx hb dL_law_248 (by decide) ?_
        refine lv_iadd hx hb dL_law_249 ?_
        obtain ⟨hin, hw⟩ := hw
        refine va_sld hx hb hX hbl hbA hS hin dL_law_250 ?_
        refine lv_aload_n hx hb dL_law_251 rfl (lv_at hl 4 rfl) ?_
        refine lv_iload hx hb dL_law_252 (lv_at hl 0 rfl) ?_
        refine lv_iconst (v := 3) hx hb dL_law_254 (by decide) ?_
        refine lv_iadd hx hb dL_law_255 ?_
        obtain ⟨hin, hw⟩ := hw
        refine va_sld hx hb hX hbl hbA hS hin dL_law_256 ?_
        refine lv_aload_n hx hb dL_law_257 rfl (lv_at hl 4 rfl) ?_
        refine lv_iload hx hb dL_law_258 (lv_at hl 0 rfl) ?_
        refine lv_iconst (v := 4) hx hb dL_law_260 (by decide) ?_
        refine lv_iadd hx hb dL_law_261 ?_
        obtain ⟨hin, hw⟩ := hw
        refine va_sld hx hb hX hbl hbA hS hin dL_law_262 ?_
        refine lv_aload_n hx hb dL_law_263 rfl (lv_at hl 1 rfl) ?_
        refine k_SW (M_L_table l hst sa G cI cJ An1 Bx Aw As Asm Bsm Ast Bst Ag Agu Bgu Agd Bgd Ae Aeu Beu Aed Bed Af Afu Bfu Afd Bfd Bn3 row_44 rc_45 wa_46 wb_47 wlo_48 whi_49 wtot_50 lsm_51 nsm_52 lst_53 nst_54 lgu_55 ngu_56 lgd_57 ngd_58 leu_59 neu_60 led_61 ned_62 lfu_63 nfu_64 lfd_65 nfd_66 ans_67 rfc_68 rfb_69 out_86 (xs (i4_43 + 1).toNatClampNeg) (xs (i4_43 + 2).toNatClampNeg) (xs (i4_43 + 3).toNatClampNeg) (xs (i4_43 + 4).toNatClampNeg) _ hw) ⟨hx, hb, hml, hown, hts⟩ (vx_cwSW 6 hts gL_law_L_table rfl rfl rfl (by decide +kernel) ⟨(Nat.le_of_ble_eq_true rfl), (Nat.le_of_ble_eq_true rfl)⟩) hK hP hD hS hA hE [0, 1, 2, 3, 4, 5, 6, 7, 8, 9, 10, 11, 12, 13, 14, 15, 16, 17, 18, 19, 20, 21, 22, 31] [23, 24, 25, 26, 27, 28, 29, 30] [8, 9, 10, 11, 12, 13, 14, 15, 16, 17, 18, 19, 20, 21, 22, 23, 24, 25, 26, 27, 28, 29, 30, 0, 1, 2, 3, 4, 5, 6, 7, 31] (wr := [(An2, .inr (5, [.ref Bmr, .int mrs_71, .int ma_72, .int mb_73, .int mlo_74, .int mhi_75, .int man_76, .int mtl_77, .int mtm_78, .ref Bfg, .ref Bln, .ref Btp, .ref Bbl, .int thr_83, .ref Btr, .ref Bwh])), (Bmr, .inl (cI, 60, .inl mrow_70)), (Bfg, .inl (cJ, 4608, .inr (.inl fig_79))), (Bln, .inl (cI, 18, .inl len_80)), (Btp, .inl (cJ, 520, .inr (.inl top_81))), (Bbl, .inl (cJ, 520, .inr (.inl bel_82))), (Btr, .inl (cI, 10, .inl trm_84)), (Bwh, .inl (cI, 10, .inl who_85))]) (wn := fun u : (Int32) × (Int32) × (Int32) × (Int32) × (Int64) × (Nat → Int64) => (wLaw cI cJ An1 Bx Aw As Asm Bsm Ast Bst Ag Agu Bgu Agd Bgd Ae Aeu Beu Aed Bed Af Afu Bfu Afd Bfd An2 Bmr Bfg Bln Btp Bbl Btr Bwh Bn3 row_44 rc_45 u.1 u.2.1 u.2.2.1 u.2.2.2.1 u.2.2.2.2.1 lsm_51 nsm_52 lst_53 nst_54 lgu_55 ngu_56 lgd_57 ngd_58 leu_59 neu_60 led_61 ned_62 lfu_63 nfu_64 lfd_65 nfd_66 ans_67 rfc_68 rfb_69 mrow_70 mrs_71 ma_72 mb_73 mlo_74 mhi_75 man_76 mtl_77 mtm_78 fig_79 len_80 top_81 bel_82 thr_83 trm_84 who_85 u.2.2.2.2.2)) rfl rfl (by decide) (by decide) (by decide) (by decide) (fun _ => rfl) (rest := []) rfl hl.1 rfl (Nat.le_of_ble_eq_true rfl) (by show _ ≤ 171; omega) (by show _ ≤ 7464; omega) dL_law_264 (fun r_122 u H locs hw hP hD hS => ?_)
        obtain ⟨wa_123, wb_124, wlo_125, whi_126, wtot_127, out_128⟩ := u
        have hP : va_P G vwCl (wLaw cI cJ An1 Bx Aw As Asm Bsm Ast Bst Ag Agu Bgu Agd Bgd Ae Aeu Beu Aed Bed Af Afu Bfu Afd Bfd An2 Bmr Bfg Bln Btp Bbl Btr Bwh Bn3 row_44 rc_45 wa_123 wb_124 wlo_125 whi_126 wtot_127 lsm_51 nsm_52 lst_53 nst_54 lgu_55 ngu_56 lgd_57 ngd_58 leu_59 neu_60 led_61 ned_62 lfu_63 nfu_64 lfd_65 nfd_66 ans_67 rfc_68 rfb_69 mrow_70 mrs_71 ma_72 mb_73 mlo_74 mhi_75 man_76 mtl_77 mtm_78 fig_79 len_80 top_81 bel_82 thr_83 trm_84 who_85 out_128) H := hP
        have hD : va_D A (wLaw cI cJ An1 Bx Aw As Asm Bsm Ast Bst Ag Agu Bgu Agd Bgd Ae Aeu Beu Aed Bed Af Afu Bfu Afd Bfd An2 Bmr Bfg Bln Btp Bbl Btr Bwh Bn3 row_44 rc_45 wa_123 wb_124 wlo_125 whi_126 wtot_127 lsm_51 nsm_52 lst_53 nst_54 lgu_55 ngu_56 lgd_57 ngd_58 leu_59 neu_60 led_61 ned_62 lfu_63 nfu_64 lfd_65 nfd_66 ans_67 rfc_68 rfb_69 mrow_70 mrs_71 ma_72 mb_73 mlo_74 mhi_75 man_76 mtl_77 mtm_78 fig_79 len_80 top_81 bel_82 thr_83 trm_84 who_85 out_128) := hD
        refine lv_istore (lv' := [(5, .int r_122), (4, .int i4_43), (3, .ref Bn3), (2, .ref An2), (1, .ref An1), (0, .ref bS)]) hx hb dL_law_267 hl (by decide) rfl (fun ls hl => ?_)
        refine lv_aload_n hx hb dL_law_269 rfl (lv_at hl 3 rfl) ?_
        refine lv_aload_n hx hb dL_law_270 rfl (lv_at hl 5 rfl) ?_
        refine lv_iload hx hb dL_law_271 (lv_at hl 1 rfl) ?_
        refine lv_iconst (v := 1) hx hb dL_law_273 (by decide) ?_
        refine lv_iadd hx hb dL_law_274 ?_
        obtain ⟨hin, hw⟩ := hw
        refine va_sld hx hb hX hbl hbA hS hin dL_law_275 ?_
        refine lv_aload_n hx hb dL_law_276 rfl (lv_at hl 5 rfl) ?_
        refine lv_iload hx hb dL_law_277 (lv_at hl 1 rfl) ?_
        refine lv_iconst (v := 2) hx hb dL_law_279 (by decide) ?_
        refine lv_iadd hx hb dL_law_280 ?_
        obtain ⟨hin, hw⟩ := hw
        refine va_sld hx hb hX hbl hbA hS hin dL_law_281 ?_
        refine lv_aload_n hx hb dL_law_282 rfl (lv_at hl 5 rfl) ?_
        refine lv_iload hx hb dL_law_283 (lv_at hl 1 rfl) ?_
        refine lv_iconst (v := 3) hx hb dL_law_285 (by decide) ?_
        refine lv_iadd hx hb dL_law_286 ?_
        obtain ⟨hin, hw⟩ := hw
        refine va_sld hx hb hX hbl hbA hS hin dL_law_287 ?_
        refine lv_aload_n hx hb dL_law_288 rfl (lv_at hl 5 rfl) ?_
        refine lv_iload hx hb dL_law_289 (lv_at hl 1 rfl) ?_
        refine lv_iconst (v := 4) hx hb dL_law_291 (by decide) ?_
        refine lv_iadd hx hb dL_law_292 ?_
        obtain ⟨hin, hw⟩ := hw
        refine va_sld hx hb hX hbl hbA hS hin dL_law_293 ?_
        refine k_Vl (M_X5_table l G cI cJ An2 Bmr Bfg Bln Btp Bbl Btr Bwh mrow_70 mrs_71 ma_72 mb_73 mlo_74 mhi_75 man_76 mtl_77 mtm_78 fig_79 len_80 top_81 bel_82 thr_83 trm_84 who_85 (xs (i4_43 + 1).toNatClampNeg) (xs (i4_43 + 2).toNatClampNeg) (xs (i4_43 + 3).toNatClampNeg) (xs (i4_43 + 4).toNatClampNeg) _ hw) ⟨hx, hb, hml, hown, hts⟩ (cwV 4 hts gL_law_X5_table rfl rfl rfl (by decide +kernel) ⟨Nat.le_of_ble_eq_true rfl, Nat.le_of_ble_eq_true rfl⟩) hK hP hD hS hA [23, 24, 25, 26, 27, 28, 29, 30] [0, 1, 2, 3, 4, 5, 6, 7, 8, 9, 10, 11, 12, 13, 14, 15, 16, 17, 18, 19, 20, 21, 22, 31] [0, 1, 2, 3, 4, 5, 6, 7, 8, 9, 10, 11, 12, 13, 14, 15, 16, 17, 18, 19, 20, 21, 22, 24, 25, 26, 27, 28, 29, 30, 31, 23] (wr := [(An1, .inr (4, [.ref Bx, .int rc_45, .ref Aw, .ref As, .ref Ag, .ref Ae, .ref Af, .int ans_67, .int rfc_68, .int rfb_69])), (Bx, .inl (cI, 60, .inl row_44)), (Aw, .inr (3, [.int wa_123, .int wb_124, .int wlo_125, .int whi_126, .long wtot_127])), (As, .inr (2, [.ref Asm, .ref Ast])), (Asm, .inr (1, [.ref Bsm, .int nsm_52])), (Bsm, .inl (cI, 64, .inl lsm_51)), (Ast, .inr (1, [.ref Bst, .int nst_54])), (Bst, .inl (cI, 64, .inl lst_53)), (Ag, .inr (0, [.ref Agu, .ref Agd])), (Agu, .inr (1, [.ref Bgu, .int ngu_56])), (Bgu, .inl (cI, 64, .inl lgu_55)), (Agd, .inr (1, [.ref Bgd, .int ngd_58])), (Bgd, .inl (cI, 64, .inl lgd_57)), (Ae, .inr (0, [.ref Aeu, .ref Aed])), (Aeu, .inr (1, [.ref Beu, .int neu_60])), (Beu, .inl (cI, 64, .inl leu_59)), (Aed, .inr (1, [.ref Bed, .int ned_62])), (Bed, .inl (cI, 64, .inl led_61)), (Af, .inr (0, [.ref Afu, .ref Afd])), (Afu, .inr (1, [.ref Bfu, .int nfu_64])), (Bfu, .inl (cI, 64, .inl lfu_63)), (Afd, .inr (1, [.ref Bfd, .int nfd_66])), (Bfd, .inl (cI, 64, .inl lfd_65)), (Bn3, .inl (cJ, 1, .inr (.inl out_128)))]) (wn := fun u : (Int32) × (Int32) × (Int32) × (Int32) × (Int32) => (wLaw cI cJ An1 Bx Aw As Asm Bsm Ast Bst Ag Agu Bgu Agd Bgd Ae Aeu Beu Aed Bed Af Afu Bfu Afd Bfd An2 Bmr Bfg Bln Btp Bbl Btr Bwh Bn3 row_44 rc_45 wa_123 wb_124 wlo_125 whi_126 wtot_127 lsm_51 nsm_52 lst_53 nst_54 lgu_55 ngu_56 lgd_57 ngd_58 leu_59 neu_60 led_61 ned_62 lfu_63 nfu_64 lfd_65 nfd_66 ans_67 rfc_68 rfb_69 mrow_70 mrs_71 u.1 u.2.1 u.2.2.1 u.2.2.2.1 man_76 mtl_77 mtm_78 fig_79 len_80 top_81 bel_82 u.2.2.2.2 trm_84 who_85 out_128)) rfl rfl (by decide) (by decide) (by decide) (by decide) (fun _ => rfl) (rest := []) (q0 := 0) rfl rfl rfl hl.1 rfl (Nat.le_of_ble_eq_true rfl) (by show _ ≤ 171; omega) (by show _ ≤ 7464; omega) dL_law_294 (fun r_129 u H locs hw hP hD hS => ?_)
        obtain ⟨ma_130, mb_131, mlo_132, mhi_133, thr_134⟩ := u
        have hP : va_P G vwCl (wLaw cI cJ An1 Bx Aw As Asm Bsm Ast Bst Ag Agu Bgu Agd Bgd Ae Aeu Beu Aed Bed Af Afu Bfu Afd Bfd An2 Bmr Bfg Bln Btp Bbl Btr Bwh Bn3 row_44 rc_45 wa_123 wb_124 wlo_125 whi_126 wtot_127 lsm_51 nsm_52 lst_53 nst_54 lgu_55 ngu_56 lgd_57 ngd_58 leu_59 neu_60 led_61 ned_62 lfu_63 nfu_64 lfd_65 nfd_66 ans_67 rfc_68 rfb_69 mrow_70 mrs_71 ma_130 mb_131 mlo_132 mhi_133 man_76 mtl_77 mtm_78 fig_79 len_80 top_81 bel_82 thr_134 trm_84 who_85 out_128) H := hP
        have hD : va_D A (wLaw cI cJ An1 Bx Aw As Asm Bsm Ast Bst Ag Agu Bgu Agd Bgd Ae Aeu Beu Aed Bed Af Afu Bfu Afd Bfd An2 Bmr Bfg Bln Btp Bbl Btr Bwh Bn3 row_44 rc_45 wa_123 wb_124 wlo_125 whi_126 wtot_127 lsm_51 nsm_52 lst_53 nst_54 lgu_55 ngu_56 lgd_57 ngd_58 leu_59 neu_60 led_61 ned_62 lfu_63 nfu_64 lfd_65 nfd_66 ans_67 rfc_68 rfb_69 mrow_70 mrs_71 ma_130 mb_131 mlo_132 mhi_133 man_76 mtl_77 mtm_78 fig_79 len_80 top_81 bel_82 thr_134 trm_84 who_85 out_128) := hD
        refine lv_lstore (lv' := [(6, .long r_129), (5, .int r_122), (4, .int i4_43), (3, .ref Bn3), (2, .ref An2), (1, .ref An1), (0, .ref bS)]) hx hb dL_law_297 hl (by decide) rfl (fun ls hl => ?_)
        refine lv_aload_n hx hb dL_law_299 rfl (lv_at hl 4 rfl) ?_
        refine k_Vi (M_X5_thrown l G cI cJ An2 Bmr Bfg Bln Btp Bbl Btr Bwh mrow_70 mrs_71 ma_130 mb_131 mlo_132 mhi_133 man_76 mtl_77 mtm_78 fig_79 len_80 top_81 bel_82 thr_134 trm_84 who_85 _ hw) ⟨hx, hb, hml, hown, hts⟩ (cwV 0 hts gL_law_X5_thrown rfl rfl rfl (by decide +kernel) ⟨Nat.le_of_ble_eq_true rfl, Nat.le_of_ble_eq_true rfl⟩) hK hP hD hS hA [23, 24, 25, 26, 27, 28, 29, 30] [0, 1, 2, 3, 4, 5, 6, 7, 8, 9, 10, 11, 12, 13, 14, 15, 16, 17, 18, 19, 20, 21, 22, 31] [0, 1, 2, 3, 4, 5, 6, 7, 8, 9, 10, 11, 12, 13, 14, 15, 16, 17, 18, 19, 20, 21, 22, 24, 25, 26, 27, 28, 29, 30, 31, 23] (wr := [(An1, .inr (4, [.ref Bx, .int rc_45, .ref Aw, .ref As, .ref Ag, .ref Ae, .ref Af, .int ans_67, .int rfc_68, .int rfb_69])), (Bx, .inl (cI, 60, .inl row_44)), (Aw, .inr (3, [.int wa_123, .int wb_124, .int wlo_125, .int whi_126, .long wtot_127])), (As, .inr (2, [.ref Asm, .ref Ast])), (Asm, .inr (1, [.ref Bsm, .int nsm_52])), (Bsm, .inl (cI, 64, .inl lsm_51)), (Ast, .inr (1, [.ref Bst, .int nst_54])), (Bst, .inl (cI, 64, .inl lst_53)), (Ag, .inr (0, [.ref Agu, .ref Agd])), (Agu, .inr (1, [.ref Bgu, .int ngu_56])), (Bgu, .inl (cI, 64, .inl lgu_55)), (Agd, .inr (1, [.ref Bgd, .int ngd_58])), (Bgd, .inl (cI, 64, .inl lgd_57)), (Ae, .inr (0, [.ref Aeu, .ref Aed])), (Aeu, .inr (1, [.ref Beu, .int neu_60])), (Beu, .inl (cI, 64, .inl leu_59)), (Aed, .inr (1, [.ref Bed, .int ned_62])), (Bed, .inl (cI, 64, .inl led_61)), (Af, .inr (0, [.ref Afu, .ref Afd])), (Afu, .inr (1, [.ref Bfu, .int nfu_64])), (Bfu, .inl (cI, 64, .inl lfu_63)), (Afd, .inr (1, [.ref Bfd, .int nfd_66])), (Bfd, .inl (cI, 64, .inl lfd_65)), (Bn3, .inl (cJ, 1, .inr (.inl out_128)))]) (wn := fun u : Unit => (wLaw cI cJ An1 Bx Aw As Asm Bsm Ast Bst Ag Agu Bgu Agd Bgd Ae Aeu Beu Aed Bed Af Afu Bfu Afd Bfd An2 Bmr Bfg Bln Btp Bbl Btr Bwh Bn3 row_44 rc_45 wa_123 wb_124 wlo_125 whi_126 wtot_127 lsm_51 nsm_52 lst_53 nst_54 lgu_55 ngu_56 lgd_57 ngd_58 leu_59 neu_60 led_61 ned_62 lfu_63 nfu_64 lfd_65 nfd_66 ans_67 rfc_68 rfb_69 mrow_70 mrs_71 ma_130 mb_131 mlo_132 mhi_133 man_76 mtl_77 mtm_78 fig_79 len_80 top_81 bel_82 thr_134 trm_84 who_85 out_128)) rfl rfl (by decide) (by decide) (by decide) (by decide) (fun _ => rfl) (rest := []) (q0 := 0) rfl rfl rfl hl.1 rfl (Nat.le_of_ble_eq_true rfl) (by show _ ≤ 171; omega) (by show _ ≤ 7464; omega) dL_law_300 (fun r_135 u H locs hw hP hD hS => ?_)
        refine lv_iload hx hb dL_law_303 (lv_at hl 1 rfl) ?_
        refine lv_icmp_eq (tgt := 310) hx hb dL_law_305 (by decide) (fun c_140 => ?_) (fun c_140 => ?_)
        · have hw := hw.1 c_140
          refine lv_iload hx hb dL_law_310 (lv_at hl 1 rfl) ?_
          refine lv_if_ne (tgt := 326) hx hb dL_law_312 (by decide) (fun c_139 => ?_) (fun c_139 => ?_)
          · have hw := hw.1 c_139
            refine lv_goto (tgt := 1095) hx hb dL_law_326 (by decide) ?_
            obtain ⟨i4_136, ei4_136⟩ : ∃ y : Int32, y = i4_43 + 7 := ⟨_, rfl⟩
            have hw := hw i4_136 ei4_136
            refine lv_iinc (v := i4_136) (lv' := [(4, .int i4_136), (6, .long r_129), (5, .int r_122), (3, .ref Bn3), (2, .ref An2), (1, .ref An1), (0, .ref bS)]) hx hb dL_law_1095 hl (k := 2) rfl (by rw [ei4_136]; rfl) (by decide) rfl (fun ls hl => ?_)
            refine lv_goto (tgt := 23) hx hb dL_law_1098 (by decide) ?_
            refine W.widen (k := 32 + (kk + 1)) (n := 6374 + 6 * (kk + 1)) (by omega) (by omega) ?_
            exact ihI23_87 _ (by rw [← hNI23_87]; exact hw.2) i4_136 row_44 rc_45 wa_123 wb_124 wlo_125 whi_126 wtot_127 lsm_51 nsm_52 lst_53 nst_54 lgu_55 ngu_56 lgd_57 ngd_58 leu_59 neu_60 led_61 ned_62 lfu_63 nfu_64 lfd_65 nfd_66 ans_67 rfc_68 rfb_69 mrow_70 mrs_71 ma_130 mb_131 mlo_132 mhi_133 man_76 mtl_77 mtm_78 fig_79 len_80 top_81 bel_82 thr_134 trm_84 who_85 out_128 rfl hw.1 (kk + 1) (by omega) (by rw [ei4_136, hik]; exact k_law7 kk) _ _ _ hP hD hS (lv_sub hl [0, 3, 4, 5, 6] rfl)
          · have hw := hw.2 c_139
            refine lv_aload_n hx hb dL_law_315 rfl (lv_at hl 3 rfl) ?_
            refine lv_iconst (v := 0) hx hb dL_law_316 (by decide) ?_
            obtain ⟨hin, hw⟩ := hw
            refine k_lald hx hb hK hP 31 rfl hin dL_law_317 ?_
            refine lv_lload hx hb dL_law_318 (lv_at hl 0 rfl) ?_
            refine k_lif_eq (tgt := 326) hx hb dL_law_320 dL_law_321 (by decide) (fun c_138 => ?_) (fun c_138 => ?_)
            · have hw := hw.1 c_138
              refine lv_goto (tgt := 1095) hx hb dL_law_326 (by decide) ?_
              obtain ⟨i4_137, ei4_137⟩ : ∃ y : Int32, y = i4_43 + 7 := ⟨_, rfl⟩
              have hw := hw i4_137 ei4_137
              refine lv_iinc (v := i4_137) (lv' := [(4, .int i4_137), (6, .long r_129), (5, .int r_122), (3, .ref Bn3), (2, .ref An2), (1, .ref An1), (0, .ref bS)]) hx hb dL_law_1095 hl (k := 2) rfl (by rw [ei4_137]; rfl) (by decide) rfl (fun ls hl => ?_)
              refine lv_goto (tgt := 23) hx hb dL_law_1098 (by decide) ?_
              refine W.widen (k := 32 + (kk + 1)) (n := 6374 + 6 * (kk + 1)) (by omega) (by omega) ?_
              exact ihI23_87 _ (by rw [← hNI23_87]; exact hw.2) i4_137 row_44 rc_45 wa_123 wb_124 wlo_125 whi_126 wtot_127 lsm_51 nsm_52 lst_53 nst_54 lgu_55 ngu_56 lgd_57 ngd_58 leu_59 neu_60 led_61 ned_62 lfu_63 nfu_64 lfd_65 nfd_66 ans_67 rfc_68 rfb_69 mrow_70 mrs_71 ma_130 mb_131 mlo_132 mhi_133 man_76 mtl_77 mtm_78 fig_79 len_80 top_81 bel_82 thr_134 trm_84 who_85 out_128 rfl hw.1 (kk + 1) (by omega) (by rw [ei4_137, hik]; exact k_law7 kk) _ _ _ hP hD hS (lv_sub hl [0, 3, 4, 5, 6] rfl)
            · have hw := hw.2 c_138
              refine lv_iconst (v := 0) hx hb dL_law_324 (by decide) ?_
              exact absurd hw (by decide)
        · have hw := hw.2 c_140
          refine lv_iconst (v := 0) hx hb dL_law_308 (by decide) ?_
          exact absurd hw (by decide)
      have hw := hw.2 c_121
      by_cases c_141 : v_89 = 4
      · have hw := hw.1 c_141
        refine lv_tableIn (off := 289) (tgt := 329) hx hb dL_law_40 (by rw [c_141]; decide) (by rw [c_141]; decide) (by rw [c_141]; rfl) (by decide) ?_
        refine lv_aload_n hx hb dL_law_329 rfl (lv_at hl 3 rfl) ?_
        refine k_Vl (M_X4_all l G cI cJ An1 Bx Aw As Asm Bsm Ast Bst Ag Agu Bgu Agd Bgd Ae Aeu Beu Aed Bed Af Afu Bfu Afd Bfd row_44 rc_45 wa_46 wb_47 wlo_48 whi_49 wtot_50 lsm_51 nsm_52 lst_53 nst_54 lgu_55 ngu_56 lgd_57 ngd_58 leu_59 neu_60 led_61 ned_62 lfu_63 nfu_64 lfd_65 nfd_66 ans_67 rfc_68 rfb_69 _ hw) ⟨hx, hb, hml, hown, hts⟩ (cwV 0 hts gL_law_X4_all rfl rfl rfl (by decide +kernel) ⟨Nat.le_of_ble_eq_true rfl, Nat.le_of_ble_eq_true rfl⟩) hK hP hD hS hA [0, 1, 2, 3, 4, 5, 6, 7, 8, 9, 10, 11, 12, 13, 14, 15, 16, 17, 18, 19, 20, 21, 22] [23, 24, 25, 26, 27, 28, 29, 30, 31] [9, 10, 11, 12, 13, 14, 15, 16, 17, 18, 19, 20, 21, 22, 23, 24, 25, 26, 27, 28, 29, 30, 31, 0, 1, 2, 3, 4, 5, 6, 7, 8] (wr := [(An2, .inr (5, [.ref Bmr, .int mrs_71, .int ma_72, .int mb_73, .int mlo_74, .int mhi_75, .int man_76, .int mtl_77, .int mtm_78, .ref Bfg, .ref Bln, .ref Btp, .ref Bbl, .int thr_83, .ref Btr, .ref Bwh])), (Bmr, .inl (cI, 60, .inl mrow_70)), (Bfg, .inl (cJ, 4608, .inr (.inl fig_79))), (Bln, .inl (cI, 18, .inl len_80)), (Btp, .inl (cJ, 520, .inr (.inl top_81))), (Bbl, .inl (cJ, 520, .inr (.inl bel_82))), (Btr, .inl (cI, 10, .inl trm_84)), (Bwh, .inl (cI, 10, .inl who_85)), (Bn3, .inl (cJ, 1, .inr (.inl out_86)))]) (wn := fun u : Unit => (wLaw cI cJ An1 Bx Aw As Asm Bsm Ast Bst Ag Agu Bgu Agd Bgd Ae Aeu Beu Aed Bed Af Afu Bfu Afd Bfd An2 Bmr Bfg Bln Btp Bbl Btr Bwh Bn3 row_44 rc_45 wa_46 wb_47 wlo_48 whi_49 wtot_50 lsm_51 nsm_52 lst_53 nst_54 lgu_55 ngu_56 lgd_57 ngd_58 leu_59 neu_60 led_61 ned_62 lfu_63 nfu_64 lfd_65 nfd_66 ans_67 rfc_68 rfb_69 mrow_70 mrs_71 ma_72 mb_73 mlo_74 mhi_75 man_76 mtl_77 mtm_78 fig_79 len_80 top_81 bel_82 thr_83 trm_84 who_85 out_86)) rfl rfl (by decide) (by decide) (by decide) (by decide) (fun _ => rfl) (rest := []) (q0 := 0) rfl rfl rfl hl.1 rfl (Nat.le_of_ble_eq_true rfl) (by show _ ≤ 171; omega) (by show _ ≤ 7464; omega) dL_law_330 (fun r_142 u H locs hw hP hD hS => ?_)
        refine lv_aload_n hx hb dL_law_333 rfl (lv_at hl 2 rfl) ?_
        refine k_Vl (M_X5_all l G cI cJ An2 Bmr Bfg Bln Btp Bbl Btr Bwh mrow_70 mrs_71 ma_72 mb_73 mlo_74 mhi_75 man_76 mtl_77 mtm_78 fig_79 len_80 top_81 bel_82 thr_83 trm_84 who_85 _ hw) ⟨hx, hb, hml, hown, hts⟩ (cwV 0 hts gL_law_X5_all rfl rfl rfl (by decide +kernel) ⟨Nat.le_of_ble_eq_true rfl, Nat.le_of_ble_eq_true rfl⟩) hK hP hD hS hA [23, 24, 25, 26, 27, 28, 29, 30] [0, 1, 2, 3, 4, 5, 6, 7, 8, 9, 10, 11, 12, 13, 14, 15, 16, 17, 18, 19, 20, 21, 22, 31] [0, 1, 2, 3, 4, 5, 6, 7, 8, 9, 10, 11, 12, 13, 14, 15, 16, 17, 18, 19, 20, 21, 22, 24, 25, 26, 27, 28, 29, 30, 31, 23] (wr := [(An1, .inr (4, [.ref Bx, .int rc_45, .ref Aw, .ref As, .ref Ag, .ref Ae, .ref Af, .int ans_67, .int rfc_68, .int rfb_69])), (Bx, .inl (cI, 60, .inl row_44)), (Aw, .inr (3, [.int wa_46, .int wb_47, .int wlo_48, .int whi_49, .long wtot_50])), (As, .inr (2, [.ref Asm, .ref Ast])), (Asm, .inr (1, [.ref Bsm, .int nsm_52])), (Bsm, .inl (cI, 64, .inl lsm_51)), (Ast, .inr (1, [.ref Bst, .int nst_54])), (Bst, .inl (cI, 64, .inl lst_53)), (Ag, .inr (0, [.ref Agu, .ref Agd])), (Agu, .inr (1, [.ref Bgu, .int ngu_56])), (Bgu, .inl (cI, 64, .inl lgu_55)), (Agd, .inr (1, [.ref Bgd, .int ngd_58])), (Bgd, .inl (cI, 64, .inl lgd_57)), (Ae, .inr (0, [.ref Aeu, .ref Aed])), (Aeu, .inr (1, [.ref Beu, .int neu_60])), (Beu, .inl (cI, 64, .inl leu_59)), (Aed, .inr (1, [.ref Bed, .int ned_62])), (Bed, .inl (cI, 64, .inl led_61)), (Af, .inr (0, [.ref Afu, .ref Afd])), (Afu, .inr (1, [.ref Bfu, .int nfu_64])), (Bfu, .inl (cI, 64, .inl lfu_63)), (Afd, .inr (1, [.ref Bfd, .int nfd_66])), (Bfd, .inl (cI, 64, .inl lfd_65)), (Bn3, .inl (cJ, 1, .inr (.inl out_86)))]) (wn := fun u : (Int32) => (wLaw cI cJ An1 Bx Aw As Asm Bsm Ast Bst Ag Agu Bgu Agd Bgd Ae Aeu Beu Aed Bed Af Afu Bfu Afd Bfd An2 Bmr Bfg Bln Btp Bbl Btr Bwh Bn3 row_44 rc_45 wa_46 wb_47 wlo_48 whi_49 wtot_50 lsm_51 nsm_52 lst_53 nst_54 lgu_55 ngu_56 lgd_57 ngd_58 leu_59 neu_60 led_61 ned_62 lfu_63 nfu_64 lfd_65 nfd_66 ans_67 rfc_68 rfb_69 mrow_70 mrs_71 ma_72 mb_73 mlo_74 mhi_75 man_76 mtl_77 mtm_78 fig_79 len_80 top_81 bel_82 u trm_84 who_85 out_86)) rfl rfl (by decide) (by decide) (by decide) (by decide) (fun _ => rfl) (rest := [.long r_142]) (q0 := 0) rfl rfl rfl hl.1 rfl (Nat.le_of_ble_eq_true rfl) (by show _ ≤ 171; omega) (by show _ ≤ 7464; omega) dL_law_334 (fun r_143 u H locs hw hP hD hS => ?_)
        obtain ⟨thr_144, rfl⟩ : ∃ z, z = u := ⟨_, rfl⟩
        have hP : va_P G vwCl (wLaw cI cJ An1 Bx Aw As Asm Bsm Ast Bst Ag Agu Bgu Agd Bgd Ae Aeu Beu Aed Bed Af Afu Bfu Afd Bfd An2 Bmr Bfg Bln Btp Bbl Btr Bwh Bn3 row_44 rc_45 wa_46 wb_47 wlo_48 whi_49 wtot_50 lsm_51 nsm_52 lst_53 nst_54 lgu_55 ngu_56 lgd_57 ngd_58 leu_59 neu_60 led_61 ned_62 lfu_63 nfu_64 lfd_65 nfd_66 ans_67 rfc_68 rfb_69 mrow_70 mrs_71 ma_72 mb_73 mlo_74 mhi_75 man_76 mtl_77 mtm_78 fig_79 len_80 top_81 bel_82 thr_144 trm_84 who_85 out_86) H := hP
        have hD : va_D A (wLaw cI cJ An1 Bx Aw As Asm Bsm Ast Bst Ag Agu Bgu Agd Bgd Ae Aeu Beu Aed Bed Af Afu Bfu Afd Bfd An2 Bmr Bfg Bln Btp Bbl Btr Bwh Bn3 row_44 rc_45 wa_46 wb_47 wlo_48 whi_49 wtot_50 lsm_51 nsm_52 lst_53 nst_54 lgu_55 ngu_56 lgd_57 ngd_58 leu_59 neu_60 led_61 ned_62 lfu_63 nfu_64 lfd_65 nfd_66 ans_67 rfc_68 rfb_69 mrow_70 mrs_71 ma_72 mb_73 mlo_74 mhi_75 man_76 mtl_77 mtm_78 fig_79 len_80 top_81 bel_82 thr_144 trm_84 who_85 out_86) := hD
        refine k_lif_eq (tgt := 1095) hx hb dL_law_337 dL_law_338 (by decide) (fun c_146 => ?_) (fun c_146 => ?_)
        · have hw := hw.1 c_146
          obtain ⟨i4_145, ei4_145⟩ : ∃ y : Int32, y = i4_43 + 7 := ⟨_, rfl⟩
          have hw := hw i4_145 ei4_145
          refine lv_iinc (v := i4_145) (lv' := [(4, .int i4_145), (3, .ref Bn3), (2, .ref An2), (1, .ref An1), (0, .ref bS)]) hx hb dL_law_1095 hl (k := 0) rfl (by rw [ei4_145]; rfl) (by decide) rfl (fun ls hl => ?_)
          refine lv_goto (tgt := 23) hx hb dL_law_1098 (by decide) ?_
          refine W.widen (k := 32 + (kk + 1)) (n := 6374 + 6 * (kk + 1)) (by omega) (by omega) ?_
          exact ihI23_87 _ (by rw [← hNI23_87]; exact hw.2) i4_145 row_44 rc_45 wa_46 wb_47 wlo_48 whi_49 wtot_50 lsm_51 nsm_52 lst_53 nst_54 lgu_55 ngu_56 lgd_57 ngd_58 leu_59 neu_60 led_61 ned_62 lfu_63 nfu_64 lfd_65 nfd_66 ans_67 rfc_68 rfb_69 mrow_70 mrs_71 ma_72 mb_73 mlo_74 mhi_75 man_76 mtl_77 mtm_78 fig_79 len_80 top_81 bel_82 thr_144 trm_84 who_85 out_86 rfl hw.1 (kk + 1) (by omega) (by rw [ei4_145, hik]; exact k_law7 kk) _ _ _ hP hD hS (lv_sub hl [0, 1, 2, 3, 4] rfl)
        · have hw := hw.2 c_146
          refine lv_iconst (v := 0) hx hb dL_law_341 (by decide) ?_
          exact absurd hw (by decide)
      have hw := hw.2 c_141
      by_cases c_147 : v_89 = 5
      · have hw := hw.1 c_147
        refine lv_tableIn (off := 303) (tgt := 343) hx hb dL_law_40 (by rw [c_147]; decide) (by rw [c_147]; decide) (by rw [c_147]; rfl) (by decide) ?_
        refine lv_aload_n hx hb dL_law_343 rfl (lv_at hl 3 rfl) ?_
        refine lv_aload_n hx hb dL_law_344 rfl (lv_at hl 4 rfl) ?_
        refine lv_iload hx hb dL_law_345 (lv_at hl 0 rfl) ?_
        refine lv_iconst (v := 1) hx hb dL_law_347 (by decide) ?_
        refine lv_iadd hx hb dL_law_348 ?_
        obtain ⟨hin, hw⟩ := hw
        refine va_sld hx hb hX hbl hbA hS hin dL_law_349 ?_
        refine lv_aload_n hx hb dL_law_350 rfl (lv_at hl 4 rfl) ?_
        refine lv_iload hx hb dL_law_351 (lv_at hl 0 rfl) ?_
        refine lv_iconst (v := 2) hx hb dL_law_353 (by decide) ?_
        refine lv_iadd hx hb dL_law_354 ?_
        obtain ⟨hin, hw⟩ := hw
        refine va_sld hx hb hX hbl hbA hS hin dL_law_355 ?_
        refine k_Vl (M_X4_weight l G cI cJ An1 Bx Aw As Asm Bsm Ast Bst Ag Agu Bgu Agd Bgd Ae Aeu Beu Aed Bed Af Afu Bfu Afd Bfd row_44 rc_45 wa_46 wb_47 wlo_48 whi_49 wtot_50 lsm_51 nsm_52 lst_53 nst_54 lgu_55 ngu_56 lgd_57 ngd_58 leu_59 neu_60 led_61 ned_62 lfu_63 nfu_64 lfd_65 nfd_66 ans_67 rfc_68 rfb_69 (xs (i4_43 + 1).toNatClampNeg) (xs (i4_43 + 2).toNatClampNeg) _ hw) ⟨hx, hb, hml, hown, hts⟩ (cwV 2 hts gL_law_X4_weight rfl rfl rfl (by decide +kernel) ⟨Nat.le_of_ble_eq_true rfl, Nat.le_of_ble_eq_true rfl⟩) hK hP hD hS hA [0, 1, 2, 3, 4, 5, 6, 7, 8, 9, 10, 11, 12, 13, 14, 15, 16, 17, 18, 19, 20, 21, 22] [23, 24, 25, 26, 27, 28, 29, 30, 31] [9, 10, 11, 12, 13, 14, 15, 16, 17, 18, 19, 20, 21, 22, 23, 24, 25, 26, 27, 28, 29, 30, 31, 0, 1, 2, 3, 4, 5, 6, 7, 8] (wr := [(An2, .inr (5, [.ref Bmr, .int mrs_71, .int ma_72, .int mb_73, .int mlo_74, .int mhi_75, .int man_76, .int mtl_77, .int mtm_78, .ref Bfg, .ref Bln, .ref Btp, .ref Bbl, .int thr_83, .ref Btr, .ref Bwh])), (Bmr, .inl (cI, 60, .inl mrow_70)), (Bfg, .inl (cJ, 4608, .inr (.inl fig_79))), (Bln, .inl (cI, 18, .inl len_80)), (Btp, .inl (cJ, 520, .inr (.inl top_81))), (Bbl, .inl (cJ, 520, .inr (.inl bel_82))), (Btr, .inl (cI, 10, .inl trm_84)), (Bwh, .inl (cI, 10, .inl who_85)), (Bn3, .inl (cJ, 1, .inr (.inl out_86)))]) (wn := fun u : Unit => (wLaw cI cJ An1 Bx Aw As Asm Bsm Ast Bst Ag Agu Bgu Agd Bgd Ae Aeu Beu Aed Bed Af Afu Bfu Afd Bfd An2 Bmr Bfg Bln Btp Bbl Btr Bwh Bn3 row_44 rc_45 wa_46 wb_47 wlo_48 whi_49 wtot_50 lsm_51 nsm_52 lst_53 nst_54 lgu_55 ngu_56 lgd_57 ngd_58 leu_59 neu_60 led_61 ned_62 lfu_63 nfu_64 lfd_65 nfd_66 ans_67 rfc_68 rfb_69 mrow_70 mrs_71 ma_72 mb_73 mlo_74 mhi_75 man_76 mtl_77 mtm_78 fig_79 len_80 top_81 bel_82 thr_83 trm_84 who_85 out_86)) rfl rfl (by decide) (by decide) (by decide) (by decide) (fun _ => rfl) (rest := []) (q0 := 0) rfl rfl rfl hl.1 rfl (Nat.le_of_ble_eq_true rfl) (by show _ ≤ 171; omega) (by show _ ≤ 7464; omega) dL_law_356 (fun r_148 u H locs hw hP hD hS => ?_)
        refine lv_aload_n hx hb dL_law_359 rfl (lv_at hl 2 rfl) ?_
        refine lv_aload_n hx hb dL_law_360 rfl (lv_at hl 4 rfl) ?_
        refine lv_iload hx hb dL_law_361 (lv_at hl 0 rfl) ?_
        refine lv_iconst (v := 1) hx hb dL_law_363 (by decide) ?_
        refine lv_iadd hx hb dL_law_364 ?_
        obtain ⟨hin, hw⟩ := hw
        refine va_sld hx hb hX hbl hbA hS hin dL_law_365 ?_
        refine lv_aload_n hx hb dL_law_366 rfl (lv_at hl 4 rfl) ?_
        refine lv_iload hx hb dL_law_367 (lv_at hl 0 rfl) ?_
        refine lv_iconst (v := 2) hx hb dL_law_369 (by decide) ?_
        refine lv_iadd hx hb dL_law_370 ?_
        obtain ⟨hin, hw⟩ := hw
        refine va_sld hx hb hX hbl hbA hS hin dL_law_371 ?_
        refine k_Vl (M_X5_weight l G cI cJ An2 Bmr Bfg Bln Btp Bbl Btr Bwh mrow_70 mrs_71 ma_72 mb_73 mlo_74 mhi_75 man_76 mtl_77 mtm_78 fig_79 len_80 top_81 bel_82 thr_83 trm_84 who_85 (xs (i4_43 + 1).toNatClampNeg) (xs (i4_43 + 2).toNatClampNeg) _ hw) ⟨hx, hb, hml, hown, hts⟩ (cwV 2 hts gL_law_X5_weight rfl rfl rfl (by decide +kernel) ⟨Nat.le_of_ble_eq_true rfl, Nat.le_of_ble_eq_true rfl⟩) hK hP hD hS hA [23, 24, 25, 26, 27, 28, 29, 30] [0, 1, 2, 3, 4, 5, 6, 7, 8, 9, 10, 11, 12, 13, 14, 15, 16, 17, 18, 19, 20, 21, 22, 31] [0, 1, 2, 3, 4, 5, 6, 7, 8, 9, 10, 11, 12, 13, 14, 15, 16, 17, 18, 19, 20, 21, 22, 24, 25, 26, 27, 28, 29, 30, 31, 23] (wr := [(An1, .inr (4, [.ref Bx, .int rc_45, .ref Aw, .ref As, .ref Ag, .ref Ae, .ref Af, .int ans_67, .int rfc_68, .int rfb_69])), (Bx, .inl (cI, 60, .inl row_44)), (Aw, .inr (3, [.int wa_46, .int wb_47, .int wlo_48, .int whi_49, .long wtot_50])), (As, .inr (2, [.ref Asm, .ref Ast])), (Asm, .inr (1, [.ref Bsm, .int nsm_52])), (Bsm, .inl (cI, 64, .inl lsm_51)), (Ast, .inr (1, [.ref Bst, .int nst_54])), (Bst, .inl (cI, 64, .inl lst_53)), (Ag, .inr (0, [.ref Agu, .ref Agd])), (Agu, .inr (1, [.ref Bgu, .int ngu_56])), (Bgu, .inl (cI, 64, .inl lgu_55)), (Agd, .inr (1, [.ref Bgd, .int ngd_58])), (Bgd, .inl (cI, 64, .inl lgd_57)), (Ae, .inr (0, [.ref Aeu, .ref Aed])), (Aeu, .inr (1, [.ref Beu, .int neu_60])), (Beu, .inl (cI, 64, .inl leu_59)), (Aed, .inr (1, [.ref Bed, .int ned_62])), (Bed, .inl (cI, 64, .inl led_61)), (Af, .inr (0, [.ref Afu, .ref Afd])), (Afu, .inr (1, [.ref Bfu, .int nfu_64])), (Bfu, .inl (cI, 64, .inl lfu_63)), (Afd, .inr (1, [.ref Bfd, .int nfd_66])), (Bfd, .inl (cI, 64, .inl lfd_65)), (Bn3, .inl (cJ, 1, .inr (.inl out_86)))]) (wn := fun u : (Int32) => (wLaw cI cJ An1 Bx Aw As Asm Bsm Ast Bst Ag Agu Bgu Agd Bgd Ae Aeu Beu Aed Bed Af Afu Bfu Afd Bfd An2 Bmr Bfg Bln Btp Bbl Btr Bwh Bn3 row_44 rc_45 wa_46 wb_47 wlo_48 whi_49 wtot_50 lsm_51 nsm_52 lst_53 nst_54 lgu_55 ngu_56 lgd_57 ngd_58 leu_59 neu_60 led_61 ned_62 lfu_63 nfu_64 lfd_65 nfd_66 ans_67 rfc_68 rfb_69 mrow_70 mrs_71 ma_72 mb_73 mlo_74 mhi_75 man_76 mtl_77 mtm_78 fig_79 len_80 top_81 bel_82 u trm_84 who_85 out_86)) rfl rfl (by decide) (by decide) (by decide) (by decide) (fun _ => rfl) (rest := [.long r_148]) (q0 := 0) rfl rfl rfl hl.1 rfl (Nat.le_of_ble_eq_true rfl) (by show _ ≤ 171; omega) (by show _ ≤ 7464; omega) dL_law_372 (fun r_149 u H locs hw hP hD hS => ?_)
        obtain ⟨thr_150, rfl⟩ : ∃ z, z = u := ⟨_, rfl⟩
        have hP : va_P G vwCl (wLaw cI cJ An1 Bx Aw As Asm Bsm Ast Bst Ag Agu Bgu Agd Bgd Ae Aeu Beu Aed Bed Af Afu Bfu Afd Bfd An2 Bmr Bfg Bln Btp Bbl Btr Bwh Bn3 row_44 rc_45 wa_46 wb_47 wlo_48 whi_49 wtot_50 lsm_51 nsm_52 lst_53 nst_54 lgu_55 ngu_56 lgd_57 ngd_58 leu_59 neu_60 led_61 ned_62 lfu_63 nfu_64 lfd_65 nfd_66 ans_67 rfc_68 rfb_69 mrow_70 mrs_71 ma_72 mb_73 mlo_74 mhi_75 man_76 mtl_77 mtm_78 fig_79 len_80 top_81 bel_82 thr_150 trm_84 who_85 out_86) H := hP
        have hD : va_D A (wLaw cI cJ An1 Bx Aw As Asm Bsm Ast Bst Ag Agu Bgu Agd Bgd Ae Aeu Beu Aed Bed Af Afu Bfu Afd Bfd An2 Bmr Bfg Bln Btp Bbl Btr Bwh Bn3 row_44 rc_45 wa_46 wb_47 wlo_48 whi_49 wtot_50 lsm_51 nsm_52 lst_53 nst_54 lgu_55 ngu_56 lgd_57 ngd_58 leu_59 neu_60 led_61 ned_62 lfu_63 nfu_64 lfd_65 nfd_66 ans_67 rfc_68 rfb_69 mrow_70 mrs_71 ma_72 mb_73 mlo_74 mhi_75 man_76 mtl_77 mtm_78 fig_79 len_80 top_81 bel_82 thr_150 trm_84 who_85 out_86) := hD
        refine k_lif_eq (tgt := 1095) hx hb dL_law_375 dL_law_376 (by decide) (fun c_152 => ?_) (fun c_152 => ?_)
        · have hw := hw.1 c_152
          obtain ⟨i4_151, ei4_151⟩ : ∃ y : Int32, y = i4_43 + 7 := ⟨_, rfl⟩
          have hw := hw i4_151 ei4_151
          refine lv_iinc (v := i4_151) (lv' := [(4, .int i4_151), (3, .ref Bn3), (2, .ref An2), (1, .ref An1), (0, .ref bS)]) hx hb dL_law_1095 hl (k := 0) rfl (by rw [ei4_151]; rfl) (by decide) rfl (fun ls hl => ?_)
          refine lv_goto (tgt := 23) hx hb dL_law_1098 (by decide) ?_
          refine W.widen (k := 32 + (kk + 1)) (n := 6374 + 6 * (kk + 1)) (by omega) (by omega) ?_
          exact ihI23_87 _ (by rw [← hNI23_87]; exact hw.2) i4_151 row_44 rc_45 wa_46 wb_47 wlo_48 whi_49 wtot_50 lsm_51 nsm_52 lst_53 nst_54 lgu_55 ngu_56 lgd_57 ngd_58 leu_59 neu_60 led_61 ned_62 lfu_63 nfu_64 lfd_65 nfd_66 ans_67 rfc_68 rfb_69 mrow_70 mrs_71 ma_72 mb_73 mlo_74 mhi_75 man_76 mtl_77 mtm_78 fig_79 len_80 top_81 bel_82 thr_150 trm_84 who_85 out_86 rfl hw.1 (kk + 1) (by omega) (by rw [ei4_151, hik]; exact k_law7 kk) _ _ _ hP hD hS (lv_sub hl [0, 1, 2, 3, 4] rfl)
        · have hw := hw.2 c_152
          refine lv_iconst (v := 0) hx hb dL_law_379 (by decide) ?_
          exact absurd hw (by decide)
      have hw := hw.2 c_147
      by_cases c_153 : v_89 = 6
      · have hw := hw.1 c_153
        refine lv_tableIn (off := 341) (tgt := 381) hx hb dL_law_40 (by rw [c_153]; decide) (by rw [c_153]; decide) (by rw [c_153]; rfl) (by decide) ?_
        refine lv_aload_n hx hb dL_law_381 rfl (lv_at hl 3 rfl) ?_
        refine lv_aload_n hx hb dL_law_382 rfl (lv_at hl 4 rfl) ?_
        refine lv_iload hx hb dL_law_383 (lv_at hl 0 rfl) ?_
        refine lv_iconst (v := 1) hx hb dL_law_385 (by decide) ?_
        refine lv_iadd hx hb dL_law_386 ?_
        obtain ⟨hin, hw⟩ := hw
        refine va_sld hx hb hX hbl hbA hS hin dL_law_387 ?_
        refine lv_aload_n hx hb dL_law_388 rfl (lv_at hl 4 rfl) ?_
        refine lv_iload hx hb dL_law_389 (lv_at hl 0 rfl) ?_
        refine lv_iconst (v := 2) hx hb dL_law_391 (by decide) ?_
        refine lv_iadd hx hb dL_law_392 ?_
        obtain ⟨hin, hw⟩ := hw
        refine va_sld hx hb hX hbl hbA hS hin dL_law_393 ?_
        refine k_Vl (M_X4_upTo l G cI cJ An1 Bx Aw As Asm Bsm Ast Bst Ag Agu Bgu Agd Bgd Ae Aeu Beu Aed Bed Af Afu Bfu Afd Bfd row_44 rc_45 wa_46 wb_47 wlo_48 whi_49 wtot_50 lsm_51 nsm_52 lst_53 nst_54 lgu_55 ngu_56 lgd_57 ngd_58 leu_59 neu_60 led_61 ned_62 lfu_63 nfu_64 lfd_65 nfd_66 ans_67 rfc_68 rfb_69 (xs (i4_43 + 1).toNatClampNeg) (xs (i4_43 + 2).toNatClampNeg) _ hw) ⟨hx, hb, hml, hown, hts⟩ (cwV 2 hts gL_law_X4_upTo rfl rfl rfl (by decide +kernel) ⟨Nat.le_of_ble_eq_true rfl, Nat.le_of_ble_eq_true rfl⟩) hK hP hD hS hA [0, 1, 2, 3, 4, 5, 6, 7, 8, 9, 10, 11, 12, 13, 14, 15, 16, 17, 18, 19, 20, 21, 22] [23, 24, 25, 26, 27, 28, 29, 30, 31] [9, 10, 11, 12, 13, 14, 15, 16, 17, 18, 19, 20, 21, 22, 23, 24, 25, 26, 27, 28, 29, 30, 31, 0, 1, 2, 3, 4, 5, 6, 7, 8] (wr := [(An2, .inr (5, [.ref Bmr, .int mrs_71, .int ma_72, .int mb_73, .int mlo_74, .int mhi_75, .int man_76, .int mtl_77, .int mtm_78, .ref Bfg, .ref Bln, .ref Btp, .ref Bbl, .int thr_83, .ref Btr, .ref Bwh])), (Bmr, .inl (cI, 60, .inl mrow_70)), (Bfg, .inl (cJ, 4608, .inr (.inl fig_79))), (Bln, .inl (cI, 18, .inl len_80)), (Btp, .inl (cJ, 520, .inr (.inl top_81))), (Bbl, .inl (cJ, 520, .inr (.inl bel_82))), (Btr, .inl (cI, 10, .inl trm_84)), (Bwh, .inl (cI, 10, .inl who_85)), (Bn3, .inl (cJ, 1, .inr (.inl out_86)))]) (wn := fun u : Unit => (wLaw cI cJ An1 Bx Aw As Asm Bsm Ast Bst Ag Agu Bgu Agd Bgd Ae Aeu Beu Aed Bed Af Afu Bfu Afd Bfd An2 Bmr Bfg Bln Btp Bbl Btr Bwh Bn3 row_44 rc_45 wa_46 wb_47 wlo_48 whi_49 wtot_50 lsm_51 nsm_52 lst_53 nst_54 lgu_55 ngu_56 lgd_57 ngd_58 leu_59 neu_60 led_61 ned_62 lfu_63 nfu_64 lfd_65 nfd_66 ans_67 rfc_68 rfb_69 mrow_70 mrs_71 ma_72 mb_73 mlo_74 mhi_75 man_76 mtl_77 mtm_78 fig_79 len_80 top_81 bel_82 thr_83 trm_84 who_85 out_86)) rfl rfl (by decide) (by decide) (by decide) (by decide) (fun _ => rfl) (rest := []) (q0 := 0) rfl rfl rfl hl.1 rfl (Nat.le_of_ble_eq_true rfl) (by show _ ≤ 171; omega) (by show _ ≤ 7464; omega) dL_law_394 (fun r_154 u H locs hw hP hD hS => ?_)
        refine lv_aload_n hx hb dL_law_397 rfl (lv_at hl 2 rfl) ?_
        refine lv_aload_n hx hb dL_law_398 rfl (lv_at hl 4 rfl) ?_
        refine lv_iload hx hb dL_law_399 (lv_at hl 0 rfl) ?_
        refine lv_iconst (v := 1) hx hb dL_law_401 (by decide) ?_
        refine lv_iadd hx hb dL_law_402 ?_
        obtain ⟨hin, hw⟩ := hw
        refine va_sld hx hb hX hbl hbA hS hin dL_law_403 ?_
        refine lv_aload_n hx hb dL_law_404 rfl (lv_at hl 4 rfl) ?_
        refine lv_iload hx hb dL_law_405 (lv_at hl 0 rfl) ?_
        refine lv_iconst (v := 2) hx hb dL_law_407 (by decide) ?_
        refine lv_iadd hx hb dL_law_408 ?_
        obtain ⟨hin, hw⟩ := hw
        refine va_sld hx hb hX hbl hbA hS hin dL_law_409 ?_
        refine k_Vl (M_X5_upTo l G cI cJ An2 Bmr Bfg Bln Btp Bbl Btr Bwh mrow_70 mrs_71 ma_72 mb_73 mlo_74 mhi_75 man_76 mtl_77 mtm_78 fig_79 len_80 top_81 bel_82 thr_83 trm_84 who_85 (xs (i4_43 + 1).toNatClampNeg) (xs (i4_43 + 2).toNatClampNeg) _ hw) ⟨hx, hb, hml, hown, hts⟩ (cwV 2 hts gL_law_X5_upTo rfl rfl rfl (by decide +kernel) ⟨Nat.le_of_ble_eq_true rfl, Nat.le_of_ble_eq_true rfl⟩) hK hP hD hS hA [23, 24, 25, 26, 27, 28, 29, 30] [0, 1, 2, 3, 4, 5, 6, 7, 8, 9, 10, 11, 12, 13, 14, 15, 16, 17, 18, 19, 20, 21, 22, 31] [0, 1, 2, 3, 4, 5, 6, 7, 8, 9, 10, 11, 12, 13, 14, 15, 16, 17, 18, 19, 20, 21, 22, 24, 25, 26, 27, 28, 29, 30, 31, 23] (wr := [(An1, .inr (4, [.ref Bx, .int rc_45, .ref Aw, .ref As, .ref Ag, .ref Ae, .ref Af, .int ans_67, .int rfc_68, .int rfb_69])), (Bx, .inl (cI, 60, .inl row_44)), (Aw, .inr (3, [.int wa_46, .int wb_47, .int wlo_48, .int whi_49, .long wtot_50])), (As, .inr (2, [.ref Asm, .ref Ast])), (Asm, .inr (1, [.ref Bsm, .int nsm_52])), (Bsm, .inl (cI, 64, .inl lsm_51)), (Ast, .inr (1, [.ref Bst, .int nst_54])), (Bst, .inl (cI, 64, .inl lst_53)), (Ag, .inr (0, [.ref Agu, .ref Agd])), (Agu, .inr (1, [.ref Bgu, .int ngu_56])), (Bgu, .inl (cI, 64, .inl lgu_55)), (Agd, .inr (1, [.ref Bgd, .int ngd_58])), (Bgd, .inl (cI, 64, .inl lgd_57)), (Ae, .inr (0, [.ref Aeu, .ref Aed])), (Aeu, .inr (1, [.ref Beu, .int neu_60])), (Beu, .inl (cI, 64, .inl leu_59)), (Aed, .inr (1, [.ref Bed, .int ned_62])), (Bed, .inl (cI, 64, .inl led_61)), (Af, .inr (0, [.ref Afu, .ref Afd])), (Afu, .inr (1, [.ref Bfu, .int nfu_64])), (Bfu, .inl (cI, 64, .inl lfu_63)), (Afd, .inr (1, [.ref Bfd, .int nfd_66])), (Bfd, .inl (cI, 64, .inl lfd_65)), (Bn3, .inl (cJ, 1, .inr (.inl out_86)))]) (wn := fun u : (Int32) => (wLaw cI cJ An1 Bx Aw As Asm Bsm Ast Bst Ag Agu Bgu Agd Bgd Ae Aeu Beu Aed Bed Af Afu Bfu Afd Bfd An2 Bmr Bfg Bln Btp Bbl Btr Bwh Bn3 row_44 rc_45 wa_46 wb_47 wlo_48 whi_49 wtot_50 lsm_51 nsm_52 lst_53 nst_54 lgu_55 ngu_56 lgd_57 ngd_58 leu_59 neu_60 led_61 ned_62 lfu_63 nfu_64 lfd_65 nfd_66 ans_67 rfc_68 rfb_69 mrow_70 mrs_71 ma_72 mb_73 mlo_74 mhi_75 man_76 mtl_77 mtm_78 fig_79 len_80 top_81 bel_82 u trm_84 who_85 out_86)) rfl rfl (by decide) (by decide) (by decide) (by decide) (fun _ => rfl) (rest := [.long r_154]) (q0 := 0) rfl rfl rfl hl.1 rfl (Nat.le_of_ble_eq_true rfl) (by show _ ≤ 171; omega) (by show _ ≤ 7464; omega) dL_law_410 (fun r_155 u H locs hw hP hD hS => ?_)
        obtain ⟨thr_156, rfl⟩ : ∃ z, z = u := ⟨_, rfl⟩
        have hP : va_P G vwCl (wLaw cI cJ An1 Bx Aw As Asm Bsm Ast Bst Ag Agu Bgu Agd Bgd Ae Aeu Beu Aed Bed Af Afu Bfu Afd Bfd An2 Bmr Bfg Bln Btp Bbl Btr Bwh Bn3 row_44 rc_45 wa_46 wb_47 wlo_48 whi_49 wtot_50 lsm_51 nsm_52 lst_53 nst_54 lgu_55 ngu_56 lgd_57 ngd_58 leu_59 neu_60 led_61 ned_62 lfu_63 nfu_64 lfd_65 nfd_66 ans_67 rfc_68 rfb_69 mrow_70 mrs_71 ma_72 mb_73 mlo_74 mhi_75 man_76 mtl_77 mtm_78 fig_79 len_80 top_81 bel_82 thr_156 trm_84 who_85 out_86) H := hP
        have hD : va_D A (wLaw cI cJ An1 Bx Aw As Asm Bsm Ast Bst Ag Agu Bgu Agd Bgd Ae Aeu Beu Aed Bed Af Afu Bfu Afd Bfd An2 Bmr Bfg Bln Btp Bbl Btr Bwh Bn3 row_44 rc_45 wa_46 wb_47 wlo_48 whi_49 wtot_50 lsm_51 nsm_52 lst_53 nst_54 lgu_55 ngu_56 lgd_57 ngd_58 leu_59 neu_60 led_61 ned_62 lfu_63 nfu_64 lfd_65 nfd_66 ans_67 rfc_68 rfb_69 mrow_70 mrs_71 ma_72 mb_73 mlo_74 mhi_75 man_76 mtl_77 mtm_78 fig_79 len_80 top_81 bel_82 thr_156 trm_84 who_85 out_86) := hD
        refine k_lif_eq (tgt := 1095) hx hb dL_law_413 dL_law_414 (by decide) (fun c_158 => ?_) (fun c_158 => ?_)
        · have hw := hw.1 c_158
          obtain ⟨i4_157, ei4_157⟩ : ∃ y : Int32, y = i4_43 + 7 := ⟨_, rfl⟩
          have hw := hw i4_157 ei4_157
          refine lv_iinc (v := i4_157) (lv' := [(4, .int i4_157), (3, .ref Bn3), (2, .ref An2), (1, .ref An1), (0, .ref bS)]) hx hb dL_law_1095 hl (k := 0) rfl (by rw [ei4_157]; rfl) (by decide) rfl (fun ls hl => ?_)
          refine lv_goto (tgt := 23) hx hb dL_law_1098 (by decide) ?_
          refine W.widen (k := 32 + (kk + 1)) (n := 6374 + 6 * (kk + 1)) (by omega) (by omega) ?_
          exact ihI23_87 _ (by rw [← hNI23_87]; exact hw.2) i4_157 row_44 rc_45 wa_46 wb_47 wlo_48 whi_49 wtot_50 lsm_51 nsm_52 lst_53 nst_54 lgu_55 ngu_56 lgd_57 ngd_58 leu_59 neu_60 led_61 ned_62 lfu_63 nfu_64 lfd_65 nfd_66 ans_67 rfc_68 rfb_69 mrow_70 mrs_71 ma_72 mb_73 mlo_74 mhi_75 man_76 mtl_77 mtm_78 fig_79 len_80 top_81 bel_82 thr_156 trm_84 who_85 out_86 rfl hw.1 (kk + 1) (by omega) (by rw [ei4_157, hik]; exact k_law7 kk) _ _ _ hP hD hS (lv_sub hl [0, 1, 2, 3, 4] rfl)
        · have hw := hw.2 c_158
          refine lv_iconst (v := 0) hx hb dL_law_417 (by decide) ?_
          exact absurd hw (by decide)
      have hw := hw.2 c_153
      by_cases c_159 : v_89 = 7
      · have hw := hw.1 c_159
        refine lv_tableIn (off := 379) (tgt := 419) hx hb dL_law_40 (by rw [c_159]; decide) (by rw [c_159]; decide) (by rw [c_159]; rfl) (by decide) ?_
        refine lv_aload_n hx hb dL_law_419 rfl (lv_at hl 3 rfl) ?_
        refine lv_aload_n hx hb dL_law_420 rfl (lv_at hl 4 rfl) ?_
        refine lv_iload hx hb dL_law_421 (lv_at hl 0 rfl) ?_
        refine lv_iconst (v := 1) hx hb dL_law_423 (by decide) ?_
        refine lv_iadd hx hb dL_law_424 ?_
        obtain ⟨hin, hw⟩ := hw
        refine va_sld hx hb hX hbl hbA hS hin dL_law_425 ?_
        refine lv_aload_n hx hb dL_law_426 rfl (lv_at hl 4 rfl) ?_
        refine lv_iload hx hb dL_law_427 (lv_at hl 0 rfl) ?_
        refine lv_iconst (v := 2) hx hb dL_law_429 (by decide) ?_
        refine lv_iadd hx hb dL_law_430 ?_
        obtain ⟨hin, hw⟩ := hw
        refine va_sld hx hb hX hbl hbA hS hin dL_law_431 ?_
        refine lv_i2l (v := (xs (i4_43 + 2).toNatClampNeg).toInt64) hx hb dL_law_432 rfl ?_
        refine lv_bipush (v := 32) hx hb dL_law_433 (by decide) ?_
        refine lv_lshl (v := ((xs (i4_43 + 2).toNatClampNeg).toInt64) <<< ((32 : Int32).toInt64 &&& 63)) hx hb dL_law_435 rfl ?_
        refine lv_topl (fun v_160 ev_160 => ?_)
        have hw := hw v_160 ev_160
        refine lv_aload_n hx hb dL_law_436 rfl (lv_at hl 4 rfl) ?_
        refine lv_iload hx hb dL_law_437 (lv_at hl 0 rfl) ?_
        refine lv_iconst (v := 3) hx hb dL_law_439 (by decide) ?_
        refine lv_iadd hx hb dL_law_440 ?_
        obtain ⟨hin, hw⟩ := hw
        refine va_sld hx hb hX hbl hbA hS hin dL_law_441 ?_
        refine lv_i2l (v := (xs (i4_43 + 3).toNatClampNeg).toInt64) hx hb dL_law_442 rfl ?_
        refine lv_ldc2 (v := 4294967295) hx hb hown (hts _ fL_law_94) dL_law_443 ?_
        refine lv_land hx hb dL_law_446 ?_
        refine lv_topl (fun v_161 ev_161 => ?_)
        have hw := hw v_161 ev_161
        refine lv_lor hx hb dL_law_447 ?_
        refine lv_aload_n hx hb dL_law_448 rfl (lv_at hl 1 rfl) ?_
        refine k_SW (M_L_draw l hst sa G cI cJ An1 Bx Aw As Asm Bsm Ast Bst Ag Agu Bgu Agd Bgd Ae Aeu Beu Aed Bed Af Afu Bfu Afd Bfd Bn3 row_44 rc_45 wa_46 wb_47 wlo_48 whi_49 wtot_50 lsm_51 nsm_52 lst_53 nst_54 lgu_55 ngu_56 lgd_57 ngd_58 leu_59 neu_60 led_61 ned_62 lfu_63 nfu_64 lfd_65 nfd_66 ans_67 rfc_68 rfb_69 out_86 (xs (i4_43 + 1).toNatClampNeg) (v_160 ||| v_161) _ hw) ⟨hx, hb, hml, hown, hts⟩ (vx_cwSW 4 hts gL_law_L_draw rfl rfl rfl (by decide +kernel) ⟨(Nat.le_of_ble_eq_true rfl), (Nat.le_of_ble_eq_true rfl)⟩) hK hP hD hS hA hE [0, 1, 2, 3, 4, 5, 6, 7, 8, 9, 10, 11, 12, 13, 14, 15, 16, 17, 18, 19, 20, 21, 22, 31] [23, 24, 25, 26, 27, 28, 29, 30] [8, 9, 10, 11, 12, 13, 14, 15, 16, 17, 18, 19, 20, 21, 22, 23, 24, 25, 26, 27, 28, 29, 30, 0, 1, 2, 3, 4, 5, 6, 7, 31] (wr := [(An2, .inr (5, [.ref Bmr, .int mrs_71, .int ma_72, .int mb_73, .int mlo_74, .int mhi_75, .int man_76, .int mtl_77, .int mtm_78, .ref Bfg, .ref Bln, .ref Btp, .ref Bbl, .int thr_83, .ref Btr, .ref Bwh])), (Bmr, .inl (cI, 60, .inl mrow_70)), (Bfg, .inl (cJ, 4608, .inr (.inl fig_79))), (Bln, .inl (cI, 18, .inl len_80)), (Btp, .inl (cJ, 520, .inr (.inl top_81))), (Bbl, .inl (cJ, 520, .inr (.inl bel_82))), (Btr, .inl (cI, 10, .inl trm_84)), (Bwh, .inl (cI, 10, .inl who_85))]) (wn := fun u : (Nat → Int64) => (wLaw cI cJ An1 Bx Aw As Asm Bsm Ast Bst Ag Agu Bgu Agd Bgd Ae Aeu Beu Aed Bed Af Afu Bfu Afd Bfd An2 Bmr Bfg Bln Btp Bbl Btr Bwh Bn3 row_44 rc_45 wa_46 wb_47 wlo_48 whi_49 wtot_50 lsm_51 nsm_52 lst_53 nst_54 lgu_55 ngu_56 lgd_57 ngd_58 leu_59 neu_60 led_61 ned_62 lfu_63 nfu_64 lfd_65 nfd_66 ans_67 rfc_68 rfb_69 mrow_70 mrs_71 ma_72 mb_73 mlo_74 mhi_75 man_76 mtl_77 mtm_78 fig_79 len_80 top_81 bel_82 thr_83 trm_84 who_85 u)) rfl rfl (by decide) (by decide) (by decide) (by decide) (fun _ => rfl) (rest := []) rfl hl.1 rfl (Nat.le_of_ble_eq_true rfl) (by show _ ≤ 171; omega) (by show _ ≤ 7464; omega) dL_law_449 (fun r_162 u H locs hw hP hD hS => ?_)
        obtain ⟨out_163, rfl⟩ : ∃ z, z = u := ⟨_, rfl⟩
        have hP : va_P G vwCl (wLaw cI cJ An1 Bx Aw As Asm Bsm Ast Bst Ag Agu Bgu Agd Bgd Ae Aeu Beu Aed Bed Af Afu Bfu Afd Bfd An2 Bmr Bfg Bln Btp Bbl Btr Bwh Bn3 row_44 rc_45 wa_46 wb_47 wlo_48 whi_49 wtot_50 lsm_51 nsm_52 lst_53 nst_54 lgu_55 ngu_56 lgd_57 ngd_58 leu_59 neu_60 led_61 ned_62 lfu_63 nfu_64 lfd_65 nfd_66 ans_67 rfc_68 rfb_69 mrow_70 mrs_71 ma_72 mb_73 mlo_74 mhi_75 man_76 mtl_77 mtm_78 fig_79 len_80 top_81 bel_82 thr_83 trm_84 who_85 out_163) H := hP
        have hD : va_D A (wLaw cI cJ An1 Bx Aw As Asm Bsm Ast Bst Ag Agu Bgu Agd Bgd Ae Aeu Beu Aed Bed Af Afu Bfu Afd Bfd An2 Bmr Bfg Bln Btp Bbl Btr Bwh Bn3 row_44 rc_45 wa_46 wb_47 wlo_48 whi_49 wtot_50 lsm_51 nsm_52 lst_53 nst_54 lgu_55 ngu_56 lgd_57 ngd_58 leu_59 neu_60 led_61 ned_62 lfu_63 nfu_64 lfd_65 nfd_66 ans_67 rfc_68 rfb_69 mrow_70 mrs_71 ma_72 mb_73 mlo_74 mhi_75 man_76 mtl_77 mtm_78 fig_79 len_80 top_81 bel_82 thr_83 trm_84 who_85 out_163) := hD
        refine lv_istore (lv' := [(5, .int r_162), (4, .int i4_43), (3, .ref Bn3), (2, .ref An2), (1, .ref An1), (0, .ref bS)]) hx hb dL_law_452 hl (by decide) rfl (fun ls hl => ?_)
        refine lv_aload_n hx hb dL_law_454 rfl (lv_at hl 3 rfl) ?_
        refine lv_aload_n hx hb dL_law_455 rfl (lv_at hl 5 rfl) ?_
        refine lv_iload hx hb dL_law_456 (lv_at hl 1 rfl) ?_
        refine lv_iconst (v := 1) hx hb dL_law_458 (by decide) ?_
        refine lv_iadd hx hb dL_law_459 ?_
        obtain ⟨hin, hw⟩ := hw
        refine va_sld hx hb hX hbl hbA hS hin dL_law_460 ?_
        refine lv_aload_n hx hb dL_law_461 rfl (lv_at hl 5 rfl) ?_
        refine lv_iload hx hb dL_law_462 (lv_at hl 1 rfl) ?_
        refine lv_iconst (v := 2) hx hb dL_law_464 (by decide) ?_
        refine lv_iadd hx hb dL_law_465 ?_
        obtain ⟨hin, hw⟩ := hw
        refine va_sld hx hb hX hbl hbA hS hin dL_law_466 ?_
        refine lv_i2l (v := (xs (i4_43 + 2).toNatClampNeg).toInt64) hx hb dL_law_467 rfl ?_
        refine lv_bipush (v := 32) hx hb dL_law_468 (by decide) ?_
        refine lv_lshl (v := ((xs (i4_43 + 2).toNatClampNeg).toInt64) <<< ((32 : Int32).toInt64 &&& 63)) hx hb dL_law_470 rfl ?_
        refine lv_topl (fun v_164 ev_164 => ?_)
        have hw := hw v_164 ev_164
        refine lv_aload_n hx hb dL_law_471 rfl (lv_at hl 5 rfl) ?_
        refine lv_iload hx hb dL_law_472 (lv_at hl 1 rfl) ?_
        refine lv_iconst (v := 3) hx hb dL_law_474 (by decide) ?_
        refine lv_iadd hx hb dL_law_475 ?_
        obtain ⟨hin, hw⟩ := hw
        refine va_sld hx hb hX hbl hbA hS hin dL_law_476 ?_
        refine lv_i2l (v := (xs (i4_43 + 3).toNatClampNeg).toInt64) hx hb dL_law_477 rfl ?_
        refine lv_ldc2 (v := 4294967295) hx hb hown (hts _ fL_law_94) dL_law_478 ?_
        refine lv_land hx hb dL_law_481 ?_
        refine lv_topl (fun v_165 ev_165 => ?_)
        have hw := hw v_165 ev_165
        refine lv_lor hx hb dL_law_482 ?_
        refine k_Vi (M_X5_draw l G cI cJ An2 Bmr Bfg Bln Btp Bbl Btr Bwh mrow_70 mrs_71 ma_72 mb_73 mlo_74 mhi_75 man_76 mtl_77 mtm_78 fig_79 len_80 top_81 bel_82 thr_83 trm_84 who_85 (xs (i4_43 + 1).toNatClampNeg) (v_164 ||| v_165) _ hw) ⟨hx, hb, hml, hown, hts⟩ (cwV 2 hts gL_law_X5_draw rfl rfl rfl (by decide +kernel) ⟨Nat.le_of_ble_eq_true rfl, Nat.le_of_ble_eq_true rfl⟩) hK hP hD hS hA [23, 24, 25, 26, 27, 28, 29, 30] [0, 1, 2, 3, 4, 5, 6, 7, 8, 9, 10, 11, 12, 13, 14, 15, 16, 17, 18, 19, 20, 21, 22, 31] [0, 1, 2, 3, 4, 5, 6, 7, 8, 9, 10, 11, 12, 13, 14, 15, 16, 17, 18, 19, 20, 21, 22, 24, 25, 26, 27, 28, 29, 30, 31, 23] (wr := [(An1, .inr (4, [.ref Bx, .int rc_45, .ref Aw, .ref As, .ref Ag, .ref Ae, .ref Af, .int ans_67, .int rfc_68, .int rfb_69])), (Bx, .inl (cI, 60, .inl row_44)), (Aw, .inr (3, [.int wa_46, .int wb_47, .int wlo_48, .int whi_49, .long wtot_50])), (As, .inr (2, [.ref Asm, .ref Ast])), (Asm, .inr (1, [.ref Bsm, .int nsm_52])), (Bsm, .inl (cI, 64, .inl lsm_51)), (Ast, .inr (1, [.ref Bst, .int nst_54])), (Bst, .inl (cI, 64, .inl lst_53)), (Ag, .inr (0, [.ref Agu, .ref Agd])), (Agu, .inr (1, [.ref Bgu, .int ngu_56])), (Bgu, .inl (cI, 64, .inl lgu_55)), (Agd, .inr (1, [.ref Bgd, .int ngd_58])), (Bgd, .inl (cI, 64, .inl lgd_57)), (Ae, .inr (0, [.ref Aeu, .ref Aed])), (Aeu, .inr (1, [.ref Beu, .int neu_60])), (Beu, .inl (cI, 64, .inl leu_59)), (Aed, .inr (1, [.ref Bed, .int ned_62])), (Bed, .inl (cI, 64, .inl led_61)), (Af, .inr (0, [.ref Afu, .ref Afd])), (Afu, .inr (1, [.ref Bfu, .int nfu_64])), (Bfu, .inl (cI, 64, .inl lfu_63)), (Afd, .inr (1, [.ref Bfd, .int nfd_66])), (Bfd, .inl (cI, 64, .inl lfd_65)), (Bn3, .inl (cJ, 1, .inr (.inl out_163)))]) (wn := fun u : (Int32) => (wLaw cI cJ An1 Bx Aw As Asm Bsm Ast Bst Ag Agu Bgu Agd Bgd Ae Aeu Beu Aed Bed Af Afu Bfu Afd Bfd An2 Bmr Bfg Bln Btp Bbl Btr Bwh Bn3 row_44 rc_45 wa_46 wb_47 wlo_48 whi_49 wtot_50 lsm_51 nsm_52 lst_53 nst_54 lgu_55 ngu_56 lgd_57 ngd_58 leu_59 neu_60 led_61 ned_62 lfu_63 nfu_64 lfd_65 nfd_66 ans_67 rfc_68 rfb_69 mrow_70 mrs_71 ma_72 mb_73 mlo_74 mhi_75 man_76 mtl_77 mtm_78 fig_79 len_80 top_81 bel_82 u trm_84 who_85 out_163)) rfl rfl (by decide) (by decide) (by decide) (by decide) (fun _ => rfl) (rest := []) (q0 := 0) rfl rfl rfl hl.1 rfl (Nat.le_of_ble_eq_true rfl) (by show _ ≤ 171; omega) (by show _ ≤ 7464; omega) dL_law_483 (fun r_166 u H locs hw hP hD hS => ?_)
        obtain ⟨thr_167, rfl⟩ : ∃ z, z = u := ⟨_, rfl⟩
        have hP : va_P G vwCl (wLaw cI cJ An1 Bx Aw As Asm Bsm Ast Bst Ag Agu Bgu Agd Bgd Ae Aeu Beu Aed Bed Af Afu Bfu Afd Bfd An2 Bmr Bfg Bln Btp Bbl Btr Bwh Bn3 row_44 rc_45 wa_46 wb_47 wlo_48 whi_49 wtot_50 lsm_51 nsm_52 lst_53 nst_54 lgu_55 ngu_56 lgd_57 ngd_58 leu_59 neu_60 led_61 ned_62 lfu_63 nfu_64 lfd_65 nfd_66 ans_67 rfc_68 rfb_69 mrow_70 mrs_71 ma_72 mb_73 mlo_74 mhi_75 man_76 mtl_77 mtm_78 fig_79 len_80 top_81 bel_82 thr_167 trm_84 who_85 out_163) H := hP
        have hD : va_D A (wLaw cI cJ An1 Bx Aw As Asm Bsm Ast Bst Ag Agu Bgu Agd Bgd Ae Aeu Beu Aed Bed Af Afu Bfu Afd Bfd An2 Bmr Bfg Bln Btp Bbl Btr Bwh Bn3 row_44 rc_45 wa_46 wb_47 wlo_48 whi_49 wtot_50 lsm_51 nsm_52 lst_53 nst_54 lgu_55 ngu_56 lgd_57 ngd_58 leu_59 neu_60 led_61 ned_62 lfu_63 nfu_64 lfd_65 nfd_66 ans_67 rfc_68 rfb_69 mrow_70 mrs_71 ma_72 mb_73 mlo_74 mhi_75 man_76 mtl_77 mtm_78 fig_79 len_80 top_81 bel_82 thr_167 trm_84 who_85 out_163) := hD
        refine lv_istore (lv' := [(6, .int r_166), (5, .int r_162), (4, .int i4_43), (3, .ref Bn3), (2, .ref An2), (1, .ref An1), (0, .ref bS)]) hx hb dL_law_486 hl (by decide) rfl (fun ls hl => ?_)
        refine lv_aload_n hx hb dL_law_488 rfl (lv_at hl 4 rfl) ?_
        refine k_Vi (M_X5_thrown l G cI cJ An2 Bmr Bfg Bln Btp Bbl Btr Bwh mrow_70 mrs_71 ma_72 mb_73 mlo_74 mhi_75 man_76 mtl_77 mtm_78 fig_79 len_80 top_81 bel_82 thr_167 trm_84 who_85 _ hw) ⟨hx, hb, hml, hown, hts⟩ (cwV 0 hts gL_law_X5_thrown rfl rfl rfl (by decide +kernel) ⟨Nat.le_of_ble_eq_true rfl, Nat.le_of_ble_eq_true rfl⟩) hK hP hD hS hA [23, 24, 25, 26, 27, 28, 29, 30] [0, 1, 2, 3, 4, 5, 6, 7, 8, 9, 10, 11, 12, 13, 14, 15, 16, 17, 18, 19, 20, 21, 22, 31] [0, 1, 2, 3, 4, 5, 6, 7, 8, 9, 10, 11, 12, 13, 14, 15, 16, 17, 18, 19, 20, 21, 22, 24, 25, 26, 27, 28, 29, 30, 31, 23] (wr := [(An1, .inr (4, [.ref Bx, .int rc_45, .ref Aw, .ref As, .ref Ag, .ref Ae, .ref Af, .int ans_67, .int rfc_68, .int rfb_69])), (Bx, .inl (cI, 60, .inl row_44)), (Aw, .inr (3, [.int wa_46, .int wb_47, .int wlo_48, .int whi_49, .long wtot_50])), (As, .inr (2, [.ref Asm, .ref Ast])), (Asm, .inr (1, [.ref Bsm, .int nsm_52])), (Bsm, .inl (cI, 64, .inl lsm_51)), (Ast, .inr (1, [.ref Bst, .int nst_54])), (Bst, .inl (cI, 64, .inl lst_53)), (Ag, .inr (0, [.ref Agu, .ref Agd])), (Agu, .inr (1, [.ref Bgu, .int ngu_56])), (Bgu, .inl (cI, 64, .inl lgu_55)), (Agd, .inr (1, [.ref Bgd, .int ngd_58])), (Bgd, .inl (cI, 64, .inl lgd_57)), (Ae, .inr (0, [.ref Aeu, .ref Aed])), (Aeu, .inr (1, [.ref Beu, .int neu_60])), (Beu, .inl (cI, 64, .inl leu_59)), (Aed, .inr (1, [.ref Bed, .int ned_62])), (Bed, .inl (cI, 64, .inl led_61)), (Af, .inr (0, [.ref Afu, .ref Afd])), (Afu, .inr (1, [.ref Bfu, .int nfu_64])), (Bfu, .inl (cI, 64, .inl lfu_63)), (Afd, .inr (1, [.ref Bfd, .int nfd_66])), (Bfd, .inl (cI, 64, .inl lfd_65)), (Bn3, .inl (cJ, 1, .inr (.inl out_163)))]) (wn := fun u : Unit => (wLaw cI cJ An1 Bx Aw As Asm Bsm Ast Bst Ag Agu Bgu Agd Bgd Ae Aeu Beu Aed Bed Af Afu Bfu Afd Bfd An2 Bmr Bfg Bln Btp Bbl Btr Bwh Bn3 row_44 rc_45 wa_46 wb_47 wlo_48 whi_49 wtot_50 lsm_51 nsm_52 lst_53 nst_54 lgu_55 ngu_56 lgd_57 ngd_58 leu_59 neu_60 led_61 ned_62 lfu_63 nfu_64 lfd_65 nfd_66 ans_67 rfc_68 rfb_69 mrow_70 mrs_71 ma_72 mb_73 mlo_74 mhi_75 man_76 mtl_77 mtm_78 fig_79 len_80 top_81 bel_82 thr_167 trm_84 who_85 out_163)) rfl rfl (by decide) (by decide) (by decide) (by decide) (fun _ => rfl) (rest := []) (q0 := 0) rfl rfl rfl hl.1 rfl (Nat.le_of_ble_eq_true rfl) (by show _ ≤ 171; omega) (by show _ ≤ 7464; omega) dL_law_489 (fun r_168 u H locs hw hP hD hS => ?_)
        refine lv_iload hx hb dL_law_492 (lv_at hl 1 rfl) ?_
        refine lv_icmp_eq (tgt := 499) hx hb dL_law_494 (by decide) (fun c_173 => ?_) (fun c_173 => ?_)
        · have hw := hw.1 c_173
          refine lv_iload hx hb dL_law_499 (lv_at hl 1 rfl) ?_
          refine lv_if_ne (tgt := 516) hx hb dL_law_501 (by decide) (fun c_172 => ?_) (fun c_172 => ?_)
          · have hw := hw.1 c_172
            refine lv_goto (tgt := 1095) hx hb dL_law_516 (by decide) ?_
            obtain ⟨i4_169, ei4_169⟩ : ∃ y : Int32, y = i4_43 + 7 := ⟨_, rfl⟩
            have hw := hw i4_169 ei4_169
            refine lv_iinc (v := i4_169) (lv' := [(4, .int i4_169), (6, .int r_166), (5, .int r_162), (3, .ref Bn3), (2, .ref An2), (1, .ref An1), (0, .ref bS)]) hx hb dL_law_1095 hl (k := 2) rfl (by rw [ei4_169]; rfl) (by decide) rfl (fun ls hl => ?_)
            refine lv_goto (tgt := 23) hx hb dL_law_1098 (by decide) ?_
            refine W.widen (k := 32 + (kk + 1)) (n := 6374 + 6 * (kk + 1)) (by omega) (by omega) ?_
            exact ihI23_87 _ (by rw [← hNI23_87]; exact hw.2) i4_169 row_44 rc_45 wa_46 wb_47 wlo_48 whi_49 wtot_50 lsm_51 nsm_52 lst_53 nst_54 lgu_55 ngu_56 lgd_57 ngd_58 leu_59 neu_60 led_61 ned_62 lfu_63 nfu_64 lfd_65 nfd_66 ans_67 rfc_68 rfb_69 mrow_70 mrs_71 ma_72 mb_73 mlo_74 mhi_75 man_76 mtl_77 mtm_78 fig_79 len_80 top_81 bel_82 thr_167 trm_84 who_85 out_163 rfl hw.1 (kk + 1) (by omega) (by rw [ei4_169, hik]; exact k_law7 kk) _ _ _ hP hD hS (lv_sub hl [0, 3, 4, 5, 6] rfl)
          · have hw := hw.2 c_172
            refine lv_aload_n hx hb dL_law_504 rfl (lv_at hl 3 rfl) ?_
            refine lv_iconst (v := 0) hx hb dL_law_505 (by decide) ?_
            obtain ⟨hin, hw⟩ := hw
            refine k_lald hx hb hK hP 31 rfl hin dL_law_506 ?_
            refine lv_iload hx hb dL_law_507 (lv_at hl 0 rfl) ?_
            refine lv_i2l (v := r_166.toInt64) hx hb dL_law_509 rfl ?_
            refine k_lif_eq (tgt := 516) hx hb dL_law_510 dL_law_511 (by decide) (fun c_171 => ?_) (fun c_171 => ?_)
            · have hw := hw.1 c_171
              refine lv_goto (tgt := 1095) hx hb dL_law_516 (by decide) ?_
              obtain ⟨i4_170, ei4_170⟩ : ∃ y : Int32, y = i4_43 + 7 := ⟨_, rfl⟩
              have hw := hw i4_170 ei4_170
              refine lv_iinc (v := i4_170) (lv' := [(4, .int i4_170), (6, .int r_166), (5, .int r_162), (3, .ref Bn3), (2, .ref An2), (1, .ref An1), (0, .ref bS)]) hx hb dL_law_1095 hl (k := 2) rfl (by rw [ei4_170]; rfl) (by decide) rfl (fun ls hl => ?_)
              refine lv_goto (tgt := 23) hx hb dL_law_1098 (by decide) ?_
              refine W.widen (k := 32 + (kk + 1)) (n := 6374 + 6 * (kk + 1)) (by omega) (by omega) ?_
              exact ihI23_87 _ (by rw [← hNI23_87]; exact hw.2) i4_170 row_44 rc_45 wa_46 wb_47 wlo_48 whi_49 wtot_50 lsm_51 nsm_52 lst_53 nst_54 lgu_55 ngu_56 lgd_57 ngd_58 leu_59 neu_60 led_61 ned_62 lfu_63 nfu_64 lfd_65 nfd_66 ans_67 rfc_68 rfb_69 mrow_70 mrs_71 ma_72 mb_73 mlo_74 mhi_75 man_76 mtl_77 mtm_78 fig_79 len_80 top_81 bel_82 thr_167 trm_84 who_85 out_163 rfl hw.1 (kk + 1) (by omega) (by rw [ei4_170, hik]; exact k_law7 kk) _ _ _ hP hD hS (lv_sub hl [0, 3, 4, 5, 6] rfl)
            · have hw := hw.2 c_171
              refine lv_iconst (v := 0) hx hb dL_law_514 (by decide) ?_
              exact absurd hw (by decide)
        · have hw := hw.2 c_173
          refine lv_iconst (v := 0) hx hb dL_law_497 (by decide) ?_
          exact absurd hw (by decide)
      have hw := hw.2 c_159
      by_cases c_174 : v_89 = 8
      · have hw := hw.1 c_174
        refine lv_tableIn (off := 479) (tgt := 519) hx hb dL_law_40 (by rw [c_174]; decide) (by rw [c_174]; decide) (by rw [c_174]; rfl) (by decide) ?_
        refine lv_aload_n hx hb dL_law_519 rfl (lv_at hl 3 rfl) ?_
        refine lv_aload_n hx hb dL_law_520 rfl (lv_at hl 4 rfl) ?_
        refine lv_iload hx hb dL_law_521 (lv_at hl 0 rfl) ?_
        refine lv_iconst (v := 1) hx hb dL_law_523 (by decide) ?_
        refine lv_iadd hx hb dL_law_524 ?_
        obtain ⟨hin, hw⟩ := hw
        refine va_sld hx hb hX hbl hbA hS hin dL_law_525 ?_
        refine lv_aload_n hx hb dL_law_526 rfl (lv_at hl 4 rfl) ?_
        refine lv_iload hx hb dL_law_527 (lv_at hl 0 rfl) ?_
        refine lv_iconst (v := 2) hx hb dL_law_529 (by decide) ?_
        refine lv_iadd hx hb dL_law_530 ?_
        obtain ⟨hin, hw⟩ := hw
        refine va_sld hx hb hX hbl hbA hS hin dL_law_531 ?_
        refine lv_aload_n hx hb dL_law_532 rfl (lv_at hl 1 rfl) ?_
        refine k_SW (M_L_isNear l hst sa G cI cJ An1 Bx Aw As Asm Bsm Ast Bst Ag Agu Bgu Agd Bgd Ae Aeu Beu Aed Bed Af Afu Bfu Afd Bfd Bn3 row_44 rc_45 wa_46 wb_47 wlo_48 whi_49 wtot_50 lsm_51 nsm_52 lst_53 nst_54 lgu_55 ngu_56 lgd_57 ngd_58 leu_59 neu_60 led_61 ned_62 lfu_63 nfu_64 lfd_65 nfd_66 ans_67 rfc_68 rfb_69 out_86 (xs (i4_43 + 1).toNatClampNeg) (xs (i4_43 + 2).toNatClampNeg) _ hw) ⟨hx, hb, hml, hown, hts⟩ (vx_cwSW 4 hts gL_law_L_isNear rfl rfl rfl (by decide +kernel) ⟨(Nat.le_of_ble_eq_true rfl), (Nat.le_of_ble_eq_true rfl)⟩) hK hP hD hS hA hE [0, 1, 2, 3, 4, 5, 6, 7, 8, 9, 10, 11, 12, 13, 14, 15, 16, 17, 18, 19, 20, 21, 22, 31] [23, 24, 25, 26, 27, 28, 29, 30] [8, 9, 10, 11, 12, 13, 14, 15, 16, 17, 18, 19, 20, 21, 22, 23, 24, 25, 26, 27, 28, 29, 30, 0, 1, 2, 3, 4, 5, 6, 7, 31] (wr := [(An2, .inr (5, [.ref Bmr, .int mrs_71, .int ma_72, .int mb_73, .int mlo_74, .int mhi_75, .int man_76, .int mtl_77, .int mtm_78, .ref Bfg, .ref Bln, .ref Btp, .ref Bbl, .int thr_83, .ref Btr, .ref Bwh])), (Bmr, .inl (cI, 60, .inl mrow_70)), (Bfg, .inl (cJ, 4608, .inr (.inl fig_79))), (Bln, .inl (cI, 18, .inl len_80)), (Btp, .inl (cJ, 520, .inr (.inl top_81))), (Bbl, .inl (cJ, 520, .inr (.inl bel_82))), (Btr, .inl (cI, 10, .inl trm_84)), (Bwh, .inl (cI, 10, .inl who_85))]) (wn := fun u : (Nat → Int64) => (wLaw cI cJ An1 Bx Aw As Asm Bsm Ast Bst Ag Agu Bgu Agd Bgd Ae Aeu Beu Aed Bed Af Afu Bfu Afd Bfd An2 Bmr Bfg Bln Btp Bbl Btr Bwh Bn3 row_44 rc_45 wa_46 wb_47 wlo_48 whi_49 wtot_50 lsm_51 nsm_52 lst_53 nst_54 lgu_55 ngu_56 lgd_57 ngd_58 leu_59 neu_60 led_61 ned_62 lfu_63 nfu_64 lfd_65 nfd_66 ans_67 rfc_68 rfb_69 mrow_70 mrs_71 ma_72 mb_73 mlo_74 mhi_75 man_76 mtl_77 mtm_78 fig_79 len_80 top_81 bel_82 thr_83 trm_84 who_85 u)) rfl rfl (by decide) (by decide) (by decide) (by decide) (fun _ => rfl) (rest := []) rfl hl.1 rfl (Nat.le_of_ble_eq_true rfl) (by show _ ≤ 171; omega) (by show _ ≤ 7464; omega) dL_law_533 (fun r_175 u H locs hw hP hD hS => ?_)
        obtain ⟨out_176, rfl⟩ : ∃ z, z = u := ⟨_, rfl⟩
        have hP : va_P G vwCl (wLaw cI cJ An1 Bx Aw As Asm Bsm Ast Bst Ag Agu Bgu Agd Bgd Ae Aeu Beu Aed Bed Af Afu Bfu Afd Bfd An2 Bmr Bfg Bln Btp Bbl Btr Bwh Bn3 row_44 rc_45 wa_46 wb_47 wlo_48 whi_49 wtot_50 lsm_51 nsm_52 lst_53 nst_54 lgu_55 ngu_56 lgd_57 ngd_58 leu_59 neu_60 led_61 ned_62 lfu_63 nfu_64 lfd_65 nfd_66 ans_67 rfc_68 rfb_69 mrow_70 mrs_71 ma_72 mb_73 mlo_74 mhi_75 man_76 mtl_77 mtm_78 fig_79 len_80 top_81 bel_82 thr_83 trm_84 who_85 out_176) H := hP
        have hD : va_D A (wLaw cI cJ An1 Bx Aw As Asm Bsm Ast Bst Ag Agu Bgu Agd Bgd Ae Aeu Beu Aed Bed Af Afu Bfu Afd Bfd An2 Bmr Bfg Bln Btp Bbl Btr Bwh Bn3 row_44 rc_45 wa_46 wb_47 wlo_48 whi_49 wtot_50 lsm_51 nsm_52 lst_53 nst_54 lgu_55 ngu_56 lgd_57 ngd_58 leu_59 neu_60 led_61 ned_62 lfu_63 nfu_64 lfd_65 nfd_66 ans_67 rfc_68 rfb_69 mrow_70 mrs_71 ma_72 mb_73 mlo_74 mhi_75 man_76 mtl_77 mtm_78 fig_79 len_80 top_81 bel_82 thr_83 trm_84 who_85 out_176) := hD
        refine lv_istore (lv' := [(5, .int r_175), (4, .int i4_43), (3, .ref Bn3), (2, .ref An2), (1, .ref An1), (0, .ref bS)]) hx hb dL_law_536 hl (by decide) rfl (fun ls hl => ?_)
        refine lv_aload_n hx hb dL_law_538 rfl (lv_at hl 3 rfl) ?_
        refine lv_aload_n hx hb dL_law_539 rfl (lv_at hl 5 rfl) ?_
        refine lv_iload hx hb dL_law_540 (lv_at hl 1 rfl) ?_
        refine lv_iconst (v := 1) hx hb dL_law_542 (by decide) ?_
        refine lv_iadd hx hb dL_law_543 ?_
        obtain ⟨hin, hw⟩ := hw
        refine va_sld hx hb hX hbl hbA hS hin dL_law_544 ?_
        refine lv_aload_n hx hb dL_law_545 rfl (lv_at hl 5 rfl) ?_
        refine lv_iload hx hb dL_law_546 (lv_at hl 1 rfl) ?_
        refine lv_iconst (v := 2) hx hb dL_law_548 (by decide) ?_
        refine lv_iadd hx hb dL_law_549 ?_
        obtain ⟨hin, hw⟩ := hw
        refine va_sld hx hb hX hbl hbA hS hin dL_law_550 ?_
        refine k_Vi (M_X5_isNear l G cI cJ An2 Bmr Bfg Bln Btp Bbl Btr Bwh mrow_70 mrs_71 ma_72 mb_73 mlo_74 mhi_75 man_76 mtl_77 mtm_78 fig_79 len_80 top_81 bel_82 thr_83 trm_84 who_85 (xs (i4_43 + 1).toNatClampNeg) (xs (i4_43 + 2).toNatClampNeg) _ hw) ⟨hx, hb, hml, hown, hts⟩ (cwV 2 hts gL_law_X5_isNear rfl rfl rfl (by decide +kernel) ⟨Nat.le_of_ble_eq_true rfl, Nat.le_of_ble_eq_true rfl⟩) hK hP hD hS hA [23, 24, 25, 26, 27, 28, 29, 30] [0, 1, 2, 3, 4, 5, 6, 7, 8, 9, 10, 11, 12, 13, 14, 15, 16, 17, 18, 19, 20, 21, 22, 31] [0, 1, 2, 3, 4, 5, 6, 7, 8, 9, 10, 11, 12, 13, 14, 15, 16, 17, 18, 19, 20, 21, 22, 24, 25, 26, 27, 28, 29, 30, 31, 23] (wr := [(An1, .inr (4, [.ref Bx, .int rc_45, .ref Aw, .ref As, .ref Ag, .ref Ae, .ref Af, .int ans_67, .int rfc_68, .int rfb_69])), (Bx, .inl (cI, 60, .inl row_44)), (Aw, .inr (3, [.int wa_46, .int wb_47, .int wlo_48, .int whi_49, .long wtot_50])), (As, .inr (2, [.ref Asm, .ref Ast])), (Asm, .inr (1, [.ref Bsm, .int nsm_52])), (Bsm, .inl (cI, 64, .inl lsm_51)), (Ast, .inr (1, [.ref Bst, .int nst_54])), (Bst, .inl (cI, 64, .inl lst_53)), (Ag, .inr (0, [.ref Agu, .ref Agd])), (Agu, .inr (1, [.ref Bgu, .int ngu_56])), (Bgu, .inl (cI, 64, .inl lgu_55)), (Agd, .inr (1, [.ref Bgd, .int ngd_58])), (Bgd, .inl (cI, 64, .inl lgd_57)), (Ae, .inr (0, [.ref Aeu, .ref Aed])), (Aeu, .inr (1, [.ref Beu, .int neu_60])), (Beu, .inl (cI, 64, .inl leu_59)), (Aed, .inr (1, [.ref Bed, .int ned_62])), (Bed, .inl (cI, 64, .inl led_61)), (Af, .inr (0, [.ref Afu, .ref Afd])), (Afu, .inr (1, [.ref Bfu, .int nfu_64])), (Bfu, .inl (cI, 64, .inl lfu_63)), (Afd, .inr (1, [.ref Bfd, .int nfd_66])), (Bfd, .inl (cI, 64, .inl lfd_65)), (Bn3, .inl (cJ, 1, .inr (.inl out_176)))]) (wn := fun u : (Int32) => (wLaw cI cJ An1 Bx Aw As Asm Bsm Ast Bst Ag Agu Bgu Agd Bgd Ae Aeu Beu Aed Bed Af Afu Bfu Afd Bfd An2 Bmr Bfg Bln Btp Bbl Btr Bwh Bn3 row_44 rc_45 wa_46 wb_47 wlo_48 whi_49 wtot_50 lsm_51 nsm_52 lst_53 nst_54 lgu_55 ngu_56 lgd_57 ngd_58 leu_59 neu_60 led_61 ned_62 lfu_63 nfu_64 lfd_65 nfd_66 ans_67 rfc_68 rfb_69 mrow_70 mrs_71 ma_72 mb_73 mlo_74 mhi_75 man_76 mtl_77 mtm_78 fig_79 len_80 top_81 bel_82 u trm_84 who_85 out_176)) rfl rfl (by decide) (by decide) (by decide) (by decide) (fun _ => rfl) (rest := []) (q0 := 0) rfl rfl rfl hl.1 rfl (Nat.le_of_ble_eq_true rfl) (by show _ ≤ 171; omega) (by show _ ≤ 7464; omega) dL_law_551 (fun r_177 u H locs hw hP hD hS => ?_)
        obtain ⟨hzr_177, hw⟩ := hw
        obtain ⟨thr_178, rfl⟩ : ∃ z, z = u := ⟨_, rfl⟩
        have hP : va_P G vwCl (wLaw cI cJ An1 Bx Aw As Asm Bsm Ast Bst Ag Agu Bgu Agd Bgd Ae Aeu Beu Aed Bed Af Afu Bfu Afd Bfd An2 Bmr Bfg Bln Btp Bbl Btr Bwh Bn3 row_44 rc_45 wa_46 wb_47 wlo_48 whi_49 wtot_50 lsm_51 nsm_52 lst_53 nst_54 lgu_55 ngu_56 lgd_57 ngd_58 leu_59 neu_60 led_61 ned_62 lfu_63 nfu_64 lfd_65 nfd_66 ans_67 rfc_68 rfb_69 mrow_70 mrs_71 ma_72 mb_73 mlo_74 mhi_75 man_76 mtl_77 mtm_78 fig_79 len_80 top_81 bel_82 thr_178 trm_84 who_85 out_176) H := hP
        have hD : va_D A (wLaw cI cJ An1 Bx Aw As Asm Bsm Ast Bst Ag Agu Bgu Agd Bgd Ae Aeu Beu Aed Bed Af Afu Bfu Afd Bfd An2 Bmr Bfg Bln Btp Bbl Btr Bwh Bn3 row_44 rc_45 wa_46 wb_47 wlo_48 whi_49 wtot_50 lsm_51 nsm_52 lst_53 nst_54 lgu_55 ngu_56 lgd_57 ngd_58 leu_59 neu_60 led_61 ned_62 lfu_63 nfu_64 lfd_65 nfd_66 ans_67 rfc_68 rfb_69 mrow_70 mrs_71 ma_72 mb_73 mlo_74 mhi_75 man_76 mtl_77 mtm_78 fig_79 len_80 top_81 bel_82 thr_178 trm_84 who_85 out_176) := hD
        refine lv_istore (lv' := [(6, .int r_177), (5, .int r_175), (4, .int i4_43), (3, .ref Bn3), (2, .ref An2), (1, .ref An1), (0, .ref bS)]) hx hb dL_law_554 hl (by decide) rfl (fun ls hl => ?_)
        refine lv_aload_n hx hb dL_law_556 rfl (lv_at hl 4 rfl) ?_
        refine k_Vi (M_X5_thrown l G cI cJ An2 Bmr Bfg Bln Btp Bbl Btr Bwh mrow_70 mrs_71 ma_72 mb_73 mlo_74 mhi_75 man_76 mtl_77 mtm_78 fig_79 len_80 top_81 bel_82 thr_178 trm_84 who_85 _ hw) ⟨hx, hb, hml, hown, hts⟩ (cwV 0 hts gL_law_X5_thrown rfl rfl rfl (by decide +kernel) ⟨Nat.le_of_ble_eq_true rfl, Nat.le_of_ble_eq_true rfl⟩) hK hP hD hS hA [23, 24, 25, 26, 27, 28, 29, 30] [0, 1, 2, 3, 4, 5, 6, 7, 8, 9, 10, 11, 12, 13, 14, 15, 16, 17, 18, 19, 20, 21, 22, 31] [0, 1, 2, 3, 4, 5, 6, 7, 8, 9, 10, 11, 12, 13, 14, 15, 16, 17, 18, 19, 20, 21, 22, 24, 25, 26, 27, 28, 29, 30, 31, 23] (wr := [(An1, .inr (4, [.ref Bx, .int rc_45, .ref Aw, .ref As, .ref Ag, .ref Ae, .ref Af, .int ans_67, .int rfc_68, .int rfb_69])), (Bx, .inl (cI, 60, .inl row_44)), (Aw, .inr (3, [.int wa_46, .int wb_47, .int wlo_48, .int whi_49, .long wtot_50])), (As, .inr (2, [.ref Asm, .ref Ast])), (Asm, .inr (1, [.ref Bsm, .int nsm_52])), (Bsm, .inl (cI, 64, .inl lsm_51)), (Ast, .inr (1, [.ref Bst, .int nst_54])), (Bst, .inl (cI, 64, .inl lst_53)), (Ag, .inr (0, [.ref Agu, .ref Agd])), (Agu, .inr (1, [.ref Bgu, .int ngu_56])), (Bgu, .inl (cI, 64, .inl lgu_55)), (Agd, .inr (1, [.ref Bgd, .int ngd_58])), (Bgd, .inl (cI, 64, .inl lgd_57)), (Ae, .inr (0, [.ref Aeu, .ref Aed])), (Aeu, .inr (1, [.ref Beu, .int neu_60])), (Beu, .inl (cI, 64, .inl leu_59)), (Aed, .inr (1, [.ref Bed, .int ned_62])), (Bed, .inl (cI, 64, .inl led_61)), (Af, .inr (0, [.ref Afu, .ref Afd])), (Afu, .inr (1, [.ref Bfu, .int nfu_64])), (Bfu, .inl (cI, 64, .inl lfu_63)), (Afd, .inr (1, [.ref Bfd, .int nfd_66])), (Bfd, .inl (cI, 64, .inl lfd_65)), (Bn3, .inl (cJ, 1, .inr (.inl out_176)))]) (wn := fun u : Unit => (wLaw cI cJ An1 Bx Aw As Asm Bsm Ast Bst Ag Agu Bgu Agd Bgd Ae Aeu Beu Aed Bed Af Afu Bfu Afd Bfd An2 Bmr Bfg Bln Btp Bbl Btr Bwh Bn3 row_44 rc_45 wa_46 wb_47 wlo_48 whi_49 wtot_50 lsm_51 nsm_52 lst_53 nst_54 lgu_55 ngu_56 lgd_57 ngd_58 leu_59 neu_60 led_61 ned_62 lfu_63 nfu_64 lfd_65 nfd_66 ans_67 rfc_68 rfb_69 mrow_70 mrs_71 ma_72 mb_73 mlo_74 mhi_75 man_76 mtl_77 mtm_78 fig_79 len_80 top_81 bel_82 thr_178 trm_84 who_85 out_176)) rfl rfl (by decide) (by decide) (by decide) (by decide) (fun _ => rfl) (rest := []) (q0 := 0) rfl rfl rfl hl.1 rfl (Nat.le_of_ble_eq_true rfl) (by show _ ≤ 171; omega) (by show _ ≤ 7464; omega) dL_law_557 (fun r_179 u H locs hw hP hD hS => ?_)
        refine lv_iload hx hb dL_law_560 (lv_at hl 1 rfl) ?_
        refine lv_icmp_eq (tgt := 567) hx hb dL_law_562 (by decide) (fun c_187 => ?_) (fun c_187 => ?_)
        · have hw := hw.1 c_187
          refine lv_iload hx hb dL_law_567 (lv_at hl 1 rfl) ?_
          refine lv_if_ne (tgt := 591) hx hb dL_law_569 (by decide) (fun c_186 => ?_) (fun c_186 => ?_)
          · have hw := hw.1 c_186
            refine lv_goto (tgt := 1095) hx hb dL_law_591 (by decide) ?_
            obtain ⟨i4_180, ei4_180⟩ : ∃ y : Int32, y = i4_43 + 7 := ⟨_, rfl⟩
            have hw := hw i4_180 ei4_180
            refine lv_iinc (v := i4_180) (lv' := [(4, .int i4_180), (6, .int r_177), (5, .int r_175), (3, .ref Bn3), (2, .ref An2), (1, .ref An1), (0, .ref bS)]) hx hb dL_law_1095 hl (k := 2) rfl (by rw [ei4_180]; rfl) (by decide) rfl (fun ls hl => ?_)
            refine lv_goto (tgt := 23) hx hb dL_law_1098 (by decide) ?_
            refine W.widen (k := 32 + (kk + 1)) (n := 6374 + 6 * (kk + 1)) (by omega) (by omega) ?_
            exact ihI23_87 _ (by rw [← hNI23_87]; exact hw.2) i4_180 row_44 rc_45 wa_46 wb_47 wlo_48 whi_49 wtot_50 lsm_51 nsm_52 lst_53 nst_54 lgu_55 ngu_56 lgd_57 ngd_58 leu_59 neu_60 led_61 ned_62 lfu_63 nfu_64 lfd_65 nfd_66 ans_67 rfc_68 rfb_69 mrow_70 mrs_71 ma_72 mb_73 mlo_74 mhi_75 man_76 mtl_77 mtm_78 fig_79 len_80 top_81 bel_82 thr_178 trm_84 who_85 out_176 rfl hw.1 (kk + 1) (by omega) (by rw [ei4_180, hik]; exact k_law7 kk) _ _ _ hP hD hS (lv_sub hl [0, 3, 4, 5, 6] rfl)
          · have hw := hw.2 c_186
            refine lv_aload_n hx hb dL_law_572 rfl (lv_at hl 3 rfl) ?_
            refine lv_iconst (v := 0) hx hb dL_law_573 (by decide) ?_
            obtain ⟨hin, hw⟩ := hw
            refine k_lald hx hb hK hP 31 rfl hin dL_law_574 ?_
            refine lv_iload hx hb dL_law_575 (lv_at hl 0 rfl) ?_
            refine lv_if_eq (tgt := 584) hx hb dL_law_577 (by decide) (fun c_185 => ?_) (fun c_185 => ?_)
            · have hw := hw.1 c_185
              refine lv_lconst (v := 0) hx hb dL_law_584 (by decide) ?_
              refine k_lif_eq (tgt := 591) hx hb dL_law_585 dL_law_586 (by decide) (fun c_182 => ?_) (fun c_182 => ?_)
              · have hw := hw.1 c_182
                refine lv_goto (tgt := 1095) hx hb dL_law_591 (by decide) ?_
                obtain ⟨i4_181, ei4_181⟩ : ∃ y : Int32, y = i4_43 + 7 := ⟨_, rfl⟩
                have hw := hw i4_181 ei4_181
                refine lv_iinc (v := i4_181) (lv' := [(4, .int i4_181), (6, .int r_177), (5, .int r_175), (3, .ref Bn3), (2, .ref An2), (1, .ref An1), (0, .ref bS)]) hx hb dL_law_1095 hl (k := 2) rfl (by rw [ei4_181]; rfl) (by decide) rfl (fun ls hl => ?_)
                refine lv_goto (tgt := 23) hx hb dL_law_1098 (by decide) ?_
                refine W.widen (k := 32 + (kk + 1)) (n := 6374 + 6 * (kk + 1)) (by omega) (by omega) ?_
                exact ihI23_87 _ (by rw [← hNI23_87]; exact hw.2) i4_181 row_44 rc_45 wa_46 wb_47 wlo_48 whi_49 wtot_50 lsm_51 nsm_52 lst_53 nst_54 lgu_55 ngu_56 lgd_57 ngd_58 leu_59 neu_60 led_61 ned_62 lfu_63 nfu_64 lfd_65 nfd_66 ans_67 rfc_68 rfb_69 mrow_70 mrs_71 ma_72 mb_73 mlo_74 mhi_75 man_76 mtl_77 mtm_78 fig_79 len_80 top_81 bel_82 thr_178 trm_84 who_85 out_176 rfl hw.1 (kk + 1) (by omega) (by rw [ei4_181, hik]; exact k_law7 kk) _ _ _ hP hD hS (lv_sub hl [0, 3, 4, 5, 6] rfl)
              · have hw := hw.2 c_182
                refine lv_iconst (v := 0) hx hb dL_law_589 (by decide) ?_
                exact absurd hw (by decide)
            · have hw := hw.2 c_185
              refine lv_lconst (v := 1) hx hb dL_law_580 (by decide) ?_
              refine lv_goto (tgt := 585) hx hb dL_law_581 (by decide) ?_
              refine k_lif_eq (tgt := 591) hx hb dL_law_585 dL_law_586 (by decide) (fun c_184 => ?_) (fun c_184 => ?_)
              · have hw := hw.1 c_184
                refine lv_goto (tgt := 1095) hx hb dL_law_591 (by decide) ?_
                obtain ⟨i4_183, ei4_183⟩ : ∃ y : Int32, y = i4_43 + 7 := ⟨_, rfl⟩
                have hw := hw i4_183 ei4_183
                refine lv_iinc (v := i4_183) (lv' := [(4, .int i4_183), (6, .int r_177), (5, .int r_175), (3, .ref Bn3), (2, .ref An2), (1, .ref An1), (0, .ref bS)]) hx hb dL_law_1095 hl (k := 2) rfl (by rw [ei4_183]; rfl) (by decide) rfl (fun ls hl => ?_)
                refine lv_goto (tgt := 23) hx hb dL_law_1098 (by decide) ?_
                refine W.widen (k := 32 + (kk + 1)) (n := 6374 + 6 * (kk + 1)) (by omega) (by omega) ?_
                exact ihI23_87 _ (by rw [← hNI23_87]; exact hw.2) i4_183 row_44 rc_45 wa_46 wb_47 wlo_48 whi_49 wtot_50 lsm_51 nsm_52 lst_53 nst_54 lgu_55 ngu_56 lgd_57 ngd_58 leu_59 neu_60 led_61 ned_62 lfu_63 nfu_64 lfd_65 nfd_66 ans_67 rfc_68 rfb_69 mrow_70 mrs_71 ma_72 mb_73 mlo_74 mhi_75 man_76 mtl_77 mtm_78 fig_79 len_80 top_81 bel_82 thr_178 trm_84 who_85 out_176 rfl hw.1 (kk + 1) (by omega) (by rw [ei4_183, hik]; exact k_law7 kk) _ _ _ hP hD hS (lv_sub hl [0, 3, 4, 5, 6] rfl)
              · have hw := hw.2 c_184
                refine lv_iconst (v := 0) hx hb dL_law_589 (by decide) ?_
                exact absurd hw (by decide)
        · have hw := hw.2 c_187
          refine lv_iconst (v := 0) hx hb dL_law_565 (by decide) ?_
          exact absurd hw (by decide)
      have hw := hw.2 c_174
      by_cases c_188 : v_89 = 9
      · have hw := hw.1 c_188
        refine lv_tableIn (off := 554) (tgt := 594) hx hb dL_law_40 (by rw [c_188]; decide) (by rw [c_188]; decide) (by rw [c_188]; rfl) (by decide) ?_
        refine lv_aload_n hx hb dL_law_594 rfl (lv_at hl 3 rfl) ?_
        refine lv_aload_n hx hb dL_law_595 rfl (lv_at hl 4 rfl) ?_
        refine lv_iload hx hb dL_law_596 (lv_at hl 0 rfl) ?_
        refine lv_iconst (v := 1) hx hb dL_law_598 (by decide) ?_
        refine lv_iadd hx hb dL_law_599 ?_
        obtain ⟨hin, hw⟩ := hw
        refine va_sld hx hb hX hbl hbA hS hin dL_law_600 ?_
        refine lv_aload_n hx hb dL_law_601 rfl (lv_at hl 4 rfl) ?_
        refine lv_iload hx hb dL_law_602 (lv_at hl 0 rfl) ?_
        refine lv_iconst (v := 2) hx hb dL_law_604 (by decide) ?_
        refine lv_iadd hx hb dL_law_605 ?_
        obtain ⟨hin, hw⟩ := hw
        refine va_sld hx hb hX hbl hbA hS hin dL_law_606 ?_
        refine k_SW (M_L_budget l hst sa G cI cJ An1 Bx Aw As Asm Bsm Ast Bst Ag Agu Bgu Agd Bgd Ae Aeu Beu Aed Bed Af Afu Bfu Afd Bfd row_44 rc_45 wa_46 wb_47 wlo_48 whi_49 wtot_50 lsm_51 nsm_52 lst_53 nst_54 lgu_55 ngu_56 lgd_57 ngd_58 leu_59 neu_60 led_61 ned_62 lfu_63 nfu_64 lfd_65 nfd_66 ans_67 rfc_68 rfb_69 (xs (i4_43 + 1).toNatClampNeg) (xs (i4_43 + 2).toNatClampNeg) _ hw) ⟨hx, hb, hml, hown, hts⟩ (vx_cwSW 3 hts gL_law_L_budget rfl rfl rfl (by decide +kernel) ⟨(Nat.le_of_ble_eq_true rfl), (Nat.le_of_ble_eq_true rfl)⟩) hK hP hD hS hA hE [0, 1, 2, 3, 4, 5, 6, 7, 8, 9, 10, 11, 12, 13, 14, 15, 16, 17, 18, 19, 20, 21, 22] [23, 24, 25, 26, 27, 28, 29, 30, 31] [9, 10, 11, 12, 13, 14, 15, 16, 17, 18, 19, 20, 21, 22, 23, 24, 25, 26, 27, 28, 29, 30, 31, 0, 1, 2, 3, 4, 5, 6, 7, 8] (wr := [(An2, .inr (5, [.ref Bmr, .int mrs_71, .int ma_72, .int mb_73, .int mlo_74, .int mhi_75, .int man_76, .int mtl_77, .int mtm_78, .ref Bfg, .ref Bln, .ref Btp, .ref Bbl, .int thr_83, .ref Btr, .ref Bwh])), (Bmr, .inl (cI, 60, .inl mrow_70)), (Bfg, .inl (cJ, 4608, .inr (.inl fig_79))), (Bln, .inl (cI, 18, .inl len_80)), (Btp, .inl (cJ, 520, .inr (.inl top_81))), (Bbl, .inl (cJ, 520, .inr (.inl bel_82))), (Btr, .inl (cI, 10, .inl trm_84)), (Bwh, .inl (cI, 10, .inl who_85)), (Bn3, .inl (cJ, 1, .inr (.inl out_86)))]) (wn := fun u : (Nat → Int32) × (Int32) × (Nat → Int32) × (Int32) × (Nat → Int32) × (Int32) × (Nat → Int32) × (Int32) × (Nat → Int32) × (Int32) × (Nat → Int32) × (Int32) × (Int32) × (Int32) × (Int32) => (wLaw cI cJ An1 Bx Aw As Asm Bsm Ast Bst Ag Agu Bgu Agd Bgd Ae Aeu Beu Aed Bed Af Afu Bfu Afd Bfd An2 Bmr Bfg Bln Btp Bbl Btr Bwh Bn3 row_44 rc_45 wa_46 wb_47 wlo_48 whi_49 wtot_50 lsm_51 nsm_52 lst_53 nst_54 u.1 u.2.1 u.2.2.1 u.2.2.2.1 u.2.2.2.2.1 u.2.2.2.2.2.1 u.2.2.2.2.2.2.1 u.2.2.2.2.2.2.2.1 u.2.2.2.2.2.2.2.2.1 u.2.2.2.2.2.2.2.2.2.1 u.2.2.2.2.2.2.2.2.2.2.1 u.2.2.2.2.2.2.2.2.2.2.2.1 u.2.2.2.2.2.2.2.2.2.2.2.2.1 u.2.2.2.2.2.2.2.2.2.2.2.2.2.1 u.2.2.2.2.2.2.2.2.2.2.2.2.2.2 mrow_70 mrs_71 ma_72 mb_73 mlo_74 mhi_75 man_76 mtl_77 mtm_78 fig_79 len_80 top_81 bel_82 thr_83 trm_84 who_85 out_86)) rfl rfl (by decide) (by decide) (by decide) (by decide) (fun _ => rfl) (rest := []) rfl hl.1 rfl (Nat.le_of_ble_eq_true rfl) (by show _ ≤ 171; omega) (by show _ ≤ 7464; omega) dL_law_607 (fun r_189 u H locs hw hP hD hS => ?_)
        obtain ⟨lgu_190, ngu_191, lgd_192, ngd_193, leu_194, neu_195, led_196, ned_197, lfu_198, nfu_199, lfd_200, nfd_201, ans_202, rfc_203, rfb_204⟩ := u
        have hP : va_P G vwCl (wLaw cI cJ An1 Bx Aw As Asm Bsm Ast Bst Ag Agu Bgu Agd Bgd Ae Aeu Beu Aed Bed Af Afu Bfu Afd Bfd An2 Bmr Bfg Bln Btp Bbl Btr Bwh Bn3 row_44 rc_45 wa_46 wb_47 wlo_48 whi_49 wtot_50 lsm_51 nsm_52 lst_53 nst_54 lgu_190 ngu_191 lgd_192 ngd_193 leu_194 neu_195 led_196 ned_197 lfu_198 nfu_199 lfd_200 nfd_201 ans_202 rfc_203 rfb_204 mrow_70 mrs_71 ma_72 mb_73 mlo_74 mhi_75 man_76 mtl_77 mtm_78 fig_79 len_80 top_81 bel_82 thr_83 trm_84 who_85 out_86) H := hP
        have hD : va_D A (wLaw cI cJ An1 Bx Aw As Asm Bsm Ast Bst Ag Agu Bgu Agd Bgd Ae Aeu Beu Aed Bed Af Afu Bfu Afd Bfd An2 Bmr Bfg Bln Btp Bbl Btr Bwh Bn3 row_44 rc_45 wa_46 wb_47 wlo_48 whi_49 wtot_50 lsm_51 nsm_52 lst_53 nst_54 lgu_190 ngu_191 lgd_192 ngd_193 leu_194 neu_195 led_196 ned_197 lfu_198 nfu_199 lfd_200 nfd_201 ans_202 rfc_203 rfb_204 mrow_70 mrs_71 ma_72 mb_73 mlo_74 mhi_75 man_76 mtl_77 mtm_78 fig_79 len_80 top_81 bel_82 thr_83 trm_84 who_85 out_86) := hD
        refine lv_istore (lv' := [(5, .int r_189), (4, .int i4_43), (3, .ref Bn3), (2, .ref An2), (1, .ref An1), (0, .ref bS)]) hx hb dL_law_610 hl (by decide) rfl (fun ls hl => ?_)
        refine lv_aload_n hx hb dL_law_612 rfl (lv_at hl 3 rfl) ?_
        refine lv_aload_n hx hb dL_law_613 rfl (lv_at hl 5 rfl) ?_
        refine lv_iload hx hb dL_law_614 (lv_at hl 1 rfl) ?_
        refine lv_iconst (v := 1) hx hb dL_law_616 (by decide) ?_
        refine lv_iadd hx hb dL_law_617 ?_
        obtain ⟨hin, hw⟩ := hw
        refine va_sld hx hb hX hbl hbA hS hin dL_law_618 ?_
        refine lv_aload_n hx hb dL_law_619 rfl (lv_at hl 5 rfl) ?_
        refine lv_iload hx hb dL_law_620 (lv_at hl 1 rfl) ?_
        refine lv_iconst (v := 2) hx hb dL_law_622 (by decide) ?_
        refine lv_iadd hx hb dL_law_623 ?_
        obtain ⟨hin, hw⟩ := hw
        refine va_sld hx hb hX hbl hbA hS hin dL_law_624 ?_
        refine k_Vv (M_X5_budget l G cI cJ An2 Bmr Bfg Bln Btp Bbl Btr Bwh mrow_70 mrs_71 ma_72 mb_73 mlo_74 mhi_75 man_76 mtl_77 mtm_78 fig_79 len_80 top_81 bel_82 thr_83 trm_84 who_85 (xs (i4_43 + 1).toNatClampNeg) (xs (i4_43 + 2).toNatClampNeg) _ hw) ⟨hx, hb, hml, hown, hts⟩ (cwV 2 hts gL_law_X5_budget rfl rfl rfl (by decide +kernel) ⟨Nat.le_of_ble_eq_true rfl, Nat.le_of_ble_eq_true rfl⟩) hK hP hD hS hA [23, 24, 25, 26, 27, 28, 29, 30] [0, 1, 2, 3, 4, 5, 6, 7, 8, 9, 10, 11, 12, 13, 14, 15, 16, 17, 18, 19, 20, 21, 22, 31] [0, 1, 2, 3, 4, 5, 6, 7, 8, 9, 10, 11, 12, 13, 14, 15, 16, 17, 18, 19, 20, 21, 22, 24, 25, 26, 27, 28, 29, 30, 31, 23] (wr := [(An1, .inr (4, [.ref Bx, .int rc_45, .ref Aw, .ref As, .ref Ag, .ref Ae, .ref Af, .int ans_202, .int rfc_203, .int rfb_204])), (Bx, .inl (cI, 60, .inl row_44)), (Aw, .inr (3, [.int wa_46, .int wb_47, .int wlo_48, .int whi_49, .long wtot_50])), (As, .inr (2, [.ref Asm, .ref Ast])), (Asm, .inr (1, [.ref Bsm, .int nsm_52])), (Bsm, .inl (cI, 64, .inl lsm_51)), (Ast, .inr (1, [.ref Bst, .int nst_54])), (Bst, .inl (cI, 64, .inl lst_53)), (Ag, .inr (0, [.ref Agu, .ref Agd])), (Agu, .inr (1, [.ref Bgu, .int ngu_191])), (Bgu, .inl (cI, 64, .inl lgu_190)), (Agd, .inr (1, [.ref Bgd, .int ngd_193])), (Bgd, .inl (cI, 64, .inl lgd_192)), (Ae, .inr (0, [.ref Aeu, .ref Aed])), (Aeu, .inr (1, [.ref Beu, .int neu_195])), (Beu, .inl (cI, 64, .inl leu_194)), (Aed, .inr (1, [.ref Bed, .int ned_197])), (Bed, .inl (cI, 64, .inl led_196)), (Af, .inr (0, [.ref Afu, .ref Afd])), (Afu, .inr (1, [.ref Bfu, .int nfu_199])), (Bfu, .inl (cI, 64, .inl lfu_198)), (Afd, .inr (1, [.ref Bfd, .int nfd_201])), (Bfd, .inl (cI, 64, .inl lfd_200)), (Bn3, .inl (cJ, 1, .inr (.inl out_86)))]) (wn := fun u : (Int32) × (Int32) × (Int32) × (Nat → Int64) × (Nat → Int32) × (Nat → Int64) × (Nat → Int64) × (Int32) => (wLaw cI cJ An1 Bx Aw As Asm Bsm Ast Bst Ag Agu Bgu Agd Bgd Ae Aeu Beu Aed Bed Af Afu Bfu Afd Bfd An2 Bmr Bfg Bln Btp Bbl Btr Bwh Bn3 row_44 rc_45 wa_46 wb_47 wlo_48 whi_49 wtot_50 lsm_51 nsm_52 lst_53 nst_54 lgu_190 ngu_191 lgd_192 ngd_193 leu_194 neu_195 led_196 ned_197 lfu_198 nfu_199 lfd_200 nfd_201 ans_202 rfc_203 rfb_204 mrow_70 mrs_71 ma_72 mb_73 mlo_74 mhi_75 u.1 u.2.1 u.2.2.1 u.2.2.2.1 u.2.2.2.2.1 u.2.2.2.2.2.1 u.2.2.2.2.2.2.1 u.2.2.2.2.2.2.2 trm_84 who_85 out_86)) rfl rfl (by decide) (by decide) (by decide) (by decide) (fun _ => rfl) (rest := []) (q0 := 0) rfl rfl rfl hl.1 rfl (Nat.le_of_ble_eq_true rfl) (by show _ ≤ 171; omega) (by show _ ≤ 7464; omega) dL_law_625 (fun u H locs hw hP hD hS => ?_)
        obtain ⟨man_205, mtl_206, mtm_207, fig_208, len_209, top_210, bel_211, thr_212⟩ := u
        have hP : va_P G vwCl (wLaw cI cJ An1 Bx Aw As Asm Bsm Ast Bst Ag Agu Bgu Agd Bgd Ae Aeu Beu Aed Bed Af Afu Bfu Afd Bfd An2 Bmr Bfg Bln Btp Bbl Btr Bwh Bn3 row_44 rc_45 wa_46 wb_47 wlo_48 whi_49 wtot_50 lsm_51 nsm_52 lst_53 nst_54 lgu_190 ngu_191 lgd_192 ngd_193 leu_194 neu_195 led_196 ned_197 lfu_198 nfu_199 lfd_200 nfd_201 ans_202 rfc_203 rfb_204 mrow_70 mrs_71 ma_72 mb_73 mlo_74 mhi_75 man_205 mtl_206 mtm_207 fig_208 len_209 top_210 bel_211 thr_212 trm_84 who_85 out_86) H := hP
        have hD : va_D A (wLaw cI cJ An1 Bx Aw As Asm Bsm Ast Bst Ag Agu Bgu Agd Bgd Ae Aeu Beu Aed Bed Af Afu Bfu Afd Bfd An2 Bmr Bfg Bln Btp Bbl Btr Bwh Bn3 row_44 rc_45 wa_46 wb_47 wlo_48 whi_49 wtot_50 lsm_51 nsm_52 lst_53 nst_54 lgu_190 ngu_191 lgd_192 ngd_193 leu_194 neu_195 led_196 ned_197 lfu_198 nfu_199 lfd_200 nfd_201 ans_202 rfc_203 rfb_204 mrow_70 mrs_71 ma_72 mb_73 mlo_74 mhi_75 man_205 mtl_206 mtm_207 fig_208 len_209 top_210 bel_211 thr_212 trm_84 who_85 out_86) := hD
        refine lv_aload_n hx hb dL_law_628 rfl (lv_at hl 3 rfl) ?_
        refine k_Vi (M_X5_thrown l G cI cJ An2 Bmr Bfg Bln Btp Bbl Btr Bwh mrow_70 mrs_71 ma_72 mb_73 mlo_74 mhi_75 man_205 mtl_206 mtm_207 fig_208 len_209 top_210 bel_211 thr_212 trm_84 who_85 _ hw) ⟨hx, hb, hml, hown, hts⟩ (cwV 0 hts gL_law_X5_thrown rfl rfl rfl (by decide +kernel) ⟨Nat.le_of_ble_eq_true rfl, Nat.le_of_ble_eq_true rfl⟩) hK hP hD hS hA [23, 24, 25, 26, 27, 28, 29, 30] [0, 1, 2, 3, 4, 5, 6, 7, 8, 9, 10, 11, 12, 13, 14, 15, 16, 17, 18, 19, 20, 21, 22, 31] [0, 1, 2, 3, 4, 5, 6, 7, 8, 9, 10, 11, 12, 13, 14, 15, 16, 17, 18, 19, 20, 21, 22, 24, 25, 26, 27, 28, 29, 30, 31, 23] (wr := [(An1, .inr (4, [.ref Bx, .int rc_45, .ref Aw, .ref As, .ref Ag, .ref Ae, .ref Af, .int ans_202, .int rfc_203, .int rfb_204])), (Bx, .inl (cI, 60, .inl row_44)), (Aw, .inr (3, [.int wa_46, .int wb_47, .int wlo_48, .int whi_49, .long wtot_50])), (As, .inr (2, [.ref Asm, .ref Ast])), (Asm, .inr (1, [.ref Bsm, .int nsm_52])), (Bsm, .inl (cI, 64, .inl lsm_51)), (Ast, .inr (1, [.ref Bst, .int nst_54])), (Bst, .inl (cI, 64, .inl lst_53)), (Ag, .inr (0, [.ref Agu, .ref Agd])), (Agu, .inr (1, [.ref Bgu, .int ngu_191])), (Bgu, .inl (cI, 64, .inl lgu_190)), (Agd, .inr (1, [.ref Bgd, .int ngd_193])), (Bgd, .inl (cI, 64, .inl lgd_192)), (Ae, .inr (0, [.ref Aeu, .ref Aed])), (Aeu, .inr (1, [.ref Beu, .int neu_195])), (Beu, .inl (cI, 64, .inl leu_194)), (Aed, .inr (1, [.ref Bed, .int ned_197])), (Bed, .inl (cI, 64, .inl led_196)), (Af, .inr (0, [.ref Afu, .ref Afd])), (Afu, .inr (1, [.ref Bfu, .int nfu_199])), (Bfu, .inl (cI, 64, .inl lfu_198)), (Afd, .inr (1, [.ref Bfd, .int nfd_201])), (Bfd, .inl (cI, 64, .inl lfd_200)), (Bn3, .inl (cJ, 1, .inr (.inl out_86)))]) (wn := fun u : Unit => (wLaw cI cJ An1 Bx Aw As Asm Bsm Ast Bst Ag Agu Bgu Agd Bgd Ae Aeu Beu Aed Bed Af Afu Bfu Afd Bfd An2 Bmr Bfg Bln Btp Bbl Btr Bwh Bn3 row_44 rc_45 wa_46 wb_47 wlo_48 whi_49 wtot_50 lsm_51 nsm_52 lst_53 nst_54 lgu_190 ngu_191 lgd_192 ngd_193 leu_194 neu_195 led_196 ned_197 lfu_198 nfu_199 lfd_200 nfd_201 ans_202 rfc_203 rfb_204 mrow_70 mrs_71 ma_72 mb_73 mlo_74 mhi_75 man_205 mtl_206 mtm_207 fig_208 len_209 top_210 bel_211 thr_212 trm_84 who_85 out_86)) rfl rfl (by decide) (by decide) (by decide) (by decide) (fun _ => rfl) (rest := []) (q0 := 0) rfl rfl rfl hl.1 rfl (Nat.le_of_ble_eq_true rfl) (by show _ ≤ 171; omega) (by show _ ≤ 7464; omega) dL_law_629 (fun r_213 u H locs hw hP hD hS => ?_)
        refine lv_iload hx hb dL_law_632 (lv_at hl 0 rfl) ?_
        refine lv_icmp_eq (tgt := 639) hx hb dL_law_634 (by decide) (fun c_215 => ?_) (fun c_215 => ?_)
        · have hw := hw.1 c_215
          refine lv_goto (tgt := 1095) hx hb dL_law_639 (by decide) ?_
          obtain ⟨i4_214, ei4_214⟩ : ∃ y : Int32, y = i4_43 + 7 := ⟨_, rfl⟩
          have hw := hw i4_214 ei4_214
          refine lv_iinc (v := i4_214) (lv' := [(4, .int i4_214), (5, .int r_189), (3, .ref Bn3), (2, .ref An2), (1, .ref An1), (0, .ref bS)]) hx hb dL_law_1095 hl (k := 1) rfl (by rw [ei4_214]; rfl) (by decide) rfl (fun ls hl => ?_)
          refine lv_goto (tgt := 23) hx hb dL_law_1098 (by decide) ?_
          refine W.widen (k := 32 + (kk + 1)) (n := 6374 + 6 * (kk + 1)) (by omega) (by omega) ?_
          exact ihI23_87 _ (by rw [← hNI23_87]; exact hw.2) i4_214 row_44 rc_45 wa_46 wb_47 wlo_48 whi_49 wtot_50 lsm_51 nsm_52 lst_53 nst_54 lgu_190 ngu_191 lgd_192 ngd_193 leu_194 neu_195 led_196 ned_197 lfu_198 nfu_199 lfd_200 nfd_201 ans_202 rfc_203 rfb_204 mrow_70 mrs_71 ma_72 mb_73 mlo_74 mhi_75 man_205 mtl_206 mtm_207 fig_208 len_209 top_210 bel_211 thr_212 trm_84 who_85 out_86 rfl hw.1 (kk + 1) (by omega) (by rw [ei4_214, hik]; exact k_law7 kk) _ _ _ hP hD hS (lv_sub hl [0, 2, 3, 4, 5] rfl)
        · have hw := hw.2 c_215
          refine lv_iconst (v := 0) hx hb dL_law_637 (by decide) ?_
          exact absurd hw (by decide)
      have hw := hw.2 c_188
      by_cases c_216 : v_89 = 10
      · have hw := hw.1 c_216
        refine lv_tableIn (off := 602) (tgt := 642) hx hb dL_law_40 (by rw [c_216]; decide) (by rw [c_216]; decide) (by rw [c_216]; rfl) (by decide) ?_
        refine lv_aload_n hx hb dL_law_642 rfl (lv_at hl 3 rfl) ?_
        refine lv_aload_n hx hb dL_law_643 rfl (lv_at hl 4 rfl) ?_
        refine lv_iload hx hb dL_law_644 (lv_at hl 0 rfl) ?_
        refine lv_iconst (v := 1) hx hb dL_law_646 (by decide) ?_
        refine lv_iadd hx hb dL_law_647 ?_
        obtain ⟨hin, hw⟩ := hw
        refine va_sld hx hb hX hbl hbA hS hin dL_law_648 ?_
        refine lv_aload_n hx hb dL_law_649 rfl (lv_at hl 4 rfl) ?_
        refine lv_iload hx hb dL_law_650 (lv_at hl 0 rfl) ?_
        refine lv_iconst (v := 2) hx hb dL_law_652 (by decide) ?_
        refine lv_iadd hx hb dL_law_653 ?_
        obtain ⟨hin, hw⟩ := hw
        refine va_sld hx hb hX hbl hbA hS hin dL_law_654 ?_
        refine k_SW (M_L_raise l hst sa G cI cJ An1 Bx Aw As Asm Bsm Ast Bst Ag Agu Bgu Agd Bgd Ae Aeu Beu Aed Bed Af Afu Bfu Afd Bfd row_44 rc_45 wa_46 wb_47 wlo_48 whi_49 wtot_50 lsm_51 nsm_52 lst_53 nst_54 lgu_55 ngu_56 lgd_57 ngd_58 leu_59 neu_60 led_61 ned_62 lfu_63 nfu_64 lfd_65 nfd_66 ans_67 rfc_68 rfb_69 (xs (i4_43 + 1).toNatClampNeg) (xs (i4_43 + 2).toNatClampNeg) _ hw) ⟨hx, hb, hml, hown, hts⟩ (vx_cwSW 3 hts gL_law_L_raise rfl rfl rfl (by decide +kernel) ⟨(Nat.le_of_ble_eq_true rfl), (Nat.le_of_ble_eq_true rfl)⟩) hK hP hD hS hA hE [0, 1, 2, 3, 4, 5, 6, 7, 8, 9, 10, 11, 12, 13, 14, 15, 16, 17, 18, 19, 20, 21, 22] [23, 24, 25, 26, 27, 28, 29, 30, 31] [9, 10, 11, 12, 13, 14, 15, 16, 17, 18, 19, 20, 21, 22, 23, 24, 25, 26, 27, 28, 29, 30, 31, 0, 1, 2, 3, 4, 5, 6, 7, 8] (wr := [(An2, .inr (5, [.ref Bmr, .int mrs_71, .int ma_72, .int mb_73, .int mlo_74, .int mhi_75, .int man_76, .int mtl_77, .int mtm_78, .ref Bfg, .ref Bln, .ref Btp, .ref Bbl, .int thr_83, .ref Btr, .ref Bwh])), (Bmr, .inl (cI, 60, .inl mrow_70)), (Bfg, .inl (cJ, 4608, .inr (.inl fig_79))), (Bln, .inl (cI, 18, .inl len_80)), (Btp, .inl (cJ, 520, .inr (.inl top_81))), (Bbl, .inl (cJ, 520, .inr (.inl bel_82))), (Btr, .inl (cI, 10, .inl trm_84)), (Bwh, .inl (cI, 10, .inl who_85)), (Bn3, .inl (cJ, 1, .inr (.inl out_86)))]) (wn := fun u : (Nat → Int32) × (Int32) × (Nat → Int32) × (Int32) × (Nat → Int32) × (Int32) × (Nat → Int32) × (Int32) => (wLaw cI cJ An1 Bx Aw As Asm Bsm Ast Bst Ag Agu Bgu Agd Bgd Ae Aeu Beu Aed Bed Af Afu Bfu Afd Bfd An2 Bmr Bfg Bln Btp Bbl Btr Bwh Bn3 row_44 rc_45 wa_46 wb_47 wlo_48 whi_49 wtot_50 lsm_51 nsm_52 lst_53 nst_54 u.1 u.2.1 u.2.2.1 u.2.2.2.1 leu_59 neu_60 led_61 ned_62 u.2.2.2.2.1 u.2.2.2.2.2.1 u.2.2.2.2.2.2.1 u.2.2.2.2.2.2.2 ans_67 rfc_68 rfb_69 mrow_70 mrs_71 ma_72 mb_73 mlo_74 mhi_75 man_76 mtl_77 mtm_78 fig_79 len_80 top_81 bel_82 thr_83 trm_84 who_85 out_86)) rfl rfl (by decide) (by decide) (by decide) (by decide) (fun _ => rfl) (rest := []) rfl hl.1 rfl (Nat.le_of_ble_eq_true rfl) (by show _ ≤ 171; omega) (by show _ ≤ 7464; omega) dL_law_655 (fun r_217 u H locs hw hP hD hS => ?_)
        obtain ⟨lgu_218, ngu_219, lgd_220, ngd_221, lfu_222, nfu_223, lfd_224, nfd_225⟩ := u
        have hP : va_P G vwCl (wLaw cI cJ An1 Bx Aw As Asm Bsm Ast Bst Ag Agu Bgu Agd Bgd Ae Aeu Beu Aed Bed Af Afu Bfu Afd Bfd An2 Bmr Bfg Bln Btp Bbl Btr Bwh Bn3 row_44 rc_45 wa_46 wb_47 wlo_48 whi_49 wtot_50 lsm_51 nsm_52 lst_53 nst_54 lgu_218 ngu_219 lgd_220 ngd_221 leu_59 neu_60 led_61 ned_62 lfu_222 nfu_223 lfd_224 nfd_225 ans_67 rfc_68 rfb_69 mrow_70 mrs_71 ma_72 mb_73 mlo_74 mhi_75 man_76 mtl_77 mtm_78 fig_79 len_80 top_81 bel_82 thr_83 trm_84 who_85 out_86) H := hP
        have hD : va_D A (wLaw cI cJ An1 Bx Aw As Asm Bsm Ast Bst Ag Agu Bgu Agd Bgd Ae Aeu Beu Aed Bed Af Afu Bfu Afd Bfd An2 Bmr Bfg Bln Btp Bbl Btr Bwh Bn3 row_44 rc_45 wa_46 wb_47 wlo_48 whi_49 wtot_50 lsm_51 nsm_52 lst_53 nst_54 lgu_218 ngu_219 lgd_220 ngd_221 leu_59 neu_60 led_61 ned_62 lfu_222 nfu_223 lfd_224 nfd_225 ans_67 rfc_68 rfb_69 mrow_70 mrs_71 ma_72 mb_73 mlo_74 mhi_75 man_76 mtl_77 mtm_78 fig_79 len_80 top_81 bel_82 thr_83 trm_84 who_85 out_86) := hD
        refine lv_istore (lv' := [(5, .int r_217), (4, .int i4_43), (3, .ref Bn3), (2, .ref An2), (1, .ref An1), (0, .ref bS)]) hx hb dL_law_658 hl (by decide) rfl (fun ls hl => ?_)
        refine lv_aload_n hx hb dL_law_660 rfl (lv_at hl 3 rfl) ?_
        refine lv_aload_n hx hb dL_law_661 rfl (lv_at hl 5 rfl) ?_
        refine lv_iload hx hb dL_law_662 (lv_at hl 1 rfl) ?_
        refine lv_iconst (v := 1) hx hb dL_law_664 (by decide) ?_
        refine lv_iadd hx hb dL_law_665 ?_
        obtain ⟨hin, hw⟩ := hw
        refine va_sld hx hb hX hbl hbA hS hin dL_law_666 ?_
        refine lv_aload_n hx hb dL_law_667 rfl (lv_at hl 5 rfl) ?_
        refine lv_iload hx hb dL_law_668 (lv_at hl 1 rfl) ?_
        refine lv_iconst (v := 2) hx hb dL_law_670 (by decide) ?_
        refine lv_iadd hx hb dL_law_671 ?_
        obtain ⟨hin, hw⟩ := hw
        refine va_sld hx hb hX hbl hbA hS hin dL_law_672 ?_
        refine k_Vv (M_X5_raise l G cI cJ An2 Bmr Bfg Bln Btp Bbl Btr Bwh mrow_70 mrs_71 ma_72 mb_73 mlo_74 mhi_75 man_76 mtl_77 mtm_78 fig_79 len_80 top_81 bel_82 thr_83 trm_84 who_85 (xs (i4_43 + 1).toNatClampNeg) (xs (i4_43 + 2).toNatClampNeg) _ hw) ⟨hx, hb, hml, hown, hts⟩ (cwV 2 hts gL_law_X5_raise rfl rfl rfl (by decide +kernel) ⟨Nat.le_of_ble_eq_true rfl, Nat.le_of_ble_eq_true rfl⟩) hK hP hD hS hA [23, 24, 25, 26, 27, 28, 29, 30] [0, 1, 2, 3, 4, 5, 6, 7, 8, 9, 10, 11, 12, 13, 14, 15, 16, 17, 18, 19, 20, 21, 22, 31] [0, 1, 2, 3, 4, 5, 6, 7, 8, 9, 10, 11, 12, 13, 14, 15, 16, 17, 18, 19, 20, 21, 22, 24, 25, 26, 27, 28, 29, 30, 31, 23] (wr := [(An1, .inr (4, [.ref Bx, .int rc_45, .ref Aw, .ref As, .ref Ag, .ref Ae, .ref Af, .int ans_67, .int rfc_68, .int rfb_69])), (Bx, .inl (cI, 60, .inl row_44)), (Aw, .inr (3, [.int wa_46, .int wb_47, .int wlo_48, .int whi_49, .long wtot_50])), (As, .inr (2, [.ref Asm, .ref Ast])), (Asm, .inr (1, [.ref Bsm, .int nsm_52])), (Bsm, .inl (cI, 64, .inl lsm_51)), (Ast, .inr (1, [.ref Bst, .int nst_54])), (Bst, .inl (cI, 64, .inl lst_53)), (Ag, .inr (0, [.ref Agu, .ref Agd])), (Agu, .inr (1, [.ref Bgu, .int ngu_219])), (Bgu, .inl (cI, 64, .inl lgu_218)), (Agd, .inr (1, [.ref Bgd, .int ngd_221])), (Bgd, .inl (cI, 64, .inl lgd_220)), (Ae, .inr (0, [.ref Aeu, .ref Aed])), (Aeu, .inr (1, [.ref Beu, .int neu_60])), (Beu, .inl (cI, 64, .inl leu_59)), (Aed, .inr (1, [.ref Bed, .int ned_62])), (Bed, .inl (cI, 64, .inl led_61)), (Af, .inr (0, [.ref Afu, .ref Afd])), (Afu, .inr (1, [.ref Bfu, .int nfu_223])), (Bfu, .inl (cI, 64, .inl lfu_222)), (Afd, .inr (1, [.ref Bfd, .int nfd_225])), (Bfd, .inl (cI, 64, .inl lfd_224)), (Bn3, .inl (cJ, 1, .inr (.inl out_86)))]) (wn := fun u : (Nat → Int64) × (Nat → Int32) × (Nat → Int64) × (Nat → Int64) × (Int32) => (wLaw cI cJ An1 Bx Aw As Asm Bsm Ast Bst Ag Agu Bgu Agd Bgd Ae Aeu Beu Aed Bed Af Afu Bfu Afd Bfd An2 Bmr Bfg Bln Btp Bbl Btr Bwh Bn3 row_44 rc_45 wa_46 wb_47 wlo_48 whi_49 wtot_50 lsm_51 nsm_52 lst_53 nst_54 lgu_218 ngu_219 lgd_220 ngd_221 leu_59 neu_60 led_61 ned_62 lfu_222 nfu_223 lfd_224 nfd_225 ans_67 rfc_68 rfb_69 mrow_70 mrs_71 ma_72 mb_73 mlo_74 mhi_75 man_76 mtl_77 mtm_78 u.1 u.2.1 u.2.2.1 u.2.2.2.1 u.2.2.2.2 trm_84 who_85 out_86)) rfl rfl (by decide) (by decide) (by decide) (by decide) (fun _ => rfl) (rest := []) (q0 := 0) rfl rfl rfl hl.1 rfl (Nat.le_of_ble_eq_true rfl) (by show _ ≤ 171; omega) (by show _ ≤ 7464; omega) dL_law_673 (fun u H locs hw hP hD hS => ?_)
        obtain ⟨fig_226, len_227, top_228, bel_229, thr_230⟩ := u
        have hP : va_P G vwCl (wLaw cI cJ An1 Bx Aw As Asm Bsm Ast Bst Ag Agu Bgu Agd Bgd Ae Aeu Beu Aed Bed Af Afu Bfu Afd Bfd An2 Bmr Bfg Bln Btp Bbl Btr Bwh Bn3 row_44 rc_45 wa_46 wb_47 wlo_48 whi_49 wtot_50 lsm_51 nsm_52 lst_53 nst_54 lgu_218 ngu_219 lgd_220 ngd_221 leu_59 neu_60 led_61 ned_62 lfu_222 nfu_223 lfd_224 nfd_225 ans_67 rfc_68 rfb_69 mrow_70 mrs_71 ma_72 mb_73 mlo_74 mhi_75 man_76 mtl_77 mtm_78 fig_226 len_227 top_228 bel_229 thr_230 trm_84 who_85 out_86) H := hP
        have hD : va_D A (wLaw cI cJ An1 Bx Aw As Asm Bsm Ast Bst Ag Agu Bgu Agd Bgd Ae Aeu Beu Aed Bed Af Afu Bfu Afd Bfd An2 Bmr Bfg Bln Btp Bbl Btr Bwh Bn3 row_44 rc_45 wa_46 wb_47 wlo_48 whi_49 wtot_50 lsm_51 nsm_52 lst_53 nst_54 lgu_218 ngu_219 lgd_220 ngd_221 leu_59 neu_60 led_61 ned_62 lfu_222 nfu_223 lfd_224 nfd_225 ans_67 rfc_68 rfb_69 mrow_70 mrs_71 ma_72 mb_73 mlo_74 mhi_75 man_76 mtl_77 mtm_78 fig_226 len_227 top_228 bel_229 thr_230 trm_84 who_85 out_86) := hD
        refine lv_aload_n hx hb dL_law_676 rfl (lv_at hl 3 rfl) ?_
        refine k_Vi (M_X5_thrown l G cI cJ An2 Bmr Bfg Bln Btp Bbl Btr Bwh mrow_70 mrs_71 ma_72 mb_73 mlo_74 mhi_75 man_76 mtl_77 mtm_78 fig_226 len_227 top_228 bel_229 thr_230 trm_84 who_85 _ hw) ⟨hx, hb, hml, hown, hts⟩ (cwV 0 hts gL_law_X5_thrown rfl rfl rfl (by decide +kernel) ⟨Nat.le_of_ble_eq_true rfl, Nat.le_of_ble_eq_true rfl⟩) hK hP hD hS hA [23, 24, 25, 26, 27, 28, 29, 30] [0, 1, 2, 3, 4, 5, 6, 7, 8, 9, 10, 11, 12, 13, 14, 15, 16, 17, 18, 19, 20, 21, 22, 31] [0, 1, 2, 3, 4, 5, 6, 7, 8, 9, 10, 11, 12, 13, 14, 15, 16, 17, 18, 19, 20, 21, 22, 24, 25, 26, 27, 28, 29, 30, 31, 23] (wr := [(An1, .inr (4, [.ref Bx, .int rc_45, .ref Aw, .ref As, .ref Ag, .ref Ae, .ref Af, .int ans_67, .int rfc_68, .int rfb_69])), (Bx, .inl (cI, 60, .inl row_44)), (Aw, .inr (3, [.int wa_46, .int wb_47, .int wlo_48, .int whi_49, .long wtot_50])), (As, .inr (2, [.ref Asm, .ref Ast])), (Asm, .inr (1, [.ref Bsm, .int nsm_52])), (Bsm, .inl (cI, 64, .inl lsm_51)), (Ast, .inr (1, [.ref Bst, .int nst_54])), (Bst, .inl (cI, 64, .inl lst_53)), (Ag, .inr (0, [.ref Agu, .ref Agd])), (Agu, .inr (1, [.ref Bgu, .int ngu_219])), (Bgu, .inl (cI, 64, .inl lgu_218)), (Agd, .inr (1, [.ref Bgd, .int ngd_221])), (Bgd, .inl (cI, 64, .inl lgd_220)), (Ae, .inr (0, [.ref Aeu, .ref Aed])), (Aeu, .inr (1, [.ref Beu, .int neu_60])), (Beu, .inl (cI, 64, .inl leu_59)), (Aed, .inr (1, [.ref Bed, .int ned_62])), (Bed, .inl (cI, 64, .inl led_61)), (Af, .inr (0, [.ref Afu, .ref Afd])), (Afu, .inr (1, [.ref Bfu, .int nfu_223])), (Bfu, .inl (cI, 64, .inl lfu_222)), (Afd, .inr (1, [.ref Bfd, .int nfd_225])), (Bfd, .inl (cI, 64, .inl lfd_224)), (Bn3, .inl (cJ, 1, .inr (.inl out_86)))]) (wn := fun u : Unit => (wLaw cI cJ An1 Bx Aw As Asm Bsm Ast Bst Ag Agu Bgu Agd Bgd Ae Aeu Beu Aed Bed Af Afu Bfu Afd Bfd An2 Bmr Bfg Bln Btp Bbl Btr Bwh Bn3 row_44 rc_45 wa_46 wb_47 wlo_48 whi_49 wtot_50 lsm_51 nsm_52 lst_53 nst_54 lgu_218 ngu_219 lgd_220 ngd_221 leu_59 neu_60 led_61 ned_62 lfu_222 nfu_223 lfd_224 nfd_225 ans_67 rfc_68 rfb_69 mrow_70 mrs_71 ma_72 mb_73 mlo_74 mhi_75 man_76 mtl_77 mtm_78 fig_226 len_227 top_228 bel_229 thr_230 trm_84 who_85 out_86)) rfl rfl (by decide) (by decide) (by decide) (by decide) (fun _ => rfl) (rest := []) (q0 := 0) rfl rfl rfl hl.1 rfl (Nat.le_of_ble_eq_true rfl) (by show _ ≤ 171; omega) (by show _ ≤ 7464; omega) dL_law_677 (fun r_231 u H locs hw hP hD hS => ?_)
        refine lv_iload hx hb dL_law_680 (lv_at hl 0 rfl) ?_
        refine lv_icmp_eq (tgt := 687) hx hb dL_law_682 (by decide) (fun c_233 => ?_) (fun c_233 => ?_)
        · have hw := hw.1 c_233
          refine lv_goto (tgt := 1095) hx hb dL_law_687 (by decide) ?_
          obtain ⟨i4_232, ei4_232⟩ : ∃ y : Int32, y = i4_43 + 7 := ⟨_, rfl⟩
          have hw := hw i4_232 ei4_232
          refine lv_iinc (v := i4_232) (lv' := [(4, .int i4_232), (5, .int r_217), (3, .ref Bn3), (2, .ref An2), (1, .ref An1), (0, .ref bS)]) hx hb dL_law_1095 hl (k := 1) rfl (by rw [ei4_232]; rfl) (by decide) rfl (fun ls hl => ?_)
          refine lv_goto (tgt := 23) hx hb dL_law_1098 (by decide) ?_
          refine W.widen (k := 32 + (kk + 1)) (n := 6374 + 6 * (kk + 1)) (by omega) (by omega) ?_
          exact ihI23_87 _ (by rw [← hNI23_87]; exact hw.2) i4_232 row_44 rc_45 wa_46 wb_47 wlo_48 whi_49 wtot_50 lsm_51 nsm_52 lst_53 nst_54 lgu_218 ngu_219 lgd_220 ngd_221 leu_59 neu_60 led_61 ned_62 lfu_222 nfu_223 lfd_224 nfd_225 ans_67 rfc_68 rfb_69 mrow_70 mrs_71 ma_72 mb_73 mlo_74 mhi_75 man_76 mtl_77 mtm_78 fig_226 len_227 top_228 bel_229 thr_230 trm_84 who_85 out_86 rfl hw.1 (kk + 1) (by omega) (by rw [ei4_232, hik]; exact k_law7 kk) _ _ _ hP hD hS (lv_sub hl [0, 2, 3, 4, 5] rfl)
        · have hw := hw.2 c_233
          refine lv_iconst (v := 0) hx hb dL_law_685 (by decide) ?_
          exact absurd hw (by decide)
      have hw := hw.2 c_216
      by_cases c_234 : v_89 = 11
      · have hw := hw.1 c_234
        refine lv_tableIn (off := 650) (tgt := 690) hx hb dL_law_40 (by rw [c_234]; decide) (by rw [c_234]; decide) (by rw [c_234]; rfl) (by decide) ?_
        refine lv_aload_n hx hb dL_law_690 rfl (lv_at hl 3 rfl) ?_
        refine lv_aload_n hx hb dL_law_691 rfl (lv_at hl 4 rfl) ?_
        refine lv_iload hx hb dL_law_692 (lv_at hl 0 rfl) ?_
        refine lv_iconst (v := 1) hx hb dL_law_694 (by decide) ?_
        refine lv_iadd hx hb dL_law_695 ?_
        obtain ⟨hin, hw⟩ := hw
        refine va_sld hx hb hX hbl hbA hS hin dL_law_696 ?_
        refine lv_aload_n hx hb dL_law_697 rfl (lv_at hl 4 rfl) ?_
        refine lv_iload hx hb dL_law_698 (lv_at hl 0 rfl) ?_
        refine lv_iconst (v := 2) hx hb dL_law_700 (by decide) ?_
        refine lv_iadd hx hb dL_law_701 ?_
        obtain ⟨hin, hw⟩ := hw
        refine va_sld hx hb hX hbl hbA hS hin dL_law_702 ?_
        refine lv_aload_n hx hb dL_law_703 rfl (lv_at hl 1 rfl) ?_
        refine k_SW (M_L_isEnough l hst sa G cI cJ An1 Bx Aw As Asm Bsm Ast Bst Ag Agu Bgu Agd Bgd Ae Aeu Beu Aed Bed Af Afu Bfu Afd Bfd Bn3 row_44 rc_45 wa_46 wb_47 wlo_48 whi_49 wtot_50 lsm_51 nsm_52 lst_53 nst_54 lgu_55 ngu_56 lgd_57 ngd_58 leu_59 neu_60 led_61 ned_62 lfu_63 nfu_64 lfd_65 nfd_66 ans_67 rfc_68 rfb_69 out_86 (xs (i4_43 + 1).toNatClampNeg) (xs (i4_43 + 2).toNatClampNeg) _ hw) ⟨hx, hb, hml, hown, hts⟩ (vx_cwSW 4 hts gL_law_L_isEnough rfl rfl rfl (by decide +kernel) ⟨(Nat.le_of_ble_eq_true rfl), (Nat.le_of_ble_eq_true rfl)⟩) hK hP hD hS hA hE [0, 1, 2, 3, 4, 5, 6, 7, 8, 9, 10, 11, 12, 13, 14, 15, 16, 17, 18, 19, 20, 21, 22, 31] [23, 24, 25, 26, 27, 28, 29, 30] [8, 9, 10, 11, 12, 13, 14, 15, 16, 17, 18, 19, 20, 21, 22, 23, 24, 25, 26, 27, 28, 29, 30, 0, 1, 2, 3, 4, 5, 6, 7, 31] (wr := [(An2, .inr (5, [.ref Bmr, .int mrs_71, .int ma_72, .int mb_73, .int mlo_74, .int mhi_75, .int man_76, .int mtl_77, .int mtm_78, .ref Bfg, .ref Bln, .ref Btp, .ref Bbl, .int thr_83, .ref Btr, .ref Bwh])), (Bmr, .inl (cI, 60, .inl mrow_70)), (Bfg, .inl (cJ, 4608, .inr (.inl fig_79))), (Bln, .inl (cI, 18, .inl len_80)), (Btp, .inl (cJ, 520, .inr (.inl top_81))), (Bbl, .inl (cJ, 520, .inr (.inl bel_82))), (Btr, .inl (cI, 10, .inl trm_84)), (Bwh, .inl (cI, 10, .inl who_85))]) (wn := fun u : (Nat → Int32) × (Int32) × (Nat → Int32) × (Int32) × (Nat → Int64) => (wLaw cI cJ An1 Bx Aw As Asm Bsm Ast Bst Ag Agu Bgu Agd Bgd Ae Aeu Beu Aed Bed Af Afu Bfu Afd Bfd An2 Bmr Bfg Bln Btp Bbl Btr Bwh Bn3 row_44 rc_45 wa_46 wb_47 wlo_48 whi_49 wtot_50 u.1 u.2.1 u.2.2.1 u.2.2.2.1 lgu_55 ngu_56 lgd_57 ngd_58 leu_59 neu_60 led_61 ned_62 lfu_63 nfu_64 lfd_65 nfd_66 ans_67 rfc_68 rfb_69 mrow_70 mrs_71 ma_72 mb_73 mlo_74 mhi_75 man_76 mtl_77 mtm_78 fig_79 len_80 top_81 bel_82 thr_83 trm_84 who_85 u.2.2.2.2)) rfl rfl (by decide) (by decide) (by decide) (by decide) (fun _ => rfl) (rest := []) rfl hl.1 rfl (Nat.le_of_ble_eq_true rfl) (by show _ ≤ 171; omega) (by show _ ≤ 7464; omega) dL_law_704 (fun r_235 u H locs hw hP hD hS => ?_)
        obtain ⟨lsm_236, nsm_237, lst_238, nst_239, out_240⟩ := u
        have hP : va_P G vwCl (wLaw cI cJ An1 Bx Aw As Asm Bsm Ast Bst Ag Agu Bgu Agd Bgd Ae Aeu Beu Aed Bed Af Afu Bfu Afd Bfd An2 Bmr Bfg Bln Btp Bbl Btr Bwh Bn3 row_44 rc_45 wa_46 wb_47 wlo_48 whi_49 wtot_50 lsm_236 nsm_237 lst_238 nst_239 lgu_55 ngu_56 lgd_57 ngd_58 leu_59 neu_60 led_61 ned_62 lfu_63 nfu_64 lfd_65 nfd_66 ans_67 rfc_68 rfb_69 mrow_70 mrs_71 ma_72 mb_73 mlo_74 mhi_75 man_76 mtl_77 mtm_78 fig_79 len_80 top_81 bel_82 thr_83 trm_84 who_85 out_240) H := hP
        have hD : va_D A (wLaw cI cJ An1 Bx Aw As Asm Bsm Ast Bst Ag Agu Bgu Agd Bgd Ae Aeu Beu Aed Bed Af Afu Bfu Afd Bfd An2 Bmr Bfg Bln Btp Bbl Btr Bwh Bn3 row_44 rc_45 wa_46 wb_47 wlo_48 whi_49 wtot_50 lsm_236 nsm_237 lst_238 nst_239 lgu_55 ngu_56 lgd_57 ngd_58 leu_59 neu_60 led_61 ned_62 lfu_63 nfu_64 lfd_65 nfd_66 ans_67 rfc_68 rfb_69 mrow_70 mrs_71 ma_72 mb_73 mlo_74 mhi_75 man_76 mtl_77 mtm_78 fig_79 len_80 top_81 bel_82 thr_83 trm_84 who_85 out_240) := hD
        refine lv_istore (lv' := [(5, .int r_235), (4, .int i4_43), (3, .ref Bn3), (2, .ref An2), (1, .ref An1), (0, .ref bS)]) hx hb dL_law_707 hl (by decide) rfl (fun ls hl => ?_)
        refine lv_aload_n hx hb dL_law_709 rfl (lv_at hl 3 rfl) ?_
        refine lv_aload_n hx hb dL_law_710 rfl (lv_at hl 5 rfl) ?_
        refine lv_iload hx hb dL_law_711 (lv_at hl 1 rfl) ?_
        refine lv_iconst (v := 1) hx hb dL_law_713 (by decide) ?_
        refine lv_iadd hx hb dL_law_714 ?_
        obtain ⟨hin, hw⟩ := hw
        refine va_sld hx hb hX hbl hbA hS hin dL_law_715 ?_
        refine lv_aload_n hx hb dL_law_716 rfl (lv_at hl 5 rfl) ?_
        refine lv_iload hx hb dL_law_717 (lv_at hl 1 rfl) ?_
        refine lv_iconst (v := 2) hx hb dL_law_719 (by decide) ?_
        refine lv_iadd hx hb dL_law_720 ?_
        obtain ⟨hin, hw⟩ := hw
        refine va_sld hx hb hX hbl hbA hS hin dL_law_721 ?_
        refine k_Vi (M_X5_isEnough l G cI cJ An2 Bmr Bfg Bln Btp Bbl Btr Bwh mrow_70 mrs_71 ma_72 mb_73 mlo_74 mhi_75 man_76 mtl_77 mtm_78 fig_79 len_80 top_81 bel_82 thr_83 trm_84 who_85 (xs (i4_43 + 1).toNatClampNeg) (xs (i4_43 + 2).toNatClampNeg) _ hw) ⟨hx, hb, hml, hown, hts⟩ (cwV 2 hts gL_law_X5_isEnough rfl rfl rfl (by decide +kernel) ⟨Nat.le_of_ble_eq_true rfl, Nat.le_of_ble_eq_true rfl⟩) hK hP hD hS hA [23, 24, 25, 26, 27, 28, 29, 30] [0, 1, 2, 3, 4, 5, 6, 7, 8, 9, 10, 11, 12, 13, 14, 15, 16, 17, 18, 19, 20, 21, 22, 31] [0, 1, 2, 3, 4, 5, 6, 7, 8, 9, 10, 11, 12, 13, 14, 15, 16, 17, 18, 19, 20, 21, 22, 24, 25, 26, 27, 28, 29, 30, 31, 23] (wr := [(An1, .inr (4, [.ref Bx, .int rc_45, .ref Aw, .ref As, .ref Ag, .ref Ae, .ref Af, .int ans_67, .int rfc_68, .int rfb_69])), (Bx, .inl (cI, 60, .inl row_44)), (Aw, .inr (3, [.int wa_46, .int wb_47, .int wlo_48, .int whi_49, .long wtot_50])), (As, .inr (2, [.ref Asm, .ref Ast])), (Asm, .inr (1, [.ref Bsm, .int nsm_237])), (Bsm, .inl (cI, 64, .inl lsm_236)), (Ast, .inr (1, [.ref Bst, .int nst_239])), (Bst, .inl (cI, 64, .inl lst_238)), (Ag, .inr (0, [.ref Agu, .ref Agd])), (Agu, .inr (1, [.ref Bgu, .int ngu_56])), (Bgu, .inl (cI, 64, .inl lgu_55)), (Agd, .inr (1, [.ref Bgd, .int ngd_58])), (Bgd, .inl (cI, 64, .inl lgd_57)), (Ae, .inr (0, [.ref Aeu, .ref Aed])), (Aeu, .inr (1, [.ref Beu, .int neu_60])), (Beu, .inl (cI, 64, .inl leu_59)), (Aed, .inr (1, [.ref Bed, .int ned_62])), (Bed, .inl (cI, 64, .inl led_61)), (Af, .inr (0, [.ref Afu, .ref Afd])), (Afu, .inr (1, [.ref Bfu, .int nfu_64])), (Bfu, .inl (cI, 64, .inl lfu_63)), (Afd, .inr (1, [.ref Bfd, .int nfd_66])), (Bfd, .inl (cI, 64, .inl lfd_65)), (Bn3, .inl (cJ, 1, .inr (.inl out_240)))]) (wn := fun u : (Int32) × (Nat → Int32) × (Nat → Int32) => (wLaw cI cJ An1 Bx Aw As Asm Bsm Ast Bst Ag Agu Bgu Agd Bgd Ae Aeu Beu Aed Bed Af Afu Bfu Afd Bfd An2 Bmr Bfg Bln Btp Bbl Btr Bwh Bn3 row_44 rc_45 wa_46 wb_47 wlo_48 whi_49 wtot_50 lsm_236 nsm_237 lst_238 nst_239 lgu_55 ngu_56 lgd_57 ngd_58 leu_59 neu_60 led_61 ned_62 lfu_63 nfu_64 lfd_65 nfd_66 ans_67 rfc_68 rfb_69 mrow_70 mrs_71 ma_72 mb_73 mlo_74 mhi_75 man_76 mtl_77 mtm_78 fig_79 len_80 top_81 bel_82 u.1 u.2.1 u.2.2 out_240)) rfl rfl (by decide) (by decide) (by decide) (by decide) (fun _ => rfl) (rest := []) (q0 := 0) rfl rfl rfl hl.1 rfl (Nat.le_of_ble_eq_true rfl) (by show _ ≤ 171; omega) (by show _ ≤ 7464; omega) dL_law_722 (fun r_241 u H locs hw hP hD hS => ?_)
        obtain ⟨hzr_241, hw⟩ := hw
        obtain ⟨thr_242, trm_243, who_244⟩ := u
        have hP : va_P G vwCl (wLaw cI cJ An1 Bx Aw As Asm Bsm Ast Bst Ag Agu Bgu Agd Bgd Ae Aeu Beu Aed Bed Af Afu Bfu Afd Bfd An2 Bmr Bfg Bln Btp Bbl Btr Bwh Bn3 row_44 rc_45 wa_46 wb_47 wlo_48 whi_49 wtot_50 lsm_236 nsm_237 lst_238 nst_239 lgu_55 ngu_56 lgd_57 ngd_58 leu_59 neu_60 led_61 ned_62 lfu_63 nfu_64 lfd_65 nfd_66 ans_67 rfc_68 rfb_69 mrow_70 mrs_71 ma_72 mb_73 mlo_74 mhi_75 man_76 mtl_77 mtm_78 fig_79 len_80 top_81 bel_82 thr_242 trm_243 who_244 out_240) H := hP
        have hD : va_D A (wLaw cI cJ An1 Bx Aw As Asm Bsm Ast Bst Ag Agu Bgu Agd Bgd Ae Aeu Beu Aed Bed Af Afu Bfu Afd Bfd An2 Bmr Bfg Bln Btp Bbl Btr Bwh Bn3 row_44 rc_45 wa_46 wb_47 wlo_48 whi_49 wtot_50 lsm_236 nsm_237 lst_238 nst_239 lgu_55 ngu_56 lgd_57 ngd_58 leu_59 neu_60 led_61 ned_62 lfu_63 nfu_64 lfd_65 nfd_66 ans_67 rfc_68 rfb_69 mrow_70 mrs_71 ma_72 mb_73 mlo_74 mhi_75 man_76 mtl_77 mtm_78 fig_79 len_80 top_81 bel_82 thr_242 trm_243 who_244 out_240) := hD
        refine lv_istore (lv' := [(6, .int r_241), (5, .int r_235), (4, .int i4_43), (3, .ref Bn3), (2, .ref An2), (1, .ref An1), (0, .ref bS)]) hx hb dL_law_725 hl (by decide) rfl (fun ls hl => ?_)
        refine lv_aload_n hx hb dL_law_727 rfl (lv_at hl 4 rfl) ?_
        refine k_Vi (M_X5_thrown l G cI cJ An2 Bmr Bfg Bln Btp Bbl Btr Bwh mrow_70 mrs_71 ma_72 mb_73 mlo_74 mhi_75 man_76 mtl_77 mtm_78 fig_79 len_80 top_81 bel_82 thr_242 trm_243 who_244 _ hw) ⟨hx, hb, hml, hown, hts⟩ (cwV 0 hts gL_law_X5_thrown rfl rfl rfl (by decide +kernel) ⟨Nat.le_of_ble_eq_true rfl, Nat.le_of_ble_eq_true rfl⟩) hK hP hD hS hA [23, 24, 25, 26, 27, 28, 29, 30] [0, 1, 2, 3, 4, 5, 6, 7, 8, 9, 10, 11, 12, 13, 14, 15, 16, 17, 18, 19, 20, 21, 22, 31] [0, 1, 2, 3, 4, 5, 6, 7, 8, 9, 10, 11, 12, 13, 14, 15, 16, 17, 18, 19, 20, 21, 22, 24, 25, 26, 27, 28, 29, 30, 31, 23] (wr := [(An1, .inr (4, [.ref Bx, .int rc_45, .ref Aw, .ref As, .ref Ag, .ref Ae, .ref Af, .int ans_67, .int rfc_68, .int rfb_69])), (Bx, .inl (cI, 60, .inl row_44)), (Aw, .inr (3, [.int wa_46, .int wb_47, .int wlo_48, .int whi_49, .long wtot_50])), (As, .inr (2, [.ref Asm, .ref Ast])), (Asm, .inr (1, [.ref Bsm, .int nsm_237])), (Bsm, .inl (cI, 64, .inl lsm_236)), (Ast, .inr (1, [.ref Bst, .int nst_239])), (Bst, .inl (cI, 64, .inl lst_238)), (Ag, .inr (0, [.ref Agu, .ref Agd])), (Agu, .inr (1, [.ref Bgu, .int ngu_56])), (Bgu, .inl (cI, 64, .inl lgu_55)), (Agd, .inr (1, [.ref Bgd, .int ngd_58])), (Bgd, .inl (cI, 64, .inl lgd_57)), (Ae, .inr (0, [.ref Aeu, .ref Aed])), (Aeu, .inr (1, [.ref Beu, .int neu_60])), (Beu, .inl (cI, 64, .inl leu_59)), (Aed, .inr (1, [.ref Bed, .int ned_62])), (Bed, .inl (cI, 64, .inl led_61)), (Af, .inr (0, [.ref Afu, .ref Afd])), (Afu, .inr (1, [.ref Bfu, .int nfu_64])), (Bfu, .inl (cI, 64, .inl lfu_63)), (Afd, .inr (1, [.ref Bfd, .int nfd_66])), (Bfd, .inl (cI, 64, .inl lfd_65)), (Bn3, .inl (cJ, 1, .inr (.inl out_240)))]) (wn := fun u : Unit => (wLaw cI cJ An1 Bx Aw As Asm Bsm Ast Bst Ag Agu Bgu Agd Bgd Ae Aeu Beu Aed Bed Af Afu Bfu Afd Bfd An2 Bmr Bfg Bln Btp Bbl Btr Bwh Bn3 row_44 rc_45 wa_46 wb_47 wlo_48 whi_49 wtot_50 lsm_236 nsm_237 lst_238 nst_239 lgu_55 ngu_56 lgd_57 ngd_58 leu_59 neu_60 led_61 ned_62 lfu_63 nfu_64 lfd_65 nfd_66 ans_67 rfc_68 rfb_69 mrow_70 mrs_71 ma_72 mb_73 mlo_74 mhi_75 man_76 mtl_77 mtm_78 fig_79 len_80 top_81 bel_82 thr_242 trm_243 who_244 out_240)) rfl rfl (by decide) (by decide) (by decide) (by decide) (fun _ => rfl) (rest := []) (q0 := 0) rfl rfl rfl hl.1 rfl (Nat.le_of_ble_eq_true rfl) (by show _ ≤ 171; omega) (by show _ ≤ 7464; omega) dL_law_728 (fun r_245 u H locs hw hP hD hS => ?_)
        refine lv_iload hx hb dL_law_731 (lv_at hl 1 rfl) ?_
        refine lv_icmp_eq (tgt := 738) hx hb dL_law_733 (by decide) (fun c_253 => ?_) (fun c_253 => ?_)
        · have hw := hw.1 c_253
          refine lv_iload hx hb dL_law_738 (lv_at hl 1 rfl) ?_
          refine lv_if_ne (tgt := 762) hx hb dL_law_740 (by decide) (fun c_252 => ?_) (fun c_252 => ?_)
          · have hw := hw.1 c_252
            refine lv_goto (tgt := 1095) hx hb dL_law_762 (by decide) ?_
            obtain ⟨i4_246, ei4_246⟩ : ∃ y : Int32, y = i4_43 + 7 := ⟨_, rfl⟩
            have hw := hw i4_246 ei4_246
            refine lv_iinc (v := i4_246) (lv' := [(4, .int i4_246), (6, .int r_241), (5, .int r_235), (3, .ref Bn3), (2, .ref An2), (1, .ref An1), (0, .ref bS)]) hx hb dL_law_1095 hl (k := 2) rfl (by rw [ei4_246]; rfl) (by decide) rfl (fun ls hl => ?_)
            refine lv_goto (tgt := 23) hx hb dL_law_1098 (by decide) ?_
            refine W.widen (k := 32 + (kk + 1)) (n := 6374 + 6 * (kk + 1)) (by omega) (by omega) ?_
            exact ihI23_87 _ (by rw [← hNI23_87]; exact hw.2) i4_246 row_44 rc_45 wa_46 wb_47 wlo_48 whi_49 wtot_50 lsm_236 nsm_237 lst_238 nst_239 lgu_55 ngu_56 lgd_57 ngd_58 leu_59 neu_60 led_61 ned_62 lfu_63 nfu_64 lfd_65 nfd_66 ans_67 rfc_68 rfb_69 mrow_70 mrs_71 ma_72 mb_73 mlo_74 mhi_75 man_76 mtl_77 mtm_78 fig_79 len_80 top_81 bel_82 thr_242 trm_243 who_244 out_240 rfl hw.1 (kk + 1) (by omega) (by rw [ei4_246, hik]; exact k_law7 kk) _ _ _ hP hD hS (lv_sub hl [0, 3, 4, 5, 6] rfl)
          · have hw := hw.2 c_252
            refine lv_aload_n hx hb dL_law_743 rfl (lv_at hl 3 rfl) ?_
            refine lv_iconst (v := 0) hx hb dL_law_744 (by decide) ?_
            obtain ⟨hin, hw⟩ := hw
            refine k_lald hx hb hK hP 31 rfl hin dL_law_745 ?_
            refine lv_iload hx hb dL_law_746 (lv_at hl 0 rfl) ?_
            refine lv_if_eq (tgt := 755) hx hb dL_law_748 (by decide) (fun c_251 => ?_) (fun c_251 => ?_)
            · have hw := hw.1 c_251
              refine lv_lconst (v := 0) hx hb dL_law_755 (by decide) ?_
              refine k_lif_eq (tgt := 762) hx hb dL_law_756 dL_law_757 (by decide) (fun c_248 => ?_) (fun c_248 => ?_)
              · have hw := hw.1 c_248
                refine lv_goto (tgt := 1095) hx hb dL_law_762 (by decide) ?_
                obtain ⟨i4_247, ei4_247⟩ : ∃ y : Int32, y = i4_43 + 7 := ⟨_, rfl⟩
                have hw := hw i4_247 ei4_247
                refine lv_iinc (v := i4_247) (lv' := [(4, .int i4_247), (6, .int r_241), (5, .int r_235), (3, .ref Bn3), (2, .ref An2), (1, .ref An1), (0, .ref bS)]) hx hb dL_law_1095 hl (k := 2) rfl (by rw [ei4_247]; rfl) (by decide) rfl (fun ls hl => ?_)
                refine lv_goto (tgt := 23) hx hb dL_law_1098 (by decide) ?_
                refine W.widen (k := 32 + (kk + 1)) (n := 6374 + 6 * (kk + 1)) (by omega) (by omega) ?_
                exact ihI23_87 _ (by rw [← hNI23_87]; exact hw.2) i4_247 row_44 rc_45 wa_46 wb_47 wlo_48 whi_49 wtot_50 lsm_236 nsm_237 lst_238 nst_239 lgu_55 ngu_56 lgd_57 ngd_58 leu_59 neu_60 led_61 ned_62 lfu_63 nfu_64 lfd_65 nfd_66 ans_67 rfc_68 rfb_69 mrow_70 mrs_71 ma_72 mb_73 mlo_74 mhi_75 man_76 mtl_77 mtm_78 fig_79 len_80 top_81 bel_82 thr_242 trm_243 who_244 out_240 rfl hw.1 (kk + 1) (by omega) (by rw [ei4_247, hik]; exact k_law7 kk) _ _ _ hP hD hS (lv_sub hl [0, 3, 4, 5, 6] rfl)
              · have hw := hw.2 c_248
                refine lv_iconst (v := 0) hx hb dL_law_760 (by decide) ?_
                exact absurd hw (by decide)
            · have hw := hw.2 c_251
              refine lv_lconst (v := 1) hx hb dL_law_751 (by decide) ?_
              refine lv_goto (tgt := 756) hx hb dL_law_752 (by decide) ?_
              refine k_lif_eq (tgt := 762) hx hb dL_law_756 dL_law_757 (by decide) (fun c_250 => ?_) (fun c_250 => ?_)
              · have hw := hw.1 c_250
                refine lv_goto (tgt := 1095) hx hb dL_law_762 (by decide) ?_
                obtain ⟨i4_249, ei4_249⟩ : ∃ y : Int32, y = i4_43 + 7 := ⟨_, rfl⟩
                have hw := hw i4_249 ei4_249
                refine lv_iinc (v := i4_249) (lv' := [(4, .int i4_249), (6, .int r_241), (5, .int r_235), (3, .ref Bn3), (2, .ref An2), (1, .ref An1), (0, .ref bS)]) hx hb dL_law_1095 hl (k := 2) rfl (by rw [ei4_249]; rfl) (by decide) rfl (fun ls hl => ?_)
                refine lv_goto (tgt := 23) hx hb dL_law_1098 (by decide) ?_
                refine W.widen (k := 32 + (kk + 1)) (n := 6374 + 6 * (kk + 1)) (by omega) (by omega) ?_
                exact ihI23_87 _ (by rw [← hNI23_87]; exact hw.2) i4_249 row_44 rc_45 wa_46 wb_47 wlo_48 whi_49 wtot_50 lsm_236 nsm_237 lst_238 nst_239 lgu_55 ngu_56 lgd_57 ngd_58 leu_59 neu_60 led_61 ned_62 lfu_63 nfu_64 lfd_65 nfd_66 ans_67 rfc_68 rfb_69 mrow_70 mrs_71 ma_72 mb_73 mlo_74 mhi_75 man_76 mtl_77 mtm_78 fig_79 len_80 top_81 bel_82 thr_242 trm_243 who_244 out_240 rfl hw.1 (kk + 1) (by omega) (by rw [ei4_249, hik]; exact k_law7 kk) _ _ _ hP hD hS (lv_sub hl [0, 3, 4, 5, 6] rfl)
              · have hw := hw.2 c_250
                refine lv_iconst (v := 0) hx hb dL_law_760 (by decide) ?_
                exact absurd hw (by decide)
        · have hw := hw.2 c_253
          refine lv_iconst (v := 0) hx hb dL_law_736 (by decide) ?_
          exact absurd hw (by decide)
      have hw := hw.2 c_234
      by_cases c_254 : v_89 = 12
      · have hw := hw.1 c_254
        refine lv_tableIn (off := 725) (tgt := 765) hx hb dL_law_40 (by rw [c_254]; decide) (by rw [c_254]; decide) (by rw [c_254]; rfl) (by decide) ?_
        refine lv_aload_n hx hb dL_law_765 rfl (lv_at hl 3 rfl) ?_
        refine lv_aload_n hx hb dL_law_766 rfl (lv_at hl 4 rfl) ?_
        refine lv_iload hx hb dL_law_767 (lv_at hl 0 rfl) ?_
        refine lv_iconst (v := 1) hx hb dL_law_769 (by decide) ?_
        refine lv_iadd hx hb dL_law_770 ?_
        obtain ⟨hin, hw⟩ := hw
        refine va_sld hx hb hX hbl hbA hS hin dL_law_771 ?_
        refine lv_aload_n hx hb dL_law_772 rfl (lv_at hl 1 rfl) ?_
        refine k_SW (M_L_least l hst sa G cI cJ An1 Bx Aw As Asm Bsm Ast Bst Ag Agu Bgu Agd Bgd Ae Aeu Beu Aed Bed Af Afu Bfu Afd Bfd Bn3 row_44 rc_45 wa_46 wb_47 wlo_48 whi_49 wtot_50 lsm_51 nsm_52 lst_53 nst_54 lgu_55 ngu_56 lgd_57 ngd_58 leu_59 neu_60 led_61 ned_62 lfu_63 nfu_64 lfd_65 nfd_66 ans_67 rfc_68 rfb_69 out_86 (xs (i4_43 + 1).toNatClampNeg) _ hw) ⟨hx, hb, hml, hown, hts⟩ (vx_cwSW 3 hts gL_law_L_least rfl rfl rfl (by decide +kernel) ⟨(Nat.le_of_ble_eq_true rfl), (Nat.le_of_ble_eq_true rfl)⟩) hK hP hD hS hA hE [0, 1, 2, 3, 4, 5, 6, 7, 8, 9, 10, 11, 12, 13, 14, 15, 16, 17, 18, 19, 20, 21, 22, 31] [23, 24, 25, 26, 27, 28, 29, 30] [8, 9, 10, 11, 12, 13, 14, 15, 16, 17, 18, 19, 20, 21, 22, 23, 24, 25, 26, 27, 28, 29, 30, 0, 1, 2, 3, 4, 5, 6, 7, 31] (wr := [(An2, .inr (5, [.ref Bmr, .int mrs_71, .int ma_72, .int mb_73, .int mlo_74, .int mhi_75, .int man_76, .int mtl_77, .int mtm_78, .ref Bfg, .ref Bln, .ref Btp, .ref Bbl, .int thr_83, .ref Btr, .ref Bwh])), (Bmr, .inl (cI, 60, .inl mrow_70)), (Bfg, .inl (cJ, 4608, .inr (.inl fig_79))), (Bln, .inl (cI, 18, .inl len_80)), (Btp, .inl (cJ, 520, .inr (.inl top_81))), (Bbl, .inl (cJ, 520, .inr (.inl bel_82))), (Btr, .inl (cI, 10, .inl trm_84)), (Bwh, .inl (cI, 10, .inl who_85))]) (wn := fun u : (Nat → Int32) × (Int32) × (Nat → Int32) × (Int32) × (Nat → Int64) => (wLaw cI cJ An1 Bx Aw As Asm Bsm Ast Bst Ag Agu Bgu Agd Bgd Ae Aeu Beu Aed Bed Af Afu Bfu Afd Bfd An2 Bmr Bfg Bln Btp Bbl Btr Bwh Bn3 row_44 rc_45 wa_46 wb_47 wlo_48 whi_49 wtot_50 u.1 u.2.1 u.2.2.1 u.2.2.2.1 lgu_55 ngu_56 lgd_57 ngd_58 leu_59 neu_60 led_61 ned_62 lfu_63 nfu_64 lfd_65 nfd_66 ans_67 rfc_68 rfb_69 mrow_70 mrs_71 ma_72 mb_73 mlo_74 mhi_75 man_76 mtl_77 mtm_78 fig_79 len_80 top_81 bel_82 thr_83 trm_84 who_85 u.2.2.2.2)) rfl rfl (by decide) (by decide) (by decide) (by decide) (fun _ => rfl) (rest := []) rfl hl.1 rfl (Nat.le_of_ble_eq_true rfl) (by show _ ≤ 171; omega) (by show _ ≤ 7464; omega) dL_law_773 (fun r_255 u H locs hw hP hD hS => ?_)
        obtain ⟨lsm_256, nsm_257, lst_258, nst_259, out_260⟩ := u
        have hP : va_P G vwCl (wLaw cI cJ An1 Bx Aw As Asm Bsm Ast Bst Ag Agu Bgu Agd Bgd Ae Aeu Beu Aed Bed Af Afu Bfu Afd Bfd An2 Bmr Bfg Bln Btp Bbl Btr Bwh Bn3 row_44 rc_45 wa_46 wb_47 wlo_48 whi_49 wtot_50 lsm_256 nsm_257 lst_258 nst_259 lgu_55 ngu_56 lgd_57 ngd_58 leu_59 neu_60 led_61 ned_62 lfu_63 nfu_64 lfd_65 nfd_66 ans_67 rfc_68 rfb_69 mrow_70 mrs_71 ma_72 mb_73 mlo_74 mhi_75 man_76 mtl_77 mtm_78 fig_79 len_80 top_81 bel_82 thr_83 trm_84 who_85 out_260) H := hP
        have hD : va_D A (wLaw cI cJ An1 Bx Aw As Asm Bsm Ast Bst Ag Agu Bgu Agd Bgd Ae Aeu Beu Aed Bed Af Afu Bfu Afd Bfd An2 Bmr Bfg Bln Btp Bbl Btr Bwh Bn3 row_44 rc_45 wa_46 wb_47 wlo_48 whi_49 wtot_50 lsm_256 nsm_257 lst_258 nst_259 lgu_55 ngu_56 lgd_57 ngd_58 leu_59 neu_60 led_61 ned_62 lfu_63 nfu_64 lfd_65 nfd_66 ans_67 rfc_68 rfb_69 mrow_70 mrs_71 ma_72 mb_73 mlo_74 mhi_75 man_76 mtl_77 mtm_78 fig_79 len_80 top_81 bel_82 thr_83 trm_84 who_85 out_260) := hD
        refine lv_istore (lv' := [(5, .int r_255), (4, .int i4_43), (3, .ref Bn3), (2, .ref An2), (1, .ref An1), (0, .ref bS)]) hx hb dL_law_776 hl (by decide) rfl (fun ls hl => ?_)
        refine lv_aload_n hx hb dL_law_778 rfl (lv_at hl 3 rfl) ?_
        refine lv_aload_n hx hb dL_law_779 rfl (lv_at hl 5 rfl) ?_
        refine lv_iload hx hb dL_law_780 (lv_at hl 1 rfl) ?_
        refine lv_iconst (v := 1) hx hb dL_law_782 (by decide) ?_
        refine lv_iadd hx hb dL_law_783 ?_
        obtain ⟨hin, hw⟩ := hw
        refine va_sld hx hb hX hbl hbA hS hin dL_law_784 ?_
        refine k_Vi (M_X5_least l G cI cJ An2 Bmr Bfg Bln Btp Bbl Btr Bwh mrow_70 mrs_71 ma_72 mb_73 mlo_74 mhi_75 man_76 mtl_77 mtm_78 fig_79 len_80 top_81 bel_82 thr_83 trm_84 who_85 (xs (i4_43 + 1).toNatClampNeg) _ hw) ⟨hx, hb, hml, hown, hts⟩ (cwV 1 hts gL_law_X5_least rfl rfl rfl (by decide +kernel) ⟨Nat.le_of_ble_eq_true rfl, Nat.le_of_ble_eq_true rfl⟩) hK hP hD hS hA [23, 24, 25, 26, 27, 28, 29, 30] [0, 1, 2, 3, 4, 5, 6, 7, 8, 9, 10, 11, 12, 13, 14, 15, 16, 17, 18, 19, 20, 21, 22, 31] [0, 1, 2, 3, 4, 5, 6, 7, 8, 9, 10, 11, 12, 13, 14, 15, 16, 17, 18, 19, 20, 21, 22, 24, 25, 26, 27, 28, 29, 30, 31, 23] (wr := [(An1, .inr (4, [.ref Bx, .int rc_45, .ref Aw, .ref As, .ref Ag, .ref Ae, .ref Af, .int ans_67, .int rfc_68, .int rfb_69])), (Bx, .inl (cI, 60, .inl row_44)), (Aw, .inr (3, [.int wa_46, .int wb_47, .int wlo_48, .int whi_49, .long wtot_50])), (As, .inr (2, [.ref Asm, .ref Ast])), (Asm, .inr (1, [.ref Bsm, .int nsm_257])), (Bsm, .inl (cI, 64, .inl lsm_256)), (Ast, .inr (1, [.ref Bst, .int nst_259])), (Bst, .inl (cI, 64, .inl lst_258)), (Ag, .inr (0, [.ref Agu, .ref Agd])), (Agu, .inr (1, [.ref Bgu, .int ngu_56])), (Bgu, .inl (cI, 64, .inl lgu_55)), (Agd, .inr (1, [.ref Bgd, .int ngd_58])), (Bgd, .inl (cI, 64, .inl lgd_57)), (Ae, .inr (0, [.ref Aeu, .ref Aed])), (Aeu, .inr (1, [.ref Beu, .int neu_60])), (Beu, .inl (cI, 64, .inl leu_59)), (Aed, .inr (1, [.ref Bed, .int ned_62])), (Bed, .inl (cI, 64, .inl led_61)), (Af, .inr (0, [.ref Afu, .ref Afd])), (Afu, .inr (1, [.ref Bfu, .int nfu_64])), (Bfu, .inl (cI, 64, .inl lfu_63)), (Afd, .inr (1, [.ref Bfd, .int nfd_66])), (Bfd, .inl (cI, 64, .inl lfd_65)), (Bn3, .inl (cJ, 1, .inr (.inl out_260)))]) (wn := fun u : (Int32) × (Nat → Int32) × (Nat → Int32) => (wLaw cI cJ An1 Bx Aw As Asm Bsm Ast Bst Ag Agu Bgu Agd Bgd Ae Aeu Beu Aed Bed Af Afu Bfu Afd Bfd An2 Bmr Bfg Bln Btp Bbl Btr Bwh Bn3 row_44 rc_45 wa_46 wb_47 wlo_48 whi_49 wtot_50 lsm_256 nsm_257 lst_258 nst_259 lgu_55 ngu_56 lgd_57 ngd_58 leu_59 neu_60 led_61 ned_62 lfu_63 nfu_64 lfd_65 nfd_66 ans_67 rfc_68 rfb_69 mrow_70 mrs_71 ma_72 mb_73 mlo_74 mhi_75 man_76 mtl_77 mtm_78 fig_79 len_80 top_81 bel_82 u.1 u.2.1 u.2.2 out_260)) rfl rfl (by decide) (by decide) (by decide) (by decide) (fun _ => rfl) (rest := []) (q0 := 0) rfl rfl rfl hl.1 rfl (Nat.le_of_ble_eq_true rfl) (by show _ ≤ 171; omega) (by show _ ≤ 7464; omega) dL_law_785 (fun r_261 u H locs hw hP hD hS => ?_)
        obtain ⟨thr_262, trm_263, who_264⟩ := u
        have hP : va_P G vwCl (wLaw cI cJ An1 Bx Aw As Asm Bsm Ast Bst Ag Agu Bgu Agd Bgd Ae Aeu Beu Aed Bed Af Afu Bfu Afd Bfd An2 Bmr Bfg Bln Btp Bbl Btr Bwh Bn3 row_44 rc_45 wa_46 wb_47 wlo_48 whi_49 wtot_50 lsm_256 nsm_257 lst_258 nst_259 lgu_55 ngu_56 lgd_57 ngd_58 leu_59 neu_60 led_61 ned_62 lfu_63 nfu_64 lfd_65 nfd_66 ans_67 rfc_68 rfb_69 mrow_70 mrs_71 ma_72 mb_73 mlo_74 mhi_75 man_76 mtl_77 mtm_78 fig_79 len_80 top_81 bel_82 thr_262 trm_263 who_264 out_260) H := hP
        have hD : va_D A (wLaw cI cJ An1 Bx Aw As Asm Bsm Ast Bst Ag Agu Bgu Agd Bgd Ae Aeu Beu Aed Bed Af Afu Bfu Afd Bfd An2 Bmr Bfg Bln Btp Bbl Btr Bwh Bn3 row_44 rc_45 wa_46 wb_47 wlo_48 whi_49 wtot_50 lsm_256 nsm_257 lst_258 nst_259 lgu_55 ngu_56 lgd_57 ngd_58 leu_59 neu_60 led_61 ned_62 lfu_63 nfu_64 lfd_65 nfd_66 ans_67 rfc_68 rfb_69 mrow_70 mrs_71 ma_72 mb_73 mlo_74 mhi_75 man_76 mtl_77 mtm_78 fig_79 len_80 top_81 bel_82 thr_262 trm_263 who_264 out_260) := hD
        refine lv_istore (lv' := [(6, .int r_261), (5, .int r_255), (4, .int i4_43), (3, .ref Bn3), (2, .ref An2), (1, .ref An1), (0, .ref bS)]) hx hb dL_law_788 hl (by decide) rfl (fun ls hl => ?_)
        refine lv_aload_n hx hb dL_law_790 rfl (lv_at hl 4 rfl) ?_
        refine k_Vi (M_X5_thrown l G cI cJ An2 Bmr Bfg Bln Btp Bbl Btr Bwh mrow_70 mrs_71 ma_72 mb_73 mlo_74 mhi_75 man_76 mtl_77 mtm_78 fig_79 len_80 top_81 bel_82 thr_262 trm_263 who_264 _ hw) ⟨hx, hb, hml, hown, hts⟩ (cwV 0 hts gL_law_X5_thrown rfl rfl rfl (by decide +kernel) ⟨Nat.le_of_ble_eq_true rfl, Nat.le_of_ble_eq_true rfl⟩) hK hP hD hS hA [23, 24, 25, 26, 27, 28, 29, 30] [0, 1, 2, 3, 4, 5, 6, 7, 8, 9, 10, 11, 12, 13, 14, 15, 16, 17, 18, 19, 20, 21, 22, 31] [0, 1, 2, 3, 4, 5, 6, 7, 8, 9, 10, 11, 12, 13, 14, 15, 16, 17, 18, 19, 20, 21, 22, 24, 25, 26, 27, 28, 29, 30, 31, 23] (wr := [(An1, .inr (4, [.ref Bx, .int rc_45, .ref Aw, .ref As, .ref Ag, .ref Ae, .ref Af, .int ans_67, .int rfc_68, .int rfb_69])), (Bx, .inl (cI, 60, .inl row_44)), (Aw, .inr (3, [.int wa_46, .int wb_47, .int wlo_48, .int whi_49, .long wtot_50])), (As, .inr (2, [.ref Asm, .ref Ast])), (Asm, .inr (1, [.ref Bsm, .int nsm_257])), (Bsm, .inl (cI, 64, .inl lsm_256)), (Ast, .inr (1, [.ref Bst, .int nst_259])), (Bst, .inl (cI, 64, .inl lst_258)), (Ag, .inr (0, [.ref Agu, .ref Agd])), (Agu, .inr (1, [.ref Bgu, .int ngu_56])), (Bgu, .inl (cI, 64, .inl lgu_55)), (Agd, .inr (1, [.ref Bgd, .int ngd_58])), (Bgd, .inl (cI, 64, .inl lgd_57)), (Ae, .inr (0, [.ref Aeu, .ref Aed])), (Aeu, .inr (1, [.ref Beu, .int neu_60])), (Beu, .inl (cI, 64, .inl leu_59)), (Aed, .inr (1, [.ref Bed, .int ned_62])), (Bed, .inl (cI, 64, .inl led_61)), (Af, .inr (0, [.ref Afu, .ref Afd])), (Afu, .inr (1, [.ref Bfu, .int nfu_64])), (Bfu, .inl (cI, 64, .inl lfu_63)), (Afd, .inr (1, [.ref Bfd, .int nfd_66])), (Bfd, .inl (cI, 64, .inl lfd_65)), (Bn3, .inl (cJ, 1, .inr (.inl out_260)))]) (wn := fun u : Unit => (wLaw cI cJ An1 Bx Aw As Asm Bsm Ast Bst Ag Agu Bgu Agd Bgd Ae Aeu Beu Aed Bed Af Afu Bfu Afd Bfd An2 Bmr Bfg Bln Btp Bbl Btr Bwh Bn3 row_44 rc_45 wa_46 wb_47 wlo_48 whi_49 wtot_50 lsm_256 nsm_257 lst_258 nst_259 lgu_55 ngu_56 lgd_57 ngd_58 leu_59 neu_60 led_61 ned_62 lfu_63 nfu_64 lfd_65 nfd_66 ans_67 rfc_68 rfb_69 mrow_70 mrs_71 ma_72 mb_73 mlo_74 mhi_75 man_76 mtl_77 mtm_78 fig_79 len_80 top_81 bel_82 thr_262 trm_263 who_264 out_260)) rfl rfl (by decide) (by decide) (by decide) (by decide) (fun _ => rfl) (rest := []) (q0 := 0) rfl rfl rfl hl.1 rfl (Nat.le_of_ble_eq_true rfl) (by show _ ≤ 171; omega) (by show _ ≤ 7464; omega) dL_law_791 (fun r_265 u H locs hw hP hD hS => ?_)
        refine lv_iload hx hb dL_law_794 (lv_at hl 1 rfl) ?_
        refine lv_icmp_eq (tgt := 801) hx hb dL_law_796 (by decide) (fun c_270 => ?_) (fun c_270 => ?_)
        · have hw := hw.1 c_270
          refine lv_iload hx hb dL_law_801 (lv_at hl 1 rfl) ?_
          refine lv_if_ne (tgt := 818) hx hb dL_law_803 (by decide) (fun c_269 => ?_) (fun c_269 => ?_)
          · have hw := hw.1 c_269
            refine lv_goto (tgt := 1095) hx hb dL_law_818 (by decide) ?_
            obtain ⟨i4_266, ei4_266⟩ : ∃ y : Int32, y = i4_43 + 7 := ⟨_, rfl⟩
            have hw := hw i4_266 ei4_266
            refine lv_iinc (v := i4_266) (lv' := [(4, .int i4_266), (6, .int r_261), (5, .int r_255), (3, .ref Bn3), (2, .ref An2), (1, .ref An1), (0, .ref bS)]) hx hb dL_law_1095 hl (k := 2) rfl (by rw [ei4_266]; rfl) (by decide) rfl (fun ls hl => ?_)
            refine lv_goto (tgt := 23) hx hb dL_law_1098 (by decide) ?_
            refine W.widen (k := 32 + (kk + 1)) (n := 6374 + 6 * (kk + 1)) (by omega) (by omega) ?_
            exact ihI23_87 _ (by rw [← hNI23_87]; exact hw.2) i4_266 row_44 rc_45 wa_46 wb_47 wlo_48 whi_49 wtot_50 lsm_256 nsm_257 lst_258 nst_259 lgu_55 ngu_56 lgd_57 ngd_58 leu_59 neu_60 led_61 ned_62 lfu_63 nfu_64 lfd_65 nfd_66 ans_67 rfc_68 rfb_69 mrow_70 mrs_71 ma_72 mb_73 mlo_74 mhi_75 man_76 mtl_77 mtm_78 fig_79 len_80 top_81 bel_82 thr_262 trm_263 who_264 out_260 rfl hw.1 (kk + 1) (by omega) (by rw [ei4_266, hik]; exact k_law7 kk) _ _ _ hP hD hS (lv_sub hl [0, 3, 4, 5, 6] rfl)
          · have hw := hw.2 c_269
            refine lv_aload_n hx hb dL_law_806 rfl (lv_at hl 3 rfl) ?_
            refine lv_iconst (v := 0) hx hb dL_law_807 (by decide) ?_
            obtain ⟨hin, hw⟩ := hw
            refine k_lald hx hb hK hP 31 rfl hin dL_law_808 ?_
            refine lv_iload hx hb dL_law_809 (lv_at hl 0 rfl) ?_
            refine lv_i2l (v := r_261.toInt64) hx hb dL_law_811 rfl ?_
            refine k_lif_eq (tgt := 818) hx hb dL_law_812 dL_law_813 (by decide) (fun c_268 => ?_) (fun c_268 => ?_)
            · have hw := hw.1 c_268
              refine lv_goto (tgt := 1095) hx hb dL_law_818 (by decide) ?_
              obtain ⟨i4_267, ei4_267⟩ : ∃ y : Int32, y = i4_43 + 7 := ⟨_, rfl⟩
              have hw := hw i4_267 ei4_267
              refine lv_iinc (v := i4_267) (lv' := [(4, .int i4_267), (6, .int r_261), (5, .int r_255), (3, .ref Bn3), (2, .ref An2), (1, .ref An1), (0, .ref bS)]) hx hb dL_law_1095 hl (k := 2) rfl (by rw [ei4_267]; rfl) (by decide) rfl (fun ls hl => ?_)
              refine lv_goto (tgt := 23) hx hb dL_law_1098 (by decide) ?_
              refine W.widen (k := 32 + (kk + 1)) (n := 6374 + 6 * (kk + 1)) (by omega) (by omega) ?_
              exact ihI23_87 _ (by rw [← hNI23_87]; exact hw.2) i4_267 row_44 rc_45 wa_46 wb_47 wlo_48 whi_49 wtot_50 lsm_256 nsm_257 lst_258 nst_259 lgu_55 ngu_56 lgd_57 ngd_58 leu_59 neu_60 led_61 ned_62 lfu_63 nfu_64 lfd_65 nfd_66 ans_67 rfc_68 rfb_69 mrow_70 mrs_71 ma_72 mb_73 mlo_74 mhi_75 man_76 mtl_77 mtm_78 fig_79 len_80 top_81 bel_82 thr_262 trm_263 who_264 out_260 rfl hw.1 (kk + 1) (by omega) (by rw [ei4_267, hik]; exact k_law7 kk) _ _ _ hP hD hS (lv_sub hl [0, 3, 4, 5, 6] rfl)
            · have hw := hw.2 c_268
              refine lv_iconst (v := 0) hx hb dL_law_816 (by decide) ?_
              exact absurd hw (by decide)
        · have hw := hw.2 c_270
          refine lv_iconst (v := 0) hx hb dL_law_799 (by decide) ?_
          exact absurd hw (by decide)
      have hw := hw.2 c_254
      by_cases c_271 : v_89 = 13
      · have hw := hw.1 c_271
        refine lv_tableIn (off := 781) (tgt := 821) hx hb dL_law_40 (by rw [c_271]; decide) (by rw [c_271]; decide) (by rw [c_271]; rfl) (by decide) ?_
        refine lv_aload_n hx hb dL_law_821 rfl (lv_at hl 3 rfl) ?_
        refine lv_aload_n hx hb dL_law_822 rfl (lv_at hl 4 rfl) ?_
        refine lv_iload hx hb dL_law_823 (lv_at hl 0 rfl) ?_
        refine lv_iconst (v := 1) hx hb dL_law_825 (by decide) ?_
        refine lv_iadd hx hb dL_law_826 ?_
        obtain ⟨hin, hw⟩ := hw
        refine va_sld hx hb hX hbl hbA hS hin dL_law_827 ?_
        refine lv_aload_n hx hb dL_law_828 rfl (lv_at hl 4 rfl) ?_
        refine lv_iload hx hb dL_law_829 (lv_at hl 0 rfl) ?_
        refine lv_iconst (v := 2) hx hb dL_law_831 (by decide) ?_
        refine lv_iadd hx hb dL_law_832 ?_
        obtain ⟨hin, hw⟩ := hw
        refine va_sld hx hb hX hbl hbA hS hin dL_law_833 ?_
        refine lv_aload_n hx hb dL_law_834 rfl (lv_at hl 4 rfl) ?_
        refine lv_iload hx hb dL_law_835 (lv_at hl 0 rfl) ?_
        refine lv_iconst (v := 3) hx hb dL_law_837 (by decide) ?_
        refine lv_iadd hx hb dL_law_838 ?_
        obtain ⟨hin, hw⟩ := hw
        refine va_sld hx hb hX hbl hbA hS hin dL_law_839 ?_
        refine lv_aload_n hx hb dL_law_840 rfl (lv_at hl 4 rfl) ?_
        refine lv_iload hx hb dL_law_841 (lv_at hl 0 rfl) ?_
        refine lv_iconst (v := 4) hx hb dL_law_843 (by decide) ?_
        refine lv_iadd hx hb dL_law_844 ?_
        obtain ⟨hin, hw⟩ := hw
        refine va_sld hx hb hX hbl hbA hS hin dL_law_845 ?_
        refine lv_aload_n hx hb dL_law_846 rfl (lv_at hl 4 rfl) ?_
        refine lv_iload hx hb dL_law_847 (lv_at hl 0 rfl) ?_
        refine lv_iconst (v := 5) hx hb dL_law_849 (by decide) ?_
        refine lv_iadd hx hb dL_law_850 ?_
        obtain ⟨hin, hw⟩ := hw
        refine va_sld hx hb hX hbl hbA hS hin dL_law_851 ?_
        refine lv_i2l (v := (xs (i4_43 + 5).toNatClampNeg).toInt64) hx hb dL_law_852 rfl ?_
        refine lv_bipush (v := 32) hx hb dL_law_853 (by decide) ?_
        refine lv_lshl (v := ((xs (i4_43 + 5).toNatClampNeg).toInt64) <<< ((32 : Int32).toInt64 &&& 63)) hx hb dL_law_855 rfl ?_
        refine lv_topl (fun v_272 ev_272 => ?_)
        have hw := hw v_272 ev_272
        refine lv_aload_n hx hb dL_law_856 rfl (lv_at hl 4 rfl) ?_
        refine lv_iload hx hb dL_law_857 (lv_at hl 0 rfl) ?_
        refine lv_bipush (v := 6) hx hb dL_law_859 (by decide) ?_
        refine lv_iadd hx hb dL_law_861 ?_
        obtain ⟨hin, hw⟩ := hw
        refine va_sld hx hb hX hbl hbA hS hin dL_law_862 ?_
        refine lv_i2l (v := (xs (i4_43 + 6).toNatClampNeg).toInt64) hx hb dL_law_863 rfl ?_
        refine lv_ldc2 (v := 4294967295) hx hb hown (hts _ fL_law_94) dL_law_864 ?_
        refine lv_land hx hb dL_law_867 ?_
        refine lv_topl (fun v_273 ev_273 => ?_)
        have hw := hw v_273 ev_273
        refine lv_lor hx hb dL_law_868 ?_
        refine lv_aload_n hx hb dL_law_869 rfl (lv_at hl 1 rfl) ?_
        refine k_SW (M_L_ask l hst sa G cI cJ An1 Bx Aw As Asm Bsm Ast Bst Ag Agu Bgu Agd Bgd Ae Aeu Beu Aed Bed Af Afu Bfu Afd Bfd Bn3 row_44 rc_45 wa_46 wb_47 wlo_48 whi_49 wtot_50 lsm_51 nsm_52 lst_53 nst_54 lgu_55 ngu_56 lgd_57 ngd_58 leu_59 neu_60 led_61 ned_62 lfu_63 nfu_64 lfd_65 nfd_66 ans_67 rfc_68 rfb_69 out_86 (xs (i4_43 + 1).toNatClampNeg) (xs (i4_43 + 2).toNatClampNeg) (xs (i4_43 + 3).toNatClampNeg) (xs (i4_43 + 4).toNatClampNeg) (v_272 ||| v_273) _ hw) ⟨hx, hb, hml, hown, hts⟩ (vx_cwSW 7 hts gL_law_L_ask rfl rfl rfl (by decide +kernel) ⟨(Nat.le_of_ble_eq_true rfl), (Nat.le_of_ble_eq_true rfl)⟩) hK hP hD hS hA hE [0, 1, 2, 3, 4, 5, 6, 7, 8, 9, 10, 11, 12, 13, 14, 15, 16, 17, 18, 19, 20, 21, 22, 31] [23, 24, 25, 26, 27, 28, 29, 30] [8, 9, 10, 11, 12, 13, 14, 15, 16, 17, 18, 19, 20, 21, 22, 23, 24, 25, 26, 27, 28, 29, 30, 0, 1, 2, 3, 4, 5, 6, 7, 31] (wr := [(An2, .inr (5, [.ref Bmr, .int mrs_71, .int ma_72, .int mb_73, .int mlo_74, .int mhi_75, .int man_76, .int mtl_77, .int mtm_78, .ref Bfg, .ref Bln, .ref Btp, .ref Bbl, .int thr_83, .ref Btr, .ref Bwh])), (Bmr, .inl (cI, 60, .inl mrow_70)), (Bfg, .inl (cJ, 4608, .inr (.inl fig_79))), (Bln, .inl (cI, 18, .inl len_80)), (Btp, .inl (cJ, 520, .inr (.inl top_81))), (Bbl, .inl (cJ, 520, .inr (.inl bel_82))), (Btr, .inl (cI, 10, .inl trm_84)), (Bwh, .inl (cI, 10, .inl who_85))]) (wn := fun u : (Nat → Int32) × (Int32) × (Nat → Int32) × (Int32) × (Nat → Int32) × (Int32) × (Nat → Int32) × (Int32) × (Nat → Int32) × (Int32) × (Nat → Int32) × (Int32) × (Int32) × (Int32) × (Int32) × (Nat → Int64) => (wLaw cI cJ An1 Bx Aw As Asm Bsm Ast Bst Ag Agu Bgu Agd Bgd Ae Aeu Beu Aed Bed Af Afu Bfu Afd Bfd An2 Bmr Bfg Bln Btp Bbl Btr Bwh Bn3 row_44 rc_45 wa_46 wb_47 wlo_48 whi_49 wtot_50 u.1 u.2.1 u.2.2.1 u.2.2.2.1 lgu_55 ngu_56 lgd_57 ngd_58 u.2.2.2.2.1 u.2.2.2.2.2.1 u.2.2.2.2.2.2.1 u.2.2.2.2.2.2.2.1 u.2.2.2.2.2.2.2.2.1 u.2.2.2.2.2.2.2.2.2.1 u.2.2.2.2.2.2.2.2.2.2.1 u.2.2.2.2.2.2.2.2.2.2.2.1 u.2.2.2.2.2.2.2.2.2.2.2.2.1 u.2.2.2.2.2.2.2.2.2.2.2.2.2.1 u.2.2.2.2.2.2.2.2.2.2.2.2.2.2.1 mrow_70 mrs_71 ma_72 mb_73 mlo_74 mhi_75 man_76 mtl_77 mtm_78 fig_79 len_80 top_81 bel_82 thr_83 trm_84 who_85 u.2.2.2.2.2.2.2.2.2.2.2.2.2.2.2)) rfl rfl (by decide) (by decide) (by decide) (by decide) (fun _ => rfl) (rest := []) rfl hl.1 rfl (Nat.le_of_ble_eq_true rfl) (by show _ ≤ 171; omega) (by show _ ≤ 7464; omega) dL_law_870 (fun r_274 u H locs hw hP hD hS => ?_)
        obtain ⟨lsm_275, nsm_276, lst_277, nst_278, leu_279, neu_280, led_281, ned_282, lfu_283, nfu_284, lfd_285, nfd_286, ans_287, rfc_288, rfb_289, out_290⟩ := u
        have hP : va_P G vwCl (wLaw cI cJ An1 Bx Aw As Asm Bsm Ast Bst Ag Agu Bgu Agd Bgd Ae Aeu Beu Aed Bed Af Afu Bfu Afd Bfd An2 Bmr Bfg Bln Btp Bbl Btr Bwh Bn3 row_44 rc_45 wa_46 wb_47 wlo_48 whi_49 wtot_50 lsm_275 nsm_276 lst_277 nst_278 lgu_55 ngu_56 lgd_57 ngd_58 leu_279 neu_280 led_281 ned_282 lfu_283 nfu_284 lfd_285 nfd_286 ans_287 rfc_288 rfb_289 mrow_70 mrs_71 ma_72 mb_73 mlo_74 mhi_75 man_76 mtl_77 mtm_78 fig_79 len_80 top_81 bel_82 thr_83 trm_84 who_85 out_290) H := hP
        have hD : va_D A (wLaw cI cJ An1 Bx Aw As Asm Bsm Ast Bst Ag Agu Bgu Agd Bgd Ae Aeu Beu Aed Bed Af Afu Bfu Afd Bfd An2 Bmr Bfg Bln Btp Bbl Btr Bwh Bn3 row_44 rc_45 wa_46 wb_47 wlo_48 whi_49 wtot_50 lsm_275 nsm_276 lst_277 nst_278 lgu_55 ngu_56 lgd_57 ngd_58 leu_279 neu_280 led_281 ned_282 lfu_283 nfu_284 lfd_285 nfd_286 ans_287 rfc_288 rfb_289 mrow_70 mrs_71 ma_72 mb_73 mlo_74 mhi_75 man_76 mtl_77 mtm_78 fig_79 len_80 top_81 bel_82 thr_83 trm_84 who_85 out_290) := hD
        refine lv_istore (lv' := [(5, .int r_274), (4, .int i4_43), (3, .ref Bn3), (2, .ref An2), (1, .ref An1), (0, .ref bS)]) hx hb dL_law_873 hl (by decide) rfl (fun ls hl => ?_)
        refine lv_aload_n hx hb dL_law_875 rfl (lv_at hl 3 rfl) ?_
        refine lv_aload_n hx hb dL_law_876 rfl (lv_at hl 5 rfl) ?_
        refine lv_iload hx hb dL_law_877 (lv_at hl 1 rfl) ?_
        refine lv_iconst (v := 1) hx hb dL_law_879 (by decide) ?_
        refine lv_iadd hx hb dL_law_880 ?_
        obtain ⟨hin, hw⟩ := hw
        refine va_sld hx hb hX hbl hbA hS hin dL_law_881 ?_
        refine lv_aload_n hx hb dL_law_882 rfl (lv_at hl 5 rfl) ?_
        refine lv_iload hx hb dL_law_883 (lv_at hl 1 rfl) ?_
        refine lv_iconst (v := 2) hx hb dL_law_885 (by decide) ?_
        refine lv_iadd hx hb dL_law_886 ?_
        obtain ⟨hin, hw⟩ := hw
        refine va_sld hx hb hX hbl hbA hS hin dL_law_887 ?_
        refine lv_aload_n hx hb dL_law_888 rfl (lv_at hl 5 rfl) ?_
        refine lv_iload hx hb dL_law_889 (lv_at hl 1 rfl) ?_
        refine lv_iconst (v := 3) hx hb dL_law_891 (by decide) ?_
        refine lv_iadd hx hb dL_law_892 ?_
        obtain ⟨hin, hw⟩ := hw
        refine va_sld hx hb hX hbl hbA hS hin dL_law_893 ?_
        refine lv_aload_n hx hb dL_law_894 rfl (lv_at hl 5 rfl) ?_
        refine lv_iload hx hb dL_law_895 (lv_at hl 1 rfl) ?_
        refine lv_iconst (v := 4) hx hb dL_law_897 (by decide) ?_
        refine lv_iadd hx hb dL_law_898 ?_
        obtain ⟨hin, hw⟩ := hw
        refine va_sld hx hb hX hbl hbA hS hin dL_law_899 ?_
        refine lv_aload_n hx hb dL_law_900 rfl (lv_at hl 5 rfl) ?_
        refine lv_iload hx hb dL_law_901 (lv_at hl 1 rfl) ?_
        refine lv_iconst (v := 5) hx hb dL_law_903 (by decide) ?_
        refine lv_iadd hx hb dL_law_904 ?_
        obtain ⟨hin, hw⟩ := hw
        refine va_sld hx hb hX hbl hbA hS hin dL_law_905 ?_
        refine lv_i2l (v := (xs (i4_43 + 5).toNatClampNeg).toInt64) hx hb dL_law_906 rfl ?_
        refine lv_bipush (v := 32) hx hb dL_law_907 (by decide) ?_
        refine lv_lshl (v := ((xs (i4_43 + 5).toNatClampNeg).toInt64) <<< ((32 : Int32).toInt64 &&& 63)) hx hb dL_law_909 rfl ?_
        refine lv_topl (fun v_291 ev_291 => ?_)
        have hw := hw v_291 ev_291
        refine lv_aload_n hx hb dL_law_910 rfl (lv_at hl 5 rfl) ?_
        refine lv_iload hx hb dL_law_911 (lv_at hl 1 rfl) ?_
        refine lv_bipush (v := 6) hx hb dL_law_913 (by decide) ?_
        refine lv_iadd hx hb dL_law_915 ?_
        obtain ⟨hin, hw⟩ := hw
        refine va_sld hx hb hX hbl hbA hS hin dL_law_916 ?_
        refine lv_i2l (v := (xs (i4_43 + 6).toNatClampNeg).toInt64) hx hb dL_law_917 rfl ?_
        refine lv_ldc2 (v := 4294967295) hx hb hown (hts _ fL_law_94) dL_law_918 ?_
        refine lv_land hx hb dL_law_921 ?_
        refine lv_topl (fun v_292 ev_292 => ?_)
        have hw := hw v_292 ev_292
        refine lv_lor hx hb dL_law_922 ?_
        refine k_Vi (M_X5_ask l G cI cJ An2 Bmr Bfg Bln Btp Bbl Btr Bwh mrow_70 mrs_71 ma_72 mb_73 mlo_74 mhi_75 man_76 mtl_77 mtm_78 fig_79 len_80 top_81 bel_82 thr_83 trm_84 who_85 (xs (i4_43 + 1).toNatClampNeg) (xs (i4_43 + 2).toNatClampNeg) (xs (i4_43 + 3).toNatClampNeg) (xs (i4_43 + 4).toNatClampNeg) (v_291 ||| v_292) _ hw) ⟨hx, hb, hml, hown, hts⟩ (cwV 5 hts gL_law_X5_ask rfl rfl rfl (by decide +kernel) ⟨Nat.le_of_ble_eq_true rfl, Nat.le_of_ble_eq_true rfl⟩) hK hP hD hS hA [23, 24, 25, 26, 27, 28, 29, 30] [0, 1, 2, 3, 4, 5, 6, 7, 8, 9, 10, 11, 12, 13, 14, 15, 16, 17, 18, 19, 20, 21, 22, 31] [0, 1, 2, 3, 4, 5, 6, 7, 8, 9, 10, 11, 12, 13, 14, 15, 16, 17, 18, 19, 20, 21, 22, 24, 25, 26, 27, 28, 29, 30, 31, 23] (wr := [(An1, .inr (4, [.ref Bx, .int rc_45, .ref Aw, .ref As, .ref Ag, .ref Ae, .ref Af, .int ans_287, .int rfc_288, .int rfb_289])), (Bx, .inl (cI, 60, .inl row_44)), (Aw, .inr (3, [.int wa_46, .int wb_47, .int wlo_48, .int whi_49, .long wtot_50])), (As, .inr (2, [.ref Asm, .ref Ast])), (Asm, .inr (1, [.ref Bsm, .int nsm_276])), (Bsm, .inl (cI, 64, .inl lsm_275)), (Ast, .inr (1, [.ref Bst, .int nst_278])), (Bst, .inl (cI, 64, .inl lst_277)), (Ag, .inr (0, [.ref Agu, .ref Agd])), (Agu, .inr (1, [.ref Bgu, .int ngu_56])), (Bgu, .inl (cI, 64, .inl lgu_55)), (Agd, .inr (1, [.ref Bgd, .int ngd_58])), (Bgd, .inl (cI, 64, .inl lgd_57)), (Ae, .inr (0, [.ref Aeu, .ref Aed])), (Aeu, .inr (1, [.ref Beu, .int neu_280])), (Beu, .inl (cI, 64, .inl leu_279)), (Aed, .inr (1, [.ref Bed, .int ned_282])), (Bed, .inl (cI, 64, .inl led_281)), (Af, .inr (0, [.ref Afu, .ref Afd])), (Afu, .inr (1, [.ref Bfu, .int nfu_284])), (Bfu, .inl (cI, 64, .inl lfu_283)), (Afd, .inr (1, [.ref Bfd, .int nfd_286])), (Bfd, .inl (cI, 64, .inl lfd_285)), (Bn3, .inl (cJ, 1, .inr (.inl out_290)))]) (wn := fun u : (Int32) × (Int32) × (Int32) × (Nat → Int64) × (Nat → Int32) × (Nat → Int64) × (Nat → Int64) × (Int32) × (Nat → Int32) × (Nat → Int32) => (wLaw cI cJ An1 Bx Aw As Asm Bsm Ast Bst Ag Agu Bgu Agd Bgd Ae Aeu Beu Aed Bed Af Afu Bfu Afd Bfd An2 Bmr Bfg Bln Btp Bbl Btr Bwh Bn3 row_44 rc_45 wa_46 wb_47 wlo_48 whi_49 wtot_50 lsm_275 nsm_276 lst_277 nst_278 lgu_55 ngu_56 lgd_57 ngd_58 leu_279 neu_280 led_281 ned_282 lfu_283 nfu_284 lfd_285 nfd_286 ans_287 rfc_288 rfb_289 mrow_70 mrs_71 ma_72 mb_73 mlo_74 mhi_75 u.1 u.2.1 u.2.2.1 u.2.2.2.1 u.2.2.2.2.1 u.2.2.2.2.2.1 u.2.2.2.2.2.2.1 u.2.2.2.2.2.2.2.1 u.2.2.2.2.2.2.2.2.1 u.2.2.2.2.2.2.2.2.2 out_290)) rfl rfl (by decide) (by decide) (by decide) (by decide) (fun _ => rfl) (rest := []) (q0 := 0) rfl rfl rfl hl.1 rfl (Nat.le_of_ble_eq_true rfl) (by show _ ≤ 171; omega) (by show _ ≤ 7464; omega) dL_law_923 (fun r_293 u H locs hw hP hD hS => ?_)
        obtain ⟨man_294, mtl_295, mtm_296, fig_297, len_298, top_299, bel_300, thr_301, trm_302, who_303⟩ := u
        have hP : va_P G vwCl (wLaw cI cJ An1 Bx Aw As Asm Bsm Ast Bst Ag Agu Bgu Agd Bgd Ae Aeu Beu Aed Bed Af Afu Bfu Afd Bfd An2 Bmr Bfg Bln Btp Bbl Btr Bwh Bn3 row_44 rc_45 wa_46 wb_47 wlo_48 whi_49 wtot_50 lsm_275 nsm_276 lst_277 nst_278 lgu_55 ngu_56 lgd_57 ngd_58 leu_279 neu_280 led_281 ned_282 lfu_283 nfu_284 lfd_285 nfd_286 ans_287 rfc_288 rfb_289 mrow_70 mrs_71 ma_72 mb_73 mlo_74 mhi_75 man_294 mtl_295 mtm_296 fig_297 len_298 top_299 bel_300 thr_301 trm_302 who_303 out_290) H := hP
        have hD : va_D A (wLaw cI cJ An1 Bx Aw As Asm Bsm Ast Bst Ag Agu Bgu Agd Bgd Ae Aeu Beu Aed Bed Af Afu Bfu Afd Bfd An2 Bmr Bfg Bln Btp Bbl Btr Bwh Bn3 row_44 rc_45 wa_46 wb_47 wlo_48 whi_49 wtot_50 lsm_275 nsm_276 lst_277 nst_278 lgu_55 ngu_56 lgd_57 ngd_58 leu_279 neu_280 led_281 ned_282 lfu_283 nfu_284 lfd_285 nfd_286 ans_287 rfc_288 rfb_289 mrow_70 mrs_71 ma_72 mb_73 mlo_74 mhi_75 man_294 mtl_295 mtm_296 fig_297 len_298 top_299 bel_300 thr_301 trm_302 who_303 out_290) := hD
        refine lv_istore (lv' := [(6, .int r_293), (5, .int r_274), (4, .int i4_43), (3, .ref Bn3), (2, .ref An2), (1, .ref An1), (0, .ref bS)]) hx hb dL_law_926 hl (by decide) rfl (fun ls hl => ?_)
        refine lv_aload_n hx hb dL_law_928 rfl (lv_at hl 4 rfl) ?_
        refine k_Vi (M_X5_thrown l G cI cJ An2 Bmr Bfg Bln Btp Bbl Btr Bwh mrow_70 mrs_71 ma_72 mb_73 mlo_74 mhi_75 man_294 mtl_295 mtm_296 fig_297 len_298 top_299 bel_300 thr_301 trm_302 who_303 _ hw) ⟨hx, hb, hml, hown, hts⟩ (cwV 0 hts gL_law_X5_thrown rfl rfl rfl (by decide +kernel) ⟨Nat.le_of_ble_eq_true rfl, Nat.le_of_ble_eq_true rfl⟩) hK hP hD hS hA [23, 24, 25, 26, 27, 28, 29, 30] [0, 1, 2, 3, 4, 5, 6, 7, 8, 9, 10, 11, 12, 13, 14, 15, 16, 17, 18, 19, 20, 21, 22, 31] [0, 1, 2, 3, 4, 5, 6, 7, 8, 9, 10, 11, 12, 13, 14, 15, 16, 17, 18, 19, 20, 21, 22, 24, 25, 26, 27, 28, 29, 30, 31, 23] (wr := [(An1, .inr (4, [.ref Bx, .int rc_45, .ref Aw, .ref As, .ref Ag, .ref Ae, .ref Af, .int ans_287, .int rfc_288, .int rfb_289])), (Bx, .inl (cI, 60, .inl row_44)), (Aw, .inr (3, [.int wa_46, .int wb_47, .int wlo_48, .int whi_49, .long wtot_50])), (As, .inr (2, [.ref Asm, .ref Ast])), (Asm, .inr (1, [.ref Bsm, .int nsm_276])), (Bsm, .inl (cI, 64, .inl lsm_275)), (Ast, .inr (1, [.ref Bst, .int nst_278])), (Bst, .inl (cI, 64, .inl lst_277)), (Ag, .inr (0, [.ref Agu, .ref Agd])), (Agu, .inr (1, [.ref Bgu, .int ngu_56])), (Bgu, .inl (cI, 64, .inl lgu_55)), (Agd, .inr (1, [.ref Bgd, .int ngd_58])), (Bgd, .inl (cI, 64, .inl lgd_57)), (Ae, .inr (0, [.ref Aeu, .ref Aed])), (Aeu, .inr (1, [.ref Beu, .int neu_280])), (Beu, .inl (cI, 64, .inl leu_279)), (Aed, .inr (1, [.ref Bed, .int ned_282])), (Bed, .inl (cI, 64, .inl led_281)), (Af, .inr (0, [.ref Afu, .ref Afd])), (Afu, .inr (1, [.ref Bfu, .int nfu_284])), (Bfu, .inl (cI, 64, .inl lfu_283)), (Afd, .inr (1, [.ref Bfd, .int nfd_286])), (Bfd, .inl (cI, 64, .inl lfd_285)), (Bn3, .inl (cJ, 1, .inr (.inl out_290)))]) (wn := fun u : Unit => (wLaw cI cJ An1 Bx Aw As Asm Bsm Ast Bst Ag Agu Bgu Agd Bgd Ae Aeu Beu Aed Bed Af Afu Bfu Afd Bfd An2 Bmr Bfg Bln Btp Bbl Btr Bwh Bn3 row_44 rc_45 wa_46 wb_47 wlo_48 whi_49 wtot_50 lsm_275 nsm_276 lst_277 nst_278 lgu_55 ngu_56 lgd_57 ngd_58 leu_279 neu_280 led_281 ned_282 lfu_283 nfu_284 lfd_285 nfd_286 ans_287 rfc_288 rfb_289 mrow_70 mrs_71 ma_72 mb_73 mlo_74 mhi_75 man_294 mtl_295 mtm_296 fig_297 len_298 top_299 bel_300 thr_301 trm_302 who_303 out_290)) rfl rfl (by decide) (by decide) (by decide) (by decide) (fun _ => rfl) (rest := []) (q0 := 0) rfl rfl rfl hl.1 rfl (Nat.le_of_ble_eq_true rfl) (by show _ ≤ 171; omega) (by show _ ≤ 7464; omega) dL_law_929 (fun r_304 u H locs hw hP hD hS => ?_)
        refine lv_iload hx hb dL_law_932 (lv_at hl 1 rfl) ?_
        refine lv_icmp_eq (tgt := 939) hx hb dL_law_934 (by decide) (fun c_309 => ?_) (fun c_309 => ?_)
        · have hw := hw.1 c_309
          refine lv_iload hx hb dL_law_939 (lv_at hl 1 rfl) ?_
          refine lv_if_ne (tgt := 956) hx hb dL_law_941 (by decide) (fun c_308 => ?_) (fun c_308 => ?_)
          · have hw := hw.1 c_308
            refine lv_goto (tgt := 1095) hx hb dL_law_956 (by decide) ?_
            obtain ⟨i4_305, ei4_305⟩ : ∃ y : Int32, y = i4_43 + 7 := ⟨_, rfl⟩
            have hw := hw i4_305 ei4_305
            refine lv_iinc (v := i4_305) (lv' := [(4, .int i4_305), (6, .int r_293), (5, .int r_274), (3, .ref Bn3), (2, .ref An2), (1, .ref An1), (0, .ref bS)]) hx hb dL_law_1095 hl (k := 2) rfl (by rw [ei4_305]; rfl) (by decide) rfl (fun ls hl => ?_)
            refine lv_goto (tgt := 23) hx hb dL_law_1098 (by decide) ?_
            refine W.widen (k := 32 + (kk + 1)) (n := 6374 + 6 * (kk + 1)) (by omega) (by omega) ?_
            exact ihI23_87 _ (by rw [← hNI23_87]; exact hw.2) i4_305 row_44 rc_45 wa_46 wb_47 wlo_48 whi_49 wtot_50 lsm_275 nsm_276 lst_277 nst_278 lgu_55 ngu_56 lgd_57 ngd_58 leu_279 neu_280 led_281 ned_282 lfu_283 nfu_284 lfd_285 nfd_286 ans_287 rfc_288 rfb_289 mrow_70 mrs_71 ma_72 mb_73 mlo_74 mhi_75 man_294 mtl_295 mtm_296 fig_297 len_298 top_299 bel_300 thr_301 trm_302 who_303 out_290 rfl hw.1 (kk + 1) (by omega) (by rw [ei4_305, hik]; exact k_law7 kk) _ _ _ hP hD hS (lv_sub hl [0, 3, 4, 5, 6] rfl)
          · have hw := hw.2 c_308
            refine lv_aload_n hx hb dL_law_944 rfl (lv_at hl 3 rfl) ?_
            refine lv_iconst (v := 0) hx hb dL_law_945 (by decide) ?_
            obtain ⟨hin, hw⟩ := hw
            refine k_lald hx hb hK hP 31 rfl hin dL_law_946 ?_
            refine lv_iload hx hb dL_law_947 (lv_at hl 0 rfl) ?_
            refine lv_i2l (v := r_293.toInt64) hx hb dL_law_949 rfl ?_
            refine k_lif_eq (tgt := 956) hx hb dL_law_950 dL_law_951 (by decide) (fun c_307 => ?_) (fun c_307 => ?_)
            · have hw := hw.1 c_307
              refine lv_goto (tgt := 1095) hx hb dL_law_956 (by decide) ?_
              obtain ⟨i4_306, ei4_306⟩ : ∃ y : Int32, y = i4_43 + 7 := ⟨_, rfl⟩
              have hw := hw i4_306 ei4_306
              refine lv_iinc (v := i4_306) (lv' := [(4, .int i4_306), (6, .int r_293), (5, .int r_274), (3, .ref Bn3), (2, .ref An2), (1, .ref An1), (0, .ref bS)]) hx hb dL_law_1095 hl (k := 2) rfl (by rw [ei4_306]; rfl) (by decide) rfl (fun ls hl => ?_)
              refine lv_goto (tgt := 23) hx hb dL_law_1098 (by decide) ?_
              refine W.widen (k := 32 + (kk + 1)) (n := 6374 + 6 * (kk + 1)) (by omega) (by omega) ?_
              exact ihI23_87 _ (by rw [← hNI23_87]; exact hw.2) i4_306 row_44 rc_45 wa_46 wb_47 wlo_48 whi_49 wtot_50 lsm_275 nsm_276 lst_277 nst_278 lgu_55 ngu_56 lgd_57 ngd_58 leu_279 neu_280 led_281 ned_282 lfu_283 nfu_284 lfd_285 nfd_286 ans_287 rfc_288 rfb_289 mrow_70 mrs_71 ma_72 mb_73 mlo_74 mhi_75 man_294 mtl_295 mtm_296 fig_297 len_298 top_299 bel_300 thr_301 trm_302 who_303 out_290 rfl hw.1 (kk + 1) (by omega) (by rw [ei4_306, hik]; exact k_law7 kk) _ _ _ hP hD hS (lv_sub hl [0, 3, 4, 5, 6] rfl)
            · have hw := hw.2 c_307
              refine lv_iconst (v := 0) hx hb dL_law_954 (by decide) ?_
              exact absurd hw (by decide)
        · have hw := hw.2 c_309
          refine lv_iconst (v := 0) hx hb dL_law_937 (by decide) ?_
          exact absurd hw (by decide)
      have hw := hw.2 c_271
      by_cases c_310 : v_89 = 14
      · have hw := hw.1 c_310
        refine lv_tableIn (off := 919) (tgt := 959) hx hb dL_law_40 (by rw [c_310]; decide) (by rw [c_310]; decide) (by rw [c_310]; rfl) (by decide) ?_
        refine lv_aload_n hx hb dL_law_959 rfl (lv_at hl 3 rfl) ?_
        refine lv_aload_n hx hb dL_law_960 rfl (lv_at hl 4 rfl) ?_
        refine lv_iload hx hb dL_law_961 (lv_at hl 0 rfl) ?_
        refine lv_iconst (v := 1) hx hb dL_law_963 (by decide) ?_
        refine lv_iadd hx hb dL_law_964 ?_
        obtain ⟨hin, hw⟩ := hw
        refine va_sld hx hb hX hbl hbA hS hin dL_law_965 ?_
        refine lv_aload_n hx hb dL_law_966 rfl (lv_at hl 4 rfl) ?_
        refine lv_iload hx hb dL_law_967 (lv_at hl 0 rfl) ?_
        refine lv_iconst (v := 2) hx hb dL_law_969 (by decide) ?_
        refine lv_iadd hx hb dL_law_970 ?_
        obtain ⟨hin, hw⟩ := hw
        refine va_sld hx hb hX hbl hbA hS hin dL_law_971 ?_
        refine lv_aload_n hx hb dL_law_972 rfl (lv_at hl 4 rfl) ?_
        refine lv_iload hx hb dL_law_973 (lv_at hl 0 rfl) ?_
        refine lv_iconst (v := 3) hx hb dL_law_975 (by decide) ?_
        refine lv_iadd hx hb dL_law_976 ?_
        obtain ⟨hin, hw⟩ := hw
        refine va_sld hx hb hX hbl hbA hS hin dL_law_977 ?_
        refine lv_aload_n hx hb dL_law_978 rfl (lv_at hl 1 rfl) ?_
        refine k_SW (M_L_limb l hst sa G cI cJ An1 Bx Aw As Asm Bsm Ast Bst Ag Agu Bgu Agd Bgd Ae Aeu Beu Aed Bed Af Afu Bfu Afd Bfd Bn3 row_44 rc_45 wa_46 wb_47 wlo_48 whi_49 wtot_50 lsm_51 nsm_52 lst_53 nst_54 lgu_55 ngu_56 lgd_57 ngd_58 leu_59 neu_60 led_61 ned_62 lfu_63 nfu_64 lfd_65 nfd_66 ans_67 rfc_68 rfb_69 out_86 (xs (i4_43 + 1).toNatClampNeg) (xs (i4_43 + 2).toNatClampNeg) (xs (i4_43 + 3).toNatClampNeg) _ hw) ⟨hx, hb, hml, hown, hts⟩ (vx_cwSW 5 hts gL_law_L_limb rfl rfl rfl (by decide +kernel) ⟨(Nat.le_of_ble_eq_true rfl), (Nat.le_of_ble_eq_true rfl)⟩) hK hP hD hS hA hE [0, 1, 2, 3, 4, 5, 6, 7, 8, 9, 10, 11, 12, 13, 14, 15, 16, 17, 18, 19, 20, 21, 22, 31] [23, 24, 25, 26, 27, 28, 29, 30] [8, 9, 10, 11, 12, 13, 14, 15, 16, 17, 18, 19, 20, 21, 22, 23, 24, 25, 26, 27, 28, 29, 30, 0, 1, 2, 3, 4, 5, 6, 7, 31] (wr := [(An2, .inr (5, [.ref Bmr, .int mrs_71, .int ma_72, .int mb_73, .int mlo_74, .int mhi_75, .int man_76, .int mtl_77, .int mtm_78, .ref Bfg, .ref Bln, .ref Btp, .ref Bbl, .int thr_83, .ref Btr, .ref Bwh])), (Bmr, .inl (cI, 60, .inl mrow_70)), (Bfg, .inl (cJ, 4608, .inr (.inl fig_79))), (Bln, .inl (cI, 18, .inl len_80)), (Btp, .inl (cJ, 520, .inr (.inl top_81))), (Bbl, .inl (cJ, 520, .inr (.inl bel_82))), (Btr, .inl (cI, 10, .inl trm_84)), (Bwh, .inl (cI, 10, .inl who_85))]) (wn := fun u : (Nat → Int64) => (wLaw cI cJ An1 Bx Aw As Asm Bsm Ast Bst Ag Agu Bgu Agd Bgd Ae Aeu Beu Aed Bed Af Afu Bfu Afd Bfd An2 Bmr Bfg Bln Btp Bbl Btr Bwh Bn3 row_44 rc_45 wa_46 wb_47 wlo_48 whi_49 wtot_50 lsm_51 nsm_52 lst_53 nst_54 lgu_55 ngu_56 lgd_57 ngd_58 leu_59 neu_60 led_61 ned_62 lfu_63 nfu_64 lfd_65 nfd_66 ans_67 rfc_68 rfb_69 mrow_70 mrs_71 ma_72 mb_73 mlo_74 mhi_75 man_76 mtl_77 mtm_78 fig_79 len_80 top_81 bel_82 thr_83 trm_84 who_85 u)) rfl rfl (by decide) (by decide) (by decide) (by decide) (fun _ => rfl) (rest := []) rfl hl.1 rfl (Nat.le_of_ble_eq_true rfl) (by show _ ≤ 171; omega) (by show _ ≤ 7464; omega) dL_law_979 (fun r_311 u H locs hw hP hD hS => ?_)
        obtain ⟨out_312, rfl⟩ : ∃ z, z = u := ⟨_, rfl⟩
        have hP : va_P G vwCl (wLaw cI cJ An1 Bx Aw As Asm Bsm Ast Bst Ag Agu Bgu Agd Bgd Ae Aeu Beu Aed Bed Af Afu Bfu Afd Bfd An2 Bmr Bfg Bln Btp Bbl Btr Bwh Bn3 row_44 rc_45 wa_46 wb_47 wlo_48 whi_49 wtot_50 lsm_51 nsm_52 lst_53 nst_54 lgu_55 ngu_56 lgd_57 ngd_58 leu_59 neu_60 led_61 ned_62 lfu_63 nfu_64 lfd_65 nfd_66 ans_67 rfc_68 rfb_69 mrow_70 mrs_71 ma_72 mb_73 mlo_74 mhi_75 man_76 mtl_77 mtm_78 fig_79 len_80 top_81 bel_82 thr_83 trm_84 who_85 out_312) H := hP
        have hD : va_D A (wLaw cI cJ An1 Bx Aw As Asm Bsm Ast Bst Ag Agu Bgu Agd Bgd Ae Aeu Beu Aed Bed Af Afu Bfu Afd Bfd An2 Bmr Bfg Bln Btp Bbl Btr Bwh Bn3 row_44 rc_45 wa_46 wb_47 wlo_48 whi_49 wtot_50 lsm_51 nsm_52 lst_53 nst_54 lgu_55 ngu_56 lgd_57 ngd_58 leu_59 neu_60 led_61 ned_62 lfu_63 nfu_64 lfd_65 nfd_66 ans_67 rfc_68 rfb_69 mrow_70 mrs_71 ma_72 mb_73 mlo_74 mhi_75 man_76 mtl_77 mtm_78 fig_79 len_80 top_81 bel_82 thr_83 trm_84 who_85 out_312) := hD
        refine lv_istore (lv' := [(5, .int r_311), (4, .int i4_43), (3, .ref Bn3), (2, .ref An2), (1, .ref An1), (0, .ref bS)]) hx hb dL_law_982 hl (by decide) rfl (fun ls hl => ?_)
        refine lv_aload_n hx hb dL_law_984 rfl (lv_at hl 3 rfl) ?_
        refine lv_aload_n hx hb dL_law_985 rfl (lv_at hl 5 rfl) ?_
        refine lv_iload hx hb dL_law_986 (lv_at hl 1 rfl) ?_
        refine lv_iconst (v := 1) hx hb dL_law_988 (by decide) ?_
        refine lv_iadd hx hb dL_law_989 ?_
        obtain ⟨hin, hw⟩ := hw
        refine va_sld hx hb hX hbl hbA hS hin dL_law_990 ?_
        refine lv_aload_n hx hb dL_law_991 rfl (lv_at hl 5 rfl) ?_
        refine lv_iload hx hb dL_law_992 (lv_at hl 1 rfl) ?_
        refine lv_iconst (v := 2) hx hb dL_law_994 (by decide) ?_
        refine lv_iadd hx hb dL_law_995 ?_
        obtain ⟨hin, hw⟩ := hw
        refine va_sld hx hb hX hbl hbA hS hin dL_law_996 ?_
        refine lv_aload_n hx hb dL_law_997 rfl (lv_at hl 5 rfl) ?_
        refine lv_iload hx hb dL_law_998 (lv_at hl 1 rfl) ?_
        refine lv_iconst (v := 3) hx hb dL_law_1000 (by decide) ?_
        refine lv_iadd hx hb dL_law_1001 ?_
        obtain ⟨hin, hw⟩ := hw
        refine va_sld hx hb hX hbl hbA hS hin dL_law_1002 ?_
        refine k_Vi (M_X5_limb l G cI cJ An2 Bmr Bfg Bln Btp Bbl Btr Bwh mrow_70 mrs_71 ma_72 mb_73 mlo_74 mhi_75 man_76 mtl_77 mtm_78 fig_79 len_80 top_81 bel_82 thr_83 trm_84 who_85 (xs (i4_43 + 1).toNatClampNeg) (xs (i4_43 + 2).toNatClampNeg) (xs (i4_43 + 3).toNatClampNeg) _ hw) ⟨hx, hb, hml, hown, hts⟩ (cwV 3 hts gL_law_X5_limb rfl rfl rfl (by decide +kernel) ⟨Nat.le_of_ble_eq_true rfl, Nat.le_of_ble_eq_true rfl⟩) hK hP hD hS hA [23, 24, 25, 26, 27, 28, 29, 30] [0, 1, 2, 3, 4, 5, 6, 7, 8, 9, 10, 11, 12, 13, 14, 15, 16, 17, 18, 19, 20, 21, 22, 31] [0, 1, 2, 3, 4, 5, 6, 7, 8, 9, 10, 11, 12, 13, 14, 15, 16, 17, 18, 19, 20, 21, 22, 24, 25, 26, 27, 28, 29, 30, 31, 23] (wr := [(An1, .inr (4, [.ref Bx, .int rc_45, .ref Aw, .ref As, .ref Ag, .ref Ae, .ref Af, .int ans_67, .int rfc_68, .int rfb_69])), (Bx, .inl (cI, 60, .inl row_44)), (Aw, .inr (3, [.int wa_46, .int wb_47, .int wlo_48, .int whi_49, .long wtot_50])), (As, .inr (2, [.ref Asm, .ref Ast])), (Asm, .inr (1, [.ref Bsm, .int nsm_52])), (Bsm, .inl (cI, 64, .inl lsm_51)), (Ast, .inr (1, [.ref Bst, .int nst_54])), (Bst, .inl (cI, 64, .inl lst_53)), (Ag, .inr (0, [.ref Agu, .ref Agd])), (Agu, .inr (1, [.ref Bgu, .int ngu_56])), (Bgu, .inl (cI, 64, .inl lgu_55)), (Agd, .inr (1, [.ref Bgd, .int ngd_58])), (Bgd, .inl (cI, 64, .inl lgd_57)), (Ae, .inr (0, [.ref Aeu, .ref Aed])), (Aeu, .inr (1, [.ref Beu, .int neu_60])), (Beu, .inl (cI, 64, .inl leu_59)), (Aed, .inr (1, [.ref Bed, .int ned_62])), (Bed, .inl (cI, 64, .inl led_61)), (Af, .inr (0, [.ref Afu, .ref Afd])), (Afu, .inr (1, [.ref Bfu, .int nfu_64])), (Bfu, .inl (cI, 64, .inl lfu_63)), (Afd, .inr (1, [.ref Bfd, .int nfd_66])), (Bfd, .inl (cI, 64, .inl lfd_65)), (Bn3, .inl (cJ, 1, .inr (.inl out_312)))]) (wn := fun u : (Nat → Int64) × (Nat → Int32) × (Nat → Int64) × (Nat → Int64) × (Int32) => (wLaw cI cJ An1 Bx Aw As Asm Bsm Ast Bst Ag Agu Bgu Agd Bgd Ae Aeu Beu Aed Bed Af Afu Bfu Afd Bfd An2 Bmr Bfg Bln Btp Bbl Btr Bwh Bn3 row_44 rc_45 wa_46 wb_47 wlo_48 whi_49 wtot_50 lsm_51 nsm_52 lst_53 nst_54 lgu_55 ngu_56 lgd_57 ngd_58 leu_59 neu_60 led_61 ned_62 lfu_63 nfu_64 lfd_65 nfd_66 ans_67 rfc_68 rfb_69 mrow_70 mrs_71 ma_72 mb_73 mlo_74 mhi_75 man_76 mtl_77 mtm_78 u.1 u.2.1 u.2.2.1 u.2.2.2.1 u.2.2.2.2 trm_84 who_85 out_312)) rfl rfl (by decide) (by decide) (by decide) (by decide) (fun _ => rfl) (rest := []) (q0 := 0) rfl rfl rfl hl.1 rfl (Nat.le_of_ble_eq_true rfl) (by show _ ≤ 171; omega) (by show _ ≤ 7464; omega) dL_law_1003 (fun r_313 u H locs hw hP hD hS => ?_)
        obtain ⟨fig_314, len_315, top_316, bel_317, thr_318⟩ := u
        have hP : va_P G vwCl (wLaw cI cJ An1 Bx Aw As Asm Bsm Ast Bst Ag Agu Bgu Agd Bgd Ae Aeu Beu Aed Bed Af Afu Bfu Afd Bfd An2 Bmr Bfg Bln Btp Bbl Btr Bwh Bn3 row_44 rc_45 wa_46 wb_47 wlo_48 whi_49 wtot_50 lsm_51 nsm_52 lst_53 nst_54 lgu_55 ngu_56 lgd_57 ngd_58 leu_59 neu_60 led_61 ned_62 lfu_63 nfu_64 lfd_65 nfd_66 ans_67 rfc_68 rfb_69 mrow_70 mrs_71 ma_72 mb_73 mlo_74 mhi_75 man_76 mtl_77 mtm_78 fig_314 len_315 top_316 bel_317 thr_318 trm_84 who_85 out_312) H := hP
        have hD : va_D A (wLaw cI cJ An1 Bx Aw As Asm Bsm Ast Bst Ag Agu Bgu Agd Bgd Ae Aeu Beu Aed Bed Af Afu Bfu Afd Bfd An2 Bmr Bfg Bln Btp Bbl Btr Bwh Bn3 row_44 rc_45 wa_46 wb_47 wlo_48 whi_49 wtot_50 lsm_51 nsm_52 lst_53 nst_54 lgu_55 ngu_56 lgd_57 ngd_58 leu_59 neu_60 led_61 ned_62 lfu_63 nfu_64 lfd_65 nfd_66 ans_67 rfc_68 rfb_69 mrow_70 mrs_71 ma_72 mb_73 mlo_74 mhi_75 man_76 mtl_77 mtm_78 fig_314 len_315 top_316 bel_317 thr_318 trm_84 who_85 out_312) := hD
        refine lv_istore (lv' := [(6, .int r_313), (5, .int r_311), (4, .int i4_43), (3, .ref Bn3), (2, .ref An2), (1, .ref An1), (0, .ref bS)]) hx hb dL_law_1006 hl (by decide) rfl (fun ls hl => ?_)
        refine lv_aload_n hx hb dL_law_1008 rfl (lv_at hl 4 rfl) ?_
        refine k_Vi (M_X5_thrown l G cI cJ An2 Bmr Bfg Bln Btp Bbl Btr Bwh mrow_70 mrs_71 ma_72 mb_73 mlo_74 mhi_75 man_76 mtl_77 mtm_78 fig_314 len_315 top_316 bel_317 thr_318 trm_84 who_85 _ hw) ⟨hx, hb, hml, hown, hts⟩ (cwV 0 hts gL_law_X5_thrown rfl rfl rfl (by decide +kernel) ⟨Nat.le_of_ble_eq_true rfl, Nat.le_of_ble_eq_true rfl⟩) hK hP hD hS hA [23, 24, 25, 26, 27, 28, 29, 30] [0, 1, 2, 3, 4, 5, 6, 7, 8, 9, 10, 11, 12, 13, 14, 15, 16, 17, 18, 19, 20, 21, 22, 31] [0, 1, 2, 3, 4, 5, 6, 7, 8, 9, 10, 11, 12, 13, 14, 15, 16, 17, 18, 19, 20, 21, 22, 24, 25, 26, 27, 28, 29, 30, 31, 23] (wr := [(An1, .inr (4, [.ref Bx, .int rc_45, .ref Aw, .ref As, .ref Ag, .ref Ae, .ref Af, .int ans_67, .int rfc_68, .int rfb_69])), (Bx, .inl (cI, 60, .inl row_44)), (Aw, .inr (3, [.int wa_46, .int wb_47, .int wlo_48, .int whi_49, .long wtot_50])), (As, .inr (2, [.ref Asm, .ref Ast])), (Asm, .inr (1, [.ref Bsm, .int nsm_52])), (Bsm, .inl (cI, 64, .inl lsm_51)), (Ast, .inr (1, [.ref Bst, .int nst_54])), (Bst, .inl (cI, 64, .inl lst_53)), (Ag, .inr (0, [.ref Agu, .ref Agd])), (Agu, .inr (1, [.ref Bgu, .int ngu_56])), (Bgu, .inl (cI, 64, .inl lgu_55)), (Agd, .inr (1, [.ref Bgd, .int ngd_58])), (Bgd, .inl (cI, 64, .inl lgd_57)), (Ae, .inr (0, [.ref Aeu, .ref Aed])), (Aeu, .inr (1, [.ref Beu, .int neu_60])), (Beu, .inl (cI, 64, .inl leu_59)), (Aed, .inr (1, [.ref Bed, .int ned_62])), (Bed, .inl (cI, 64, .inl led_61)), (Af, .inr (0, [.ref Afu, .ref Afd])), (Afu, .inr (1, [.ref Bfu, .int nfu_64])), (Bfu, .inl (cI, 64, .inl lfu_63)), (Afd, .inr (1, [.ref Bfd, .int nfd_66])), (Bfd, .inl (cI, 64, .inl lfd_65)), (Bn3, .inl (cJ, 1, .inr (.inl out_312)))]) (wn := fun u : Unit => (wLaw cI cJ An1 Bx Aw As Asm Bsm Ast Bst Ag Agu Bgu Agd Bgd Ae Aeu Beu Aed Bed Af Afu Bfu Afd Bfd An2 Bmr Bfg Bln Btp Bbl Btr Bwh Bn3 row_44 rc_45 wa_46 wb_47 wlo_48 whi_49 wtot_50 lsm_51 nsm_52 lst_53 nst_54 lgu_55 ngu_56 lgd_57 ngd_58 leu_59 neu_60 led_61 ned_62 lfu_63 nfu_64 lfd_65 nfd_66 ans_67 rfc_68 rfb_69 mrow_70 mrs_71 ma_72 mb_73 mlo_74 mhi_75 man_76 mtl_77 mtm_78 fig_314 len_315 top_316 bel_317 thr_318 trm_84 who_85 out_312)) rfl rfl (by decide) (by decide) (by decide) (by decide) (fun _ => rfl) (rest := []) (q0 := 0) rfl rfl rfl hl.1 rfl (Nat.le_of_ble_eq_true rfl) (by show _ ≤ 171; omega) (by show _ ≤ 7464; omega) dL_law_1009 (fun r_319 u H locs hw hP hD hS => ?_)
        refine lv_iload hx hb dL_law_1012 (lv_at hl 1 rfl) ?_
        refine lv_icmp_eq (tgt := 1019) hx hb dL_law_1014 (by decide) (fun c_324 => ?_) (fun c_324 => ?_)
        · have hw := hw.1 c_324
          refine lv_iload hx hb dL_law_1019 (lv_at hl 1 rfl) ?_
          refine lv_if_ne (tgt := 1036) hx hb dL_law_1021 (by decide) (fun c_323 => ?_) (fun c_323 => ?_)
          · have hw := hw.1 c_323
            refine lv_goto (tgt := 1095) hx hb dL_law_1036 (by decide) ?_
            obtain ⟨i4_320, ei4_320⟩ : ∃ y : Int32, y = i4_43 + 7 := ⟨_, rfl⟩
            have hw := hw i4_320 ei4_320
            refine lv_iinc (v := i4_320) (lv' := [(4, .int i4_320), (6, .int r_313), (5, .int r_311), (3, .ref Bn3), (2, .ref An2), (1, .ref An1), (0, .ref bS)]) hx hb dL_law_1095 hl (k := 2) rfl (by rw [ei4_320]; rfl) (by decide) rfl (fun ls hl => ?_)
            refine lv_goto (tgt := 23) hx hb dL_law_1098 (by decide) ?_
            refine W.widen (k := 32 + (kk + 1)) (n := 6374 + 6 * (kk + 1)) (by omega) (by omega) ?_
            exact ihI23_87 _ (by rw [← hNI23_87]; exact hw.2) i4_320 row_44 rc_45 wa_46 wb_47 wlo_48 whi_49 wtot_50 lsm_51 nsm_52 lst_53 nst_54 lgu_55 ngu_56 lgd_57 ngd_58 leu_59 neu_60 led_61 ned_62 lfu_63 nfu_64 lfd_65 nfd_66 ans_67 rfc_68 rfb_69 mrow_70 mrs_71 ma_72 mb_73 mlo_74 mhi_75 man_76 mtl_77 mtm_78 fig_314 len_315 top_316 bel_317 thr_318 trm_84 who_85 out_312 rfl hw.1 (kk + 1) (by omega) (by rw [ei4_320, hik]; exact k_law7 kk) _ _ _ hP hD hS (lv_sub hl [0, 3, 4, 5, 6] rfl)
          · have hw := hw.2 c_323
            refine lv_aload_n hx hb dL_law_1024 rfl (lv_at hl 3 rfl) ?_
            refine lv_iconst (v := 0) hx hb dL_law_1025 (by decide) ?_
            obtain ⟨hin, hw⟩ := hw
            refine k_lald hx hb hK hP 31 rfl hin dL_law_1026 ?_
            refine lv_iload hx hb dL_law_1027 (lv_at hl 0 rfl) ?_
            refine lv_i2l (v := r_313.toInt64) hx hb dL_law_1029 rfl ?_
            refine k_lif_eq (tgt := 1036) hx hb dL_law_1030 dL_law_1031 (by decide) (fun c_322 => ?_) (fun c_322 => ?_)
            · have hw := hw.1 c_322
              refine lv_goto (tgt := 1095) hx hb dL_law_1036 (by decide) ?_
              obtain ⟨i4_321, ei4_321⟩ : ∃ y : Int32, y = i4_43 + 7 := ⟨_, rfl⟩
              have hw := hw i4_321 ei4_321
              refine lv_iinc (v := i4_321) (lv' := [(4, .int i4_321), (6, .int r_313), (5, .int r_311), (3, .ref Bn3), (2, .ref An2), (1, .ref An1), (0, .ref bS)]) hx hb dL_law_1095 hl (k := 2) rfl (by rw [ei4_321]; rfl) (by decide) rfl (fun ls hl => ?_)
              refine lv_goto (tgt := 23) hx hb dL_law_1098 (by decide) ?_
              refine W.widen (k := 32 + (kk + 1)) (n := 6374 + 6 * (kk + 1)) (by omega) (by omega) ?_
              exact ihI23_87 _ (by rw [← hNI23_87]; exact hw.2) i4_321 row_44 rc_45 wa_46 wb_47 wlo_48 whi_49 wtot_50 lsm_51 nsm_52 lst_53 nst_54 lgu_55 ngu_56 lgd_57 ngd_58 leu_59 neu_60 led_61 ned_62 lfu_63 nfu_64 lfd_65 nfd_66 ans_67 rfc_68 rfb_69 mrow_70 mrs_71 ma_72 mb_73 mlo_74 mhi_75 man_76 mtl_77 mtm_78 fig_314 len_315 top_316 bel_317 thr_318 trm_84 who_85 out_312 rfl hw.1 (kk + 1) (by omega) (by rw [ei4_321, hik]; exact k_law7 kk) _ _ _ hP hD hS (lv_sub hl [0, 3, 4, 5, 6] rfl)
            · have hw := hw.2 c_322
              refine lv_iconst (v := 0) hx hb dL_law_1034 (by decide) ?_
              exact absurd hw (by decide)
        · have hw := hw.2 c_324
          refine lv_iconst (v := 0) hx hb dL_law_1017 (by decide) ?_
          exact absurd hw (by decide)
      have hw := hw.2 c_310
      by_cases c_325 : v_89 = 15
      · have hw := hw.1 c_325
        refine lv_tableIn (off := 999) (tgt := 1039) hx hb dL_law_40 (by rw [c_325]; decide) (by rw [c_325]; decide) (by rw [c_325]; rfl) (by decide) ?_
        refine lv_aload_n hx hb dL_law_1039 rfl (lv_at hl 3 rfl) ?_
        refine lv_aload_n hx hb dL_law_1040 rfl (lv_at hl 4 rfl) ?_
        refine lv_iload hx hb dL_law_1041 (lv_at hl 0 rfl) ?_
        refine lv_iconst (v := 1) hx hb dL_law_1043 (by decide) ?_
        refine lv_iadd hx hb dL_law_1044 ?_
        obtain ⟨hin, hw⟩ := hw
        refine va_sld hx hb hX hbl hbA hS hin dL_law_1045 ?_
        refine lv_aload_n hx hb dL_law_1046 rfl (lv_at hl 1 rfl) ?_
        refine k_SW (M_L_told l hst sa G cI cJ An1 Bx Aw As Asm Bsm Ast Bst Ag Agu Bgu Agd Bgd Ae Aeu Beu Aed Bed Af Afu Bfu Afd Bfd Bn3 row_44 rc_45 wa_46 wb_47 wlo_48 whi_49 wtot_50 lsm_51 nsm_52 lst_53 nst_54 lgu_55 ngu_56 lgd_57 ngd_58 leu_59 neu_60 led_61 ned_62 lfu_63 nfu_64 lfd_65 nfd_66 ans_67 rfc_68 rfb_69 out_86 (xs (i4_43 + 1).toNatClampNeg) _ hw) ⟨hx, hb, hml, hown, hts⟩ (vx_cwSW 3 hts gL_law_L_told rfl rfl rfl (by decide +kernel) ⟨(Nat.le_of_ble_eq_true rfl), (Nat.le_of_ble_eq_true rfl)⟩) hK hP hD hS hA hE [0, 1, 2, 3, 4, 5, 6, 7, 8, 9, 10, 11, 12, 13, 14, 15, 16, 17, 18, 19, 20, 21, 22, 31] [23, 24, 25, 26, 27, 28, 29, 30] [8, 9, 10, 11, 12, 13, 14, 15, 16, 17, 18, 19, 20, 21, 22, 23, 24, 25, 26, 27, 28, 29, 30, 0, 1, 2, 3, 4, 5, 6, 7, 31] (wr := [(An2, .inr (5, [.ref Bmr, .int mrs_71, .int ma_72, .int mb_73, .int mlo_74, .int mhi_75, .int man_76, .int mtl_77, .int mtm_78, .ref Bfg, .ref Bln, .ref Btp, .ref Bbl, .int thr_83, .ref Btr, .ref Bwh])), (Bmr, .inl (cI, 60, .inl mrow_70)), (Bfg, .inl (cJ, 4608, .inr (.inl fig_79))), (Bln, .inl (cI, 18, .inl len_80)), (Btp, .inl (cJ, 520, .inr (.inl top_81))), (Bbl, .inl (cJ, 520, .inr (.inl bel_82))), (Btr, .inl (cI, 10, .inl trm_84)), (Bwh, .inl (cI, 10, .inl who_85))]) (wn := fun u : (Nat → Int64) => (wLaw cI cJ An1 Bx Aw As Asm Bsm Ast Bst Ag Agu Bgu Agd Bgd Ae Aeu Beu Aed Bed Af Afu Bfu Afd Bfd An2 Bmr Bfg Bln Btp Bbl Btr Bwh Bn3 row_44 rc_45 wa_46 wb_47 wlo_48 whi_49 wtot_50 lsm_51 nsm_52 lst_53 nst_54 lgu_55 ngu_56 lgd_57 ngd_58 leu_59 neu_60 led_61 ned_62 lfu_63 nfu_64 lfd_65 nfd_66 ans_67 rfc_68 rfb_69 mrow_70 mrs_71 ma_72 mb_73 mlo_74 mhi_75 man_76 mtl_77 mtm_78 fig_79 len_80 top_81 bel_82 thr_83 trm_84 who_85 u)) rfl rfl (by decide) (by decide) (by decide) (by decide) (fun _ => rfl) (rest := []) rfl hl.1 rfl (Nat.le_of_ble_eq_true rfl) (by show _ ≤ 171; omega) (by show _ ≤ 7464; omega) dL_law_1047 (fun r_326 u H locs hw hP hD hS => ?_)
        obtain ⟨out_327, rfl⟩ : ∃ z, z = u := ⟨_, rfl⟩
        have hP : va_P G vwCl (wLaw cI cJ An1 Bx Aw As Asm Bsm Ast Bst Ag Agu Bgu Agd Bgd Ae Aeu Beu Aed Bed Af Afu Bfu Afd Bfd An2 Bmr Bfg Bln Btp Bbl Btr Bwh Bn3 row_44 rc_45 wa_46 wb_47 wlo_48 whi_49 wtot_50 lsm_51 nsm_52 lst_53 nst_54 lgu_55 ngu_56 lgd_57 ngd_58 leu_59 neu_60 led_61 ned_62 lfu_63 nfu_64 lfd_65 nfd_66 ans_67 rfc_68 rfb_69 mrow_70 mrs_71 ma_72 mb_73 mlo_74 mhi_75 man_76 mtl_77 mtm_78 fig_79 len_80 top_81 bel_82 thr_83 trm_84 who_85 out_327) H := hP
        have hD : va_D A (wLaw cI cJ An1 Bx Aw As Asm Bsm Ast Bst Ag Agu Bgu Agd Bgd Ae Aeu Beu Aed Bed Af Afu Bfu Afd Bfd An2 Bmr Bfg Bln Btp Bbl Btr Bwh Bn3 row_44 rc_45 wa_46 wb_47 wlo_48 whi_49 wtot_50 lsm_51 nsm_52 lst_53 nst_54 lgu_55 ngu_56 lgd_57 ngd_58 leu_59 neu_60 led_61 ned_62 lfu_63 nfu_64 lfd_65 nfd_66 ans_67 rfc_68 rfb_69 mrow_70 mrs_71 ma_72 mb_73 mlo_74 mhi_75 man_76 mtl_77 mtm_78 fig_79 len_80 top_81 bel_82 thr_83 trm_84 who_85 out_327) := hD
        refine lv_istore (lv' := [(5, .int r_326), (4, .int i4_43), (3, .ref Bn3), (2, .ref An2), (1, .ref An1), (0, .ref bS)]) hx hb dL_law_1050 hl (by decide) rfl (fun ls hl => ?_)
        refine lv_aload_n hx hb dL_law_1052 rfl (lv_at hl 3 rfl) ?_
        refine lv_aload_n hx hb dL_law_1053 rfl (lv_at hl 5 rfl) ?_
        refine lv_iload hx hb dL_law_1054 (lv_at hl 1 rfl) ?_
        refine lv_iconst (v := 1) hx hb dL_law_1056 (by decide) ?_
        refine lv_iadd hx hb dL_law_1057 ?_
        obtain ⟨hin, hw⟩ := hw
        refine va_sld hx hb hX hbl hbA hS hin dL_law_1058 ?_
        refine k_Vi (M_X5_told l G cI cJ An2 Bmr Bfg Bln Btp Bbl Btr Bwh mrow_70 mrs_71 ma_72 mb_73 mlo_74 mhi_75 man_76 mtl_77 mtm_78 fig_79 len_80 top_81 bel_82 thr_83 trm_84 who_85 (xs (i4_43 + 1).toNatClampNeg) _ hw) ⟨hx, hb, hml, hown, hts⟩ (cwV 1 hts gL_law_X5_told rfl rfl rfl (by decide +kernel) ⟨Nat.le_of_ble_eq_true rfl, Nat.le_of_ble_eq_true rfl⟩) hK hP hD hS hA [23, 24, 25, 26, 27, 28, 29, 30] [0, 1, 2, 3, 4, 5, 6, 7, 8, 9, 10, 11, 12, 13, 14, 15, 16, 17, 18, 19, 20, 21, 22, 31] [0, 1, 2, 3, 4, 5, 6, 7, 8, 9, 10, 11, 12, 13, 14, 15, 16, 17, 18, 19, 20, 21, 22, 24, 25, 26, 27, 28, 29, 30, 31, 23] (wr := [(An1, .inr (4, [.ref Bx, .int rc_45, .ref Aw, .ref As, .ref Ag, .ref Ae, .ref Af, .int ans_67, .int rfc_68, .int rfb_69])), (Bx, .inl (cI, 60, .inl row_44)), (Aw, .inr (3, [.int wa_46, .int wb_47, .int wlo_48, .int whi_49, .long wtot_50])), (As, .inr (2, [.ref Asm, .ref Ast])), (Asm, .inr (1, [.ref Bsm, .int nsm_52])), (Bsm, .inl (cI, 64, .inl lsm_51)), (Ast, .inr (1, [.ref Bst, .int nst_54])), (Bst, .inl (cI, 64, .inl lst_53)), (Ag, .inr (0, [.ref Agu, .ref Agd])), (Agu, .inr (1, [.ref Bgu, .int ngu_56])), (Bgu, .inl (cI, 64, .inl lgu_55)), (Agd, .inr (1, [.ref Bgd, .int ngd_58])), (Bgd, .inl (cI, 64, .inl lgd_57)), (Ae, .inr (0, [.ref Aeu, .ref Aed])), (Aeu, .inr (1, [.ref Beu, .int neu_60])), (Beu, .inl (cI, 64, .inl leu_59)), (Aed, .inr (1, [.ref Bed, .int ned_62])), (Bed, .inl (cI, 64, .inl led_61)), (Af, .inr (0, [.ref Afu, .ref Afd])), (Afu, .inr (1, [.ref Bfu, .int nfu_64])), (Bfu, .inl (cI, 64, .inl lfu_63)), (Afd, .inr (1, [.ref Bfd, .int nfd_66])), (Bfd, .inl (cI, 64, .inl lfd_65)), (Bn3, .inl (cJ, 1, .inr (.inl out_327)))]) (wn := fun u : (Int32) => (wLaw cI cJ An1 Bx Aw As Asm Bsm Ast Bst Ag Agu Bgu Agd Bgd Ae Aeu Beu Aed Bed Af Afu Bfu Afd Bfd An2 Bmr Bfg Bln Btp Bbl Btr Bwh Bn3 row_44 rc_45 wa_46 wb_47 wlo_48 whi_49 wtot_50 lsm_51 nsm_52 lst_53 nst_54 lgu_55 ngu_56 lgd_57 ngd_58 leu_59 neu_60 led_61 ned_62 lfu_63 nfu_64 lfd_65 nfd_66 ans_67 rfc_68 rfb_69 mrow_70 mrs_71 ma_72 mb_73 mlo_74 mhi_75 man_76 mtl_77 mtm_78 fig_79 len_80 top_81 bel_82 u trm_84 who_85 out_327)) rfl rfl (by decide) (by decide) (by decide) (by decide) (fun _ => rfl) (rest := []) (q0 := 0) rfl rfl rfl hl.1 rfl (Nat.le_of_ble_eq_true rfl) (by show _ ≤ 171; omega) (by show _ ≤ 7464; omega) dL_law_1059 (fun r_328 u H locs hw hP hD hS => ?_)
        obtain ⟨thr_329, rfl⟩ : ∃ z, z = u := ⟨_, rfl⟩
        have hP : va_P G vwCl (wLaw cI cJ An1 Bx Aw As Asm Bsm Ast Bst Ag Agu Bgu Agd Bgd Ae Aeu Beu Aed Bed Af Afu Bfu Afd Bfd An2 Bmr Bfg Bln Btp Bbl Btr Bwh Bn3 row_44 rc_45 wa_46 wb_47 wlo_48 whi_49 wtot_50 lsm_51 nsm_52 lst_53 nst_54 lgu_55 ngu_56 lgd_57 ngd_58 leu_59 neu_60 led_61 ned_62 lfu_63 nfu_64 lfd_65 nfd_66 ans_67 rfc_68 rfb_69 mrow_70 mrs_71 ma_72 mb_73 mlo_74 mhi_75 man_76 mtl_77 mtm_78 fig_79 len_80 top_81 bel_82 thr_329 trm_84 who_85 out_327) H := hP
        have hD : va_D A (wLaw cI cJ An1 Bx Aw As Asm Bsm Ast Bst Ag Agu Bgu Agd Bgd Ae Aeu Beu Aed Bed Af Afu Bfu Afd Bfd An2 Bmr Bfg Bln Btp Bbl Btr Bwh Bn3 row_44 rc_45 wa_46 wb_47 wlo_48 whi_49 wtot_50 lsm_51 nsm_52 lst_53 nst_54 lgu_55 ngu_56 lgd_57 ngd_58 leu_59 neu_60 led_61 ned_62 lfu_63 nfu_64 lfd_65 nfd_66 ans_67 rfc_68 rfb_69 mrow_70 mrs_71 ma_72 mb_73 mlo_74 mhi_75 man_76 mtl_77 mtm_78 fig_79 len_80 top_81 bel_82 thr_329 trm_84 who_85 out_327) := hD
        refine lv_istore (lv' := [(6, .int r_328), (5, .int r_326), (4, .int i4_43), (3, .ref Bn3), (2, .ref An2), (1, .ref An1), (0, .ref bS)]) hx hb dL_law_1062 hl (by decide) rfl (fun ls hl => ?_)
        refine lv_aload_n hx hb dL_law_1064 rfl (lv_at hl 4 rfl) ?_
        refine k_Vi (M_X5_thrown l G cI cJ An2 Bmr Bfg Bln Btp Bbl Btr Bwh mrow_70 mrs_71 ma_72 mb_73 mlo_74 mhi_75 man_76 mtl_77 mtm_78 fig_79 len_80 top_81 bel_82 thr_329 trm_84 who_85 _ hw) ⟨hx, hb, hml, hown, hts⟩ (cwV 0 hts gL_law_X5_thrown rfl rfl rfl (by decide +kernel) ⟨Nat.le_of_ble_eq_true rfl, Nat.le_of_ble_eq_true rfl⟩) hK hP hD hS hA [23, 24, 25, 26, 27, 28, 29, 30] [0, 1, 2, 3, 4, 5, 6, 7, 8, 9, 10, 11, 12, 13, 14, 15, 16, 17, 18, 19, 20, 21, 22, 31] [0, 1, 2, 3, 4, 5, 6, 7, 8, 9, 10, 11, 12, 13, 14, 15, 16, 17, 18, 19, 20, 21, 22, 24, 25, 26, 27, 28, 29, 30, 31, 23] (wr := [(An1, .inr (4, [.ref Bx, .int rc_45, .ref Aw, .ref As, .ref Ag, .ref Ae, .ref Af, .int ans_67, .int rfc_68, .int rfb_69])), (Bx, .inl (cI, 60, .inl row_44)), (Aw, .inr (3, [.int wa_46, .int wb_47, .int wlo_48, .int whi_49, .long wtot_50])), (As, .inr (2, [.ref Asm, .ref Ast])), (Asm, .inr (1, [.ref Bsm, .int nsm_52])), (Bsm, .inl (cI, 64, .inl lsm_51)), (Ast, .inr (1, [.ref Bst, .int nst_54])), (Bst, .inl (cI, 64, .inl lst_53)), (Ag, .inr (0, [.ref Agu, .ref Agd])), (Agu, .inr (1, [.ref Bgu, .int ngu_56])), (Bgu, .inl (cI, 64, .inl lgu_55)), (Agd, .inr (1, [.ref Bgd, .int ngd_58])), (Bgd, .inl (cI, 64, .inl lgd_57)), (Ae, .inr (0, [.ref Aeu, .ref Aed])), (Aeu, .inr (1, [.ref Beu, .int neu_60])), (Beu, .inl (cI, 64, .inl leu_59)), (Aed, .inr (1, [.ref Bed, .int ned_62])), (Bed, .inl (cI, 64, .inl led_61)), (Af, .inr (0, [.ref Afu, .ref Afd])), (Afu, .inr (1, [.ref Bfu, .int nfu_64])), (Bfu, .inl (cI, 64, .inl lfu_63)), (Afd, .inr (1, [.ref Bfd, .int nfd_66])), (Bfd, .inl (cI, 64, .inl lfd_65)), (Bn3, .inl (cJ, 1, .inr (.inl out_327)))]) (wn := fun u : Unit => (wLaw cI cJ An1 Bx Aw As Asm Bsm Ast Bst Ag Agu Bgu Agd Bgd Ae Aeu Beu Aed Bed Af Afu Bfu Afd Bfd An2 Bmr Bfg Bln Btp Bbl Btr Bwh Bn3 row_44 rc_45 wa_46 wb_47 wlo_48 whi_49 wtot_50 lsm_51 nsm_52 lst_53 nst_54 lgu_55 ngu_56 lgd_57 ngd_58 leu_59 neu_60 led_61 ned_62 lfu_63 nfu_64 lfd_65 nfd_66 ans_67 rfc_68 rfb_69 mrow_70 mrs_71 ma_72 mb_73 mlo_74 mhi_75 man_76 mtl_77 mtm_78 fig_79 len_80 top_81 bel_82 thr_329 trm_84 who_85 out_327)) rfl rfl (by decide) (by decide) (by decide) (by decide) (fun _ => rfl) (rest := []) (q0 := 0) rfl rfl rfl hl.1 rfl (Nat.le_of_ble_eq_true rfl) (by show _ ≤ 171; omega) (by show _ ≤ 7464; omega) dL_law_1065 (fun r_330 u H locs hw hP hD hS => ?_)
        refine lv_iload hx hb dL_law_1068 (lv_at hl 1 rfl) ?_
        refine lv_icmp_eq (tgt := 1075) hx hb dL_law_1070 (by decide) (fun c_335 => ?_) (fun c_335 => ?_)
        · have hw := hw.1 c_335
          refine lv_iload hx hb dL_law_1075 (lv_at hl 1 rfl) ?_
          refine lv_if_ne (tgt := 1092) hx hb dL_law_1077 (by decide) (fun c_334 => ?_) (fun c_334 => ?_)
          · have hw := hw.1 c_334
            refine lv_goto (tgt := 1095) hx hb dL_law_1092 (by decide) ?_
            obtain ⟨i4_331, ei4_331⟩ : ∃ y : Int32, y = i4_43 + 7 := ⟨_, rfl⟩
            have hw := hw i4_331 ei4_331
            refine lv_iinc (v := i4_331) (lv' := [(4, .int i4_331), (6, .int r_328), (5, .int r_326), (3, .ref Bn3), (2, .ref An2), (1, .ref An1), (0, .ref bS)]) hx hb dL_law_1095 hl (k := 2) rfl (by rw [ei4_331]; rfl) (by decide) rfl (fun ls hl => ?_)
            refine lv_goto (tgt := 23) hx hb dL_law_1098 (by decide) ?_
            refine W.widen (k := 32 + (kk + 1)) (n := 6374 + 6 * (kk + 1)) (by omega) (by omega) ?_
            exact ihI23_87 _ (by rw [← hNI23_87]; exact hw.2) i4_331 row_44 rc_45 wa_46 wb_47 wlo_48 whi_49 wtot_50 lsm_51 nsm_52 lst_53 nst_54 lgu_55 ngu_56 lgd_57 ngd_58 leu_59 neu_60 led_61 ned_62 lfu_63 nfu_64 lfd_65 nfd_66 ans_67 rfc_68 rfb_69 mrow_70 mrs_71 ma_72 mb_73 mlo_74 mhi_75 man_76 mtl_77 mtm_78 fig_79 len_80 top_81 bel_82 thr_329 trm_84 who_85 out_327 rfl hw.1 (kk + 1) (by omega) (by rw [ei4_331, hik]; exact k_law7 kk) _ _ _ hP hD hS (lv_sub hl [0, 3, 4, 5, 6] rfl)
          · have hw := hw.2 c_334
            refine lv_aload_n hx hb dL_law_1080 rfl (lv_at hl 3 rfl) ?_
            refine lv_iconst (v := 0) hx hb dL_law_1081 (by decide) ?_
            obtain ⟨hin, hw⟩ := hw
            refine k_lald hx hb hK hP 31 rfl hin dL_law_1082 ?_
            refine lv_iload hx hb dL_law_1083 (lv_at hl 0 rfl) ?_
            refine lv_i2l (v := r_328.toInt64) hx hb dL_law_1085 rfl ?_
            refine k_lif_eq (tgt := 1092) hx hb dL_law_1086 dL_law_1087 (by decide) (fun c_333 => ?_) (fun c_333 => ?_)
            · have hw := hw.1 c_333
              refine lv_goto (tgt := 1095) hx hb dL_law_1092 (by decide) ?_
              obtain ⟨i4_332, ei4_332⟩ : ∃ y : Int32, y = i4_43 + 7 := ⟨_, rfl⟩
              have hw := hw i4_332 ei4_332
              refine lv_iinc (v := i4_332) (lv' := [(4, .int i4_332), (6, .int r_328), (5, .int r_326), (3, .ref Bn3), (2, .ref An2), (1, .ref An1), (0, .ref bS)]) hx hb dL_law_1095 hl (k := 2) rfl (by rw [ei4_332]; rfl) (by decide) rfl (fun ls hl => ?_)
              refine lv_goto (tgt := 23) hx hb dL_law_1098 (by decide) ?_
              refine W.widen (k := 32 + (kk + 1)) (n := 6374 + 6 * (kk + 1)) (by omega) (by omega) ?_
              exact ihI23_87 _ (by rw [← hNI23_87]; exact hw.2) i4_332 row_44 rc_45 wa_46 wb_47 wlo_48 whi_49 wtot_50 lsm_51 nsm_52 lst_53 nst_54 lgu_55 ngu_56 lgd_57 ngd_58 leu_59 neu_60 led_61 ned_62 lfu_63 nfu_64 lfd_65 nfd_66 ans_67 rfc_68 rfb_69 mrow_70 mrs_71 ma_72 mb_73 mlo_74 mhi_75 man_76 mtl_77 mtm_78 fig_79 len_80 top_81 bel_82 thr_329 trm_84 who_85 out_327 rfl hw.1 (kk + 1) (by omega) (by rw [ei4_332, hik]; exact k_law7 kk) _ _ _ hP hD hS (lv_sub hl [0, 3, 4, 5, 6] rfl)
            · have hw := hw.2 c_333
              refine lv_iconst (v := 0) hx hb dL_law_1090 (by decide) ?_
              exact absurd hw (by decide)
        · have hw := hw.2 c_335
          refine lv_iconst (v := 0) hx hb dL_law_1073 (by decide) ?_
          exact absurd hw (by decide)
      have hw := hw.2 c_325
      refine lv_tableOut (tgt := 1095) hx hb dL_law_40 (k_sw15 c_90 c_100 c_115 c_121 c_141 c_147 c_153 c_159 c_174 c_188 c_216 c_234 c_254 c_271 c_310 c_325) (by decide) ?_
      obtain ⟨i4_336, ei4_336⟩ : ∃ y : Int32, y = i4_43 + 7 := ⟨_, rfl⟩
      have hw := hw i4_336 ei4_336
      refine lv_iinc (v := i4_336) (lv' := [(4, .int i4_336), (3, .ref Bn3), (2, .ref An2), (1, .ref An1), (0, .ref bS)]) hx hb dL_law_1095 hl (k := 0) rfl (by rw [ei4_336]; rfl) (by decide) rfl (fun ls hl => ?_)
      refine lv_goto (tgt := 23) hx hb dL_law_1098 (by decide) ?_
      refine W.widen (k := 32 + (kk + 1)) (n := 6374 + 6 * (kk + 1)) (by omega) (by omega) ?_
      exact ihI23_87 _ (by rw [← hNI23_87]; exact hw.2) i4_336 row_44 rc_45 wa_46 wb_47 wlo_48 whi_49 wtot_50 lsm_51 nsm_52 lst_53 nst_54 lgu_55 ngu_56 lgd_57 ngd_58 leu_59 neu_60 led_61 ned_62 lfu_63 nfu_64 lfd_65 nfd_66 ans_67 rfc_68 rfb_69 mrow_70 mrs_71 ma_72 mb_73 mlo_74 mhi_75 man_76 mtl_77 mtm_78 fig_79 len_80 top_81 bel_82 thr_83 trm_84 who_85 out_86 rfl hw.1 (kk + 1) (by omega) (by rw [ei4_336, hik]; exact k_law7 kk) _ _ _ hP hD hS (lv_sub hl [0, 1, 2, 3, 4] rfl)
