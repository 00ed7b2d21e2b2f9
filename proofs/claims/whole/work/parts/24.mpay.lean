/-! ===== the reference: paying and its like ===== -/
theorem m_pay_no (rd : Int32) (pl : Nat) (pc : Nat → Nat) (ra up f0 su nn : Nat) (wk : Int32) (ki we ow fr of : Nat → Nat) (oc : Nat) (oa ob os : Nat → Nat) (K : mk_T) (x : ms_T) (b a z : Int32) (hn : nn ≤ 5) (h : ¬ hb_P nn a b) : AM 8 yX10_pay cX10_pay 5 (some .int) [.ref 0, .int b, .int a, .int z] (mw_M (rd, (pl, pc), (ra, up, f0, su, nn, wk), ki, (we, ow, fr, of), (oc, oa, ob, os)) K x) (ac_R (some (.int (-101))) (mw_M (rd, (pl, pc), (ra, up, f0, su, nn, wk), ki, (we, ow, fr, of), (oc, oa, ob, os)) K x)) := by
  refine AM.of (loc := [.ref 0, .int b, .int a, .int z, .null]) RX10 rfl (by decide +kernel) (Nat.le_of_ble_eq_true rfl) rfl ?_
  refine aw_aload_0 dX10_pay_0 ?_
  refine aw_iload_2 dX10_pay_1 ?_
  refine aw_iload_1 dX10_pay_2 ?_
  refine ce_X10_116 dX10_pay_3 rfl (k_X10_areTwo rd pl pc ra up f0 su nn wk ki we ow fr of oc oa ob os K x a b hn) ?_
  refine aw_if_ne 12 dX10_pay_6 (by decide) (fun hh => absurd (bI_f h) hh) (fun _ => ?_)
  refine ak_bipush_m101 dX10_pay_9 ?_
  exact aw_iret dX10_pay_11 rfl (⟨rfl, rfl⟩)
theorem m_pay_out (rd : Int32) (pl : Nat) (pc : Nat → Nat) (ra up f0 su nn : Nat) (wk : Int32) (ki we ow fr of : Nat → Nat) (oc : Nat) (oa ob os : Nat → Nat) (K : mk_T) (x : ms_T) (b a z : Int32) (hn : nn ≤ 5) (h : hb_P nn a b) (hz : ¬ (1 ≤ z ∧ z ≤ 999)) : AM 8 yX10_pay cX10_pay 5 (some .int) [.ref 0, .int b, .int a, .int z] (mw_M (rd, (pl, pc), (ra, up, f0, su, nn, wk), ki, (we, ow, fr, of), (oc, oa, ob, os)) K x) (ac_R (some (.int (-102))) (mw_M (rd, (pl, pc), (ra, up, f0, su, nn, wk), ki, (we, ow, fr, of), (oc, oa, ob, os)) K x)) := by
  refine AM.of (loc := [.ref 0, .int b, .int a, .int z, .null]) RX10 rfl (by decide +kernel) (Nat.le_of_ble_eq_true rfl) rfl ?_
  refine aw_aload_0 dX10_pay_0 ?_
  refine aw_iload_2 dX10_pay_1 ?_
  refine aw_iload_1 dX10_pay_2 ?_
  refine ce_X10_116 dX10_pay_3 rfl (k_X10_areTwo rd pl pc ra up f0 su nn wk ki we ow fr of oc oa ob os K x a b hn) ?_
  refine aw_if_ne 12 dX10_pay_6 (by decide) (fun _ => ?_) (fun hh => absurd hh (bI_n h))
  refine aw_iload_3 dX10_pay_12 ?_
  refine ak_iconst_1 dX10_pay_13 ?_
  refine ak_sipush_999 dX10_pay_14 ?_
  refine ce_X10_69 dX10_pay_17 (k_X10_within _ z 1 999) ?_
  refine aw_if_ne 26 dX10_pay_20 (by decide) (fun hh => absurd (bI_f hz) hh) (fun _ => ?_)
  refine ak_bipush_m102 dX10_pay_23 ?_
  exact aw_iret dX10_pay_25 rfl (⟨rfl, rfl⟩)
theorem m_pay_st (rd : Int32) (pl : Nat) (pc : Nat → Nat) (ra up f0 su nn : Nat) (wk : Int32) (ki we ow fr of : Nat → Nat) (oc : Nat) (oa ob os : Nat → Nat) (K : mk_T) (x : ms_T) (b a z : Nat) (hn : nn ≤ 5) (hb : b < 5) (ha : a < 5) (h : hb_P nn (nI a) (nI b)) (hz : (1 : Int32) ≤ nI z ∧ nI z ≤ 999) (hz2 : z ≤ 999) (hwb : we b ≤ 999) (hwa : we a ≤ 999) (how : ow (5 * b + a) ≤ 9999) (hs : we b < z ∨ ow (5 * b + a) < z ∨ 999 < we a + z) : AM 8 yX10_pay cX10_pay 5 (some .int) [.ref 0, .int (nI b), .int (nI a), .int (nI z)] (mw_M (rd, (pl, pc), (ra, up, f0, su, nn, wk), ki, (we, ow, fr, of), (oc, oa, ob, os)) K x) (ac_R (some (.int (-103))) (mw_M (rd, (pl, pc), (ra, up, f0, su, nn, wk), ki, (we, ow, fr, of), (oc, oa, ob, os)) K x)) := by
  refine AM.of (loc := [.ref 0, .int (nI b), .int (nI a), .int (nI z), .null]) RX10 rfl (by decide +kernel) (Nat.le_of_ble_eq_true rfl) rfl ?_
  refine aw_aload_0 dX10_pay_0 ?_
  refine aw_iload_2 dX10_pay_1 ?_
  refine aw_iload_1 dX10_pay_2 ?_
  refine ce_X10_116 dX10_pay_3 rfl (k_X10_areTwo rd pl pc ra up f0 su nn wk ki we ow fr of oc oa ob os K x (nI a) (nI b) hn) ?_
  refine aw_if_ne 12 dX10_pay_6 (by decide) (fun _ => ?_) (fun hh => absurd hh (bI_n h))
  refine aw_iload_3 dX10_pay_12 ?_
  refine ak_iconst_1 dX10_pay_13 ?_
  refine ak_sipush_999 dX10_pay_14 ?_
  refine ce_X10_69 dX10_pay_17 (k_X10_within _ (nI z) 1 999) ?_
  refine aw_if_ne 26 dX10_pay_20 (by decide) (fun _ => ?_) (fun hh => absurd hh (bI_n hz))
  refine akN_iconst_5 dX10_pay_26 ?_
  refine aw_iload_1 dX10_pay_27 ?_
  refine aw_imulN dX10_pay_28 ?_
  refine aw_iload_2 dX10_pay_29 ?_
  refine aw_iaddN dX10_pay_30 ?_
  refine aw_istore_4 dX10_pay_31 rfl (Nat.le_of_ble_eq_true rfl) ?_
  refine aw_aload_0 dX10_pay_33 ?_
  refine gf_X10_20 dX10_pay_34 rfl rfl ?_
  refine aw_iload_1 dX10_pay_37 ?_
  refine aw_ialdN dX10_pay_38 rfl (by omega) ?_
  refine aw_iload_3 dX10_pay_39 ?_
  refine aw_icmp_ltN 68 dX10_pay_40 (by decide) (by omega) (by omega) (fun q1 => ?_) (fun q1 => ?_)
  · refine ak_bipush_m103 dX10_pay_68 ?_
    exact aw_iret dX10_pay_70 rfl (⟨rfl, rfl⟩)
  refine aw_aload_0 dX10_pay_43 ?_
  refine gf_X10_23 dX10_pay_44 rfl rfl ?_
  refine aw_iload_4 dX10_pay_47 ?_
  refine aw_ialdN dX10_pay_49 rfl (by omega) ?_
  refine aw_iload_3 dX10_pay_50 ?_
  refine aw_icmp_ltN 68 dX10_pay_51 (by decide) (by omega) (by omega) (fun q2 => ?_) (fun q2 => ?_)
  · refine ak_bipush_m103 dX10_pay_68 ?_
    exact aw_iret dX10_pay_70 rfl (⟨rfl, rfl⟩)
  refine aw_aload_0 dX10_pay_54 ?_
  refine gf_X10_20 dX10_pay_55 rfl rfl ?_
  refine aw_iload_2 dX10_pay_58 ?_
  refine aw_ialdN dX10_pay_59 rfl (by omega) ?_
  refine aw_iload_3 dX10_pay_60 ?_
  refine aw_iaddN dX10_pay_61 ?_
  refine akN_sipush_999 dX10_pay_62 ?_
  refine aw_icmp_leN 71 dX10_pay_65 (by decide) (by omega) (by omega) (fun q3 => ?_) (fun q3 => ?_)
  · exact absurd hs (by omega)
  refine ak_bipush_m103 dX10_pay_68 ?_
  exact aw_iret dX10_pay_70 rfl (⟨rfl, rfl⟩)
theorem m_pay_ok (rd : Int32) (pl : Nat) (pc : Nat → Nat) (ra up f0 su nn : Nat) (wk : Int32) (ki we ow fr of : Nat → Nat) (oc : Nat) (oa ob os : Nat → Nat) (K : mk_T) (x : ms_T) (b a z : Nat) (hn : nn ≤ 5) (hb : b < 5) (ha : a < 5) (hab : b ≠ a) (h : hb_P nn (nI a) (nI b)) (hz : (1 : Int32) ≤ nI z ∧ nI z ≤ 999) (hz2 : z ≤ 999) (hwb : we b ≤ 999) (hwa : we a ≤ 999) (how : ow (5 * b + a) ≤ 9999) (h1 : z ≤ we b) (h2 : z ≤ ow (5 * b + a)) (h3 : we a + z ≤ 999) : AM 8 yX10_pay cX10_pay 5 (some .int) [.ref 0, .int (nI b), .int (nI a), .int (nI z)] (mw_M (rd, (pl, pc), (ra, up, f0, su, nn, wk), ki, (we, ow, fr, of), (oc, oa, ob, os)) K x) (ac_R (some (.int (nI (ow (5 * b + a) - z)))) (mw_M (rd, (pl, pc), (ra, up, f0, su, nn, wk), ki, (va_up (va_up we b (we b - z)) a (we a + z), va_up ow (5 * b + a) (ow (5 * b + a) - z), fr, of), (oc, oa, ob, os)) K x)) := by
  refine AM.of (loc := [.ref 0, .int (nI b), .int (nI a), .int (nI z), .null]) RX10 rfl (by decide +kernel) (Nat.le_of_ble_eq_true rfl) rfl ?_
  refine aw_aload_0 dX10_pay_0 ?_
  refine aw_iload_2 dX10_pay_1 ?_
  refine aw_iload_1 dX10_pay_2 ?_
  refine ce_X10_116 dX10_pay_3 rfl (k_X10_areTwo rd pl pc ra up f0 su nn wk ki we ow fr of oc oa ob os K x (nI a) (nI b) hn) ?_
  refine aw_if_ne 12 dX10_pay_6 (by decide) (fun _ => ?_) (fun hh => absurd hh (bI_n h))
  refine aw_iload_3 dX10_pay_12 ?_
  refine ak_iconst_1 dX10_pay_13 ?_
  refine ak_sipush_999 dX10_pay_14 ?_
  refine ce_X10_69 dX10_pay_17 (k_X10_within _ (nI z) 1 999) ?_
  refine aw_if_ne 26 dX10_pay_20 (by decide) (fun _ => ?_) (fun hh => absurd hh (bI_n hz))
  refine akN_iconst_5 dX10_pay_26 ?_
  refine aw_iload_1 dX10_pay_27 ?_
  refine aw_imulN dX10_pay_28 ?_
  refine aw_iload_2 dX10_pay_29 ?_
  refine aw_iaddN dX10_pay_30 ?_
  refine aw_istore_4 dX10_pay_31 rfl (Nat.le_of_ble_eq_true rfl) ?_
  refine aw_aload_0 dX10_pay_33 ?_
  refine gf_X10_20 dX10_pay_34 rfl rfl ?_
  refine aw_iload_1 dX10_pay_37 ?_
  refine aw_ialdN dX10_pay_38 rfl (by omega) ?_
  refine aw_iload_3 dX10_pay_39 ?_
  refine aw_icmp_ltN 68 dX10_pay_40 (by decide) (by omega) (by omega) (fun hh => absurd hh (by omega)) (fun _ => ?_)
  refine aw_aload_0 dX10_pay_43 ?_
  refine gf_X10_23 dX10_pay_44 rfl rfl ?_
  refine aw_iload_4 dX10_pay_47 ?_
  refine aw_ialdN dX10_pay_49 rfl (by omega) ?_
  refine aw_iload_3 dX10_pay_50 ?_
  refine aw_icmp_ltN 68 dX10_pay_51 (by decide) (by omega) (by omega) (fun hh => absurd hh (by omega)) (fun _ => ?_)
  refine aw_aload_0 dX10_pay_54 ?_
  refine gf_X10_20 dX10_pay_55 rfl rfl ?_
  refine aw_iload_2 dX10_pay_58 ?_
  refine aw_ialdN dX10_pay_59 rfl (by omega) ?_
  refine aw_iload_3 dX10_pay_60 ?_
  refine aw_iaddN dX10_pay_61 ?_
  refine akN_sipush_999 dX10_pay_62 ?_
  refine aw_icmp_leN 71 dX10_pay_65 (by decide) (by omega) (by omega) (fun _ => ?_) (fun hh => absurd hh (by omega))
  refine aw_aload_0 dX10_pay_71 ?_
  refine gf_X10_20 dX10_pay_72 rfl rfl ?_
  refine aw_iload_1 dX10_pay_75 ?_
  refine aw_dup2 dX10_pay_76 rfl rfl ?_
  refine aw_ialdN dX10_pay_77 rfl (by omega) ?_
  refine aw_iload_3 dX10_pay_78 ?_
  refine aw_isubN dX10_pay_79 h1 ?_
  refine aw_iastN dX10_pay_80 rfl (by omega) ?_
  refine aw_w cm_2 ?_
  refine aw_aload_0 dX10_pay_81 ?_
  refine gf_X10_20 dX10_pay_82 rfl rfl ?_
  refine aw_iload_2 dX10_pay_85 ?_
  refine aw_dup2 dX10_pay_86 rfl rfl ?_
  refine aw_ialdN dX10_pay_87 rfl (by omega) ?_
  refine aw_topi (congrArg nI (up_ne (f := we) (Ne.symm hab))) ?_
  refine aw_iload_3 dX10_pay_88 ?_
  refine aw_iaddN dX10_pay_89 ?_
  refine aw_iastN dX10_pay_90 rfl (by omega) ?_
  refine aw_w cm_2 ?_
  refine aw_aload_0 dX10_pay_91 ?_
  refine gf_X10_23 dX10_pay_92 rfl rfl ?_
  refine aw_iload_4 dX10_pay_95 ?_
  refine aw_dup2 dX10_pay_97 rfl rfl ?_
  refine aw_ialdN dX10_pay_98 rfl (by omega) ?_
  refine aw_iload_3 dX10_pay_99 ?_
  refine aw_isubN dX10_pay_100 h2 ?_
  refine aw_iastN dX10_pay_101 rfl (by omega) ?_
  refine aw_w cm_3 ?_
  refine aw_aload_0 dX10_pay_102 ?_
  refine gf_X10_23 dX10_pay_103 rfl rfl ?_
  refine aw_iload_4 dX10_pay_106 ?_
  refine aw_ialdN dX10_pay_108 rfl (by omega) ?_
  exact aw_iret dX10_pay_109 rfl (⟨by rw [up_at], rfl⟩)
theorem m_setOff_no (rd : Int32) (pl : Nat) (pc : Nat → Nat) (ra up f0 su nn : Nat) (wk : Int32) (ki we ow fr of : Nat → Nat) (oc : Nat) (oa ob os : Nat → Nat) (K : mk_T) (x : ms_T) (a b : Int32) (hn : nn ≤ 5) (h : ¬ hb_P nn a b) : AM 8 yX10_setOff cX10_setOff 4 (some .int) [.ref 0, .int a, .int b] (mw_M (rd, (pl, pc), (ra, up, f0, su, nn, wk), ki, (we, ow, fr, of), (oc, oa, ob, os)) K x) (ac_R (some (.int (-101))) (mw_M (rd, (pl, pc), (ra, up, f0, su, nn, wk), ki, (we, ow, fr, of), (oc, oa, ob, os)) K x)) := by
  refine AM.of (loc := [.ref 0, .int a, .int b, .null]) RX10 rfl (by decide +kernel) (Nat.le_of_ble_eq_true rfl) rfl ?_
  refine aw_aload_0 dX10_setOff_0 ?_
  refine aw_iload_1 dX10_setOff_1 ?_
  refine aw_iload_2 dX10_setOff_2 ?_
  refine ce_X10_116 dX10_setOff_3 rfl (k_X10_areTwo rd pl pc ra up f0 su nn wk ki we ow fr of oc oa ob os K x a b hn) ?_
  refine aw_if_ne 12 dX10_setOff_6 (by decide) (fun hh => absurd (bI_f h) hh) (fun _ => ?_)
  refine ak_bipush_m101 dX10_setOff_9 ?_
  exact aw_iret dX10_setOff_11 rfl (⟨rfl, rfl⟩)
theorem m_setOff_ok (rd : Int32) (pl : Nat) (pc : Nat → Nat) (ra up f0 su nn : Nat) (wk : Int32) (ki we ow fr of : Nat → Nat) (oc : Nat) (oa ob os : Nat → Nat) (K : mk_T) (x : ms_T) (a b : Nat) (hn : nn ≤ 5) (ha : a < 5) (hb : b < 5) (hab : a ≠ b) (h : hb_P nn (nI a) (nI b)) (q1 : ow (5 * a + b) ≤ 9999) (q2 : ow (5 * b + a) ≤ 9999) : AM 8 yX10_setOff cX10_setOff 4 (some .int) [.ref 0, .int (nI a), .int (nI b)] (mw_M (rd, (pl, pc), (ra, up, f0, su, nn, wk), ki, (we, ow, fr, of), (oc, oa, ob, os)) K x) (ac_R (some (.int (nI (min (ow (5 * a + b)) (ow (5 * b + a)))))) (mw_M (rd, (pl, pc), (ra, up, f0, su, nn, wk), ki, (we, va_up (va_up ow (5 * a + b) (ow (5 * a + b) - min (ow (5 * a + b)) (ow (5 * b + a)))) (5 * b + a) (ow (5 * b + a) - min (ow (5 * a + b)) (ow (5 * b + a))), fr, of), (oc, oa, ob, os)) K x)) := by
  refine AM.of (loc := [.ref 0, .int (nI a), .int (nI b), .null]) RX10 rfl (by decide +kernel) (Nat.le_of_ble_eq_true rfl) rfl ?_
  refine aw_aload_0 dX10_setOff_0 ?_
  refine aw_iload_1 dX10_setOff_1 ?_
  refine aw_iload_2 dX10_setOff_2 ?_
  refine ce_X10_116 dX10_setOff_3 rfl (k_X10_areTwo rd pl pc ra up f0 su nn wk ki we ow fr of oc oa ob os K x (nI a) (nI b) hn) ?_
  refine aw_if_ne 12 dX10_setOff_6 (by decide) (fun _ => ?_) (fun hh => absurd hh (bI_n h))
  refine aw_aload_0 dX10_setOff_12 ?_
  refine gf_X10_23 dX10_setOff_13 rfl rfl ?_
  refine akN_iconst_5 dX10_setOff_16 ?_
  refine aw_iload_1 dX10_setOff_17 ?_
  refine aw_imulN dX10_setOff_18 ?_
  refine aw_iload_2 dX10_setOff_19 ?_
  refine aw_iaddN dX10_setOff_20 ?_
  refine aw_ialdN dX10_setOff_21 rfl (by omega) ?_
  refine aw_aload_0 dX10_setOff_22 ?_
  refine gf_X10_23 dX10_setOff_23 rfl rfl ?_
  refine akN_iconst_5 dX10_setOff_26 ?_
  refine aw_iload_2 dX10_setOff_27 ?_
  refine aw_imulN dX10_setOff_28 ?_
  refine aw_iload_1 dX10_setOff_29 ?_
  refine aw_iaddN dX10_setOff_30 ?_
  refine aw_ialdN dX10_setOff_31 rfl (by omega) ?_
  refine ce_X10_124 dX10_setOff_32 (k_X10_less _ _ _ (by omega) (by omega)) ?_
  refine aw_istore_3 dX10_setOff_35 rfl (Nat.le_of_ble_eq_true rfl) ?_
  refine aw_aload_0 dX10_setOff_36 ?_
  refine gf_X10_23 dX10_setOff_37 rfl rfl ?_
  refine akN_iconst_5 dX10_setOff_40 ?_
  refine aw_iload_1 dX10_setOff_41 ?_
  refine aw_imulN dX10_setOff_42 ?_
  refine aw_iload_2 dX10_setOff_43 ?_
  refine aw_iaddN dX10_setOff_44 ?_
  refine aw_dup2 dX10_setOff_45 rfl rfl ?_
  refine aw_ialdN dX10_setOff_46 rfl (by omega) ?_
  refine aw_iload_3 dX10_setOff_47 ?_
  refine aw_isubN dX10_setOff_48 (by omega) ?_
  refine aw_iastN dX10_setOff_49 rfl (by omega) ?_
  refine aw_w cm_3 ?_
  refine aw_aload_0 dX10_setOff_50 ?_
  refine gf_X10_23 dX10_setOff_51 rfl rfl ?_
  refine akN_iconst_5 dX10_setOff_54 ?_
  refine aw_iload_2 dX10_setOff_55 ?_
  refine aw_imulN dX10_setOff_56 ?_
  refine aw_iload_1 dX10_setOff_57 ?_
  refine aw_iaddN dX10_setOff_58 ?_
  refine aw_dup2 dX10_setOff_59 rfl rfl ?_
  refine aw_ialdN dX10_setOff_60 rfl (by omega) ?_
  refine aw_topi (congrArg nI (up_ne (f := ow) (show 5 * b + a ≠ 5 * a + b by omega))) ?_
  refine aw_iload_3 dX10_setOff_61 ?_
  refine aw_isubN dX10_setOff_62 (by omega) ?_
  refine aw_iastN dX10_setOff_63 rfl (by omega) ?_
  refine aw_w cm_3 ?_
  refine aw_iload_3 dX10_setOff_64 ?_
  exact aw_iret dX10_setOff_65 rfl (⟨rfl, rfl⟩)
theorem m_ring_no (rd : Int32) (pl : Nat) (pc : Nat → Nat) (ra up f0 su nn : Nat) (wk : Int32) (ki we ow fr of : Nat → Nat) (oc : Nat) (oa ob os : Nat → Nat) (K : mk_T) (x : ms_T) (a b c : Int32) (hn : nn ≤ 5) (h : ¬ (hb_P nn a b ∧ hb_P nn b c ∧ a ≠ c)) : AM 8 yX10_ring cX10_ring 5 (some .int) [.ref 0, .int a, .int b, .int c] (mw_M (rd, (pl, pc), (ra, up, f0, su, nn, wk), ki, (we, ow, fr, of), (oc, oa, ob, os)) K x) (ac_R (some (.int (-101))) (mw_M (rd, (pl, pc), (ra, up, f0, su, nn, wk), ki, (we, ow, fr, of), (oc, oa, ob, os)) K x)) := by
  refine AM.of (loc := [.ref 0, .int a, .int b, .int c, .null]) RX10 rfl (by decide +kernel) (Nat.le_of_ble_eq_true rfl) rfl ?_
  by_cases h1 : hb_P nn a b
  · by_cases h2 : hb_P nn b c
    · refine aw_aload_0 dX10_ring_0 ?_
      refine aw_iload_1 dX10_ring_1 ?_
      refine aw_iload_2 dX10_ring_2 ?_
      refine ce_X10_116 dX10_ring_3 rfl (k_X10_areTwo rd pl pc ra up f0 su nn wk ki we ow fr of oc oa ob os K x a b hn) ?_
      refine aw_if_eq 27 dX10_ring_6 (by decide) (fun hh => absurd hh (bI_n h1)) (fun _ => ?_)
      refine aw_aload_0 dX10_ring_9 ?_
      refine aw_iload_2 dX10_ring_10 ?_
      refine aw_iload_3 dX10_ring_11 ?_
      refine ce_X10_116 dX10_ring_12 rfl (k_X10_areTwo rd pl pc ra up f0 su nn wk ki we ow fr of oc oa ob os K x b c hn) ?_
      refine aw_if_eq 27 dX10_ring_15 (by decide) (fun hh => absurd hh (bI_n h2)) (fun _ => ?_)
      refine aw_aload_0 dX10_ring_18 ?_
      refine aw_iload_1 dX10_ring_19 ?_
      refine aw_iload_3 dX10_ring_20 ?_
      refine ce_X10_116 dX10_ring_21 rfl (k_X10_areTwo rd pl pc ra up f0 su nn wk ki we ow fr of oc oa ob os K x a c hn) ?_
      refine aw_if_ne 30 dX10_ring_24 (by decide) (fun hh => absurd (bI_f (fun q => h ⟨h1, h2, q.2.2⟩)) hh) (fun _ => ?_)
      refine ak_bipush_m101 dX10_ring_27 ?_
      exact aw_iret dX10_ring_29 rfl (⟨rfl, rfl⟩)
    refine aw_aload_0 dX10_ring_0 ?_
    refine aw_iload_1 dX10_ring_1 ?_
    refine aw_iload_2 dX10_ring_2 ?_
    refine ce_X10_116 dX10_ring_3 rfl (k_X10_areTwo rd pl pc ra up f0 su nn wk ki we ow fr of oc oa ob os K x a b hn) ?_
    refine aw_if_eq 27 dX10_ring_6 (by decide) (fun hh => absurd hh (bI_n h1)) (fun _ => ?_)
    refine aw_aload_0 dX10_ring_9 ?_
    refine aw_iload_2 dX10_ring_10 ?_
    refine aw_iload_3 dX10_ring_11 ?_
    refine ce_X10_116 dX10_ring_12 rfl (k_X10_areTwo rd pl pc ra up f0 su nn wk ki we ow fr of oc oa ob os K x b c hn) ?_
    refine aw_if_eq 27 dX10_ring_15 (by decide) (fun _ => ?_) (fun hh => absurd (bI_f h2) hh)
    refine ak_bipush_m101 dX10_ring_27 ?_
    exact aw_iret dX10_ring_29 rfl (⟨rfl, rfl⟩)
  refine aw_aload_0 dX10_ring_0 ?_
  refine aw_iload_1 dX10_ring_1 ?_
  refine aw_iload_2 dX10_ring_2 ?_
  refine ce_X10_116 dX10_ring_3 rfl (k_X10_areTwo rd pl pc ra up f0 su nn wk ki we ow fr of oc oa ob os K x a b hn) ?_
  refine aw_if_eq 27 dX10_ring_6 (by decide) (fun _ => ?_) (fun hh => absurd (bI_f h1) hh)
  refine ak_bipush_m101 dX10_ring_27 ?_
  exact aw_iret dX10_ring_29 rfl (⟨rfl, rfl⟩)
theorem m_ring_ok (rd : Int32) (pl : Nat) (pc : Nat → Nat) (ra up f0 su nn : Nat) (wk : Int32) (ki we ow fr of : Nat → Nat) (oc : Nat) (oa ob os : Nat → Nat) (K : mk_T) (x : ms_T) (a b c : Nat) (hn : nn ≤ 5) (ha : a < 5) (hb : b < 5) (hc : c < 5) (hab : a ≠ b) (hbc : b ≠ c) (hac : a ≠ c) (h : hb_P nn (nI a) (nI b) ∧ hb_P nn (nI b) (nI c) ∧ nI a ≠ nI c) (q1 : ow (5 * a + b) ≤ 9999) (q2 : ow (5 * b + c) ≤ 9999) (q3 : ow (5 * c + a) ≤ 9999) (m : Nat) (hm : m = min (ow (5 * a + b)) (min (ow (5 * b + c)) (ow (5 * c + a)))) : AM 8 yX10_ring cX10_ring 5 (some .int) [.ref 0, .int (nI a), .int (nI b), .int (nI c)] (mw_M (rd, (pl, pc), (ra, up, f0, su, nn, wk), ki, (we, ow, fr, of), (oc, oa, ob, os)) K x) (ac_R (some (.int (nI m))) (mw_M (rd, (pl, pc), (ra, up, f0, su, nn, wk), ki, (we, va_up (va_up (va_up ow (5 * a + b) (ow (5 * a + b) - m)) (5 * b + c) (ow (5 * b + c) - m)) (5 * c + a) (ow (5 * c + a) - m), fr, of), (oc, oa, ob, os)) K x)) := by
  have hac2 : hb_P nn (nI a) (nI c) := ⟨h.1.1, h.2.1.2.1, h.2.2⟩
  have hm2 : min (min (ow (5 * a + b)) (ow (5 * b + c))) (ow (5 * c + a)) = m := by omega
  refine AM.of (loc := [.ref 0, .int (nI a), .int (nI b), .int (nI c), .null]) RX10 rfl (by decide +kernel) (Nat.le_of_ble_eq_true rfl) rfl ?_
  refine aw_aload_0 dX10_ring_0 ?_
  refine aw_iload_1 dX10_ring_1 ?_
  refine aw_iload_2 dX10_ring_2 ?_
  refine ce_X10_116 dX10_ring_3 rfl (k_X10_areTwo rd pl pc ra up f0 su nn wk ki we ow fr of oc oa ob os K x (nI a) (nI b) hn) ?_
  refine aw_if_eq 27 dX10_ring_6 (by decide) (fun hh => absurd hh (bI_n h.1)) (fun _ => ?_)
  refine aw_aload_0 dX10_ring_9 ?_
  refine aw_iload_2 dX10_ring_10 ?_
  refine aw_iload_3 dX10_ring_11 ?_
  refine ce_X10_116 dX10_ring_12 rfl (k_X10_areTwo rd pl pc ra up f0 su nn wk ki we ow fr of oc oa ob os K x (nI b) (nI c) hn) ?_
  refine aw_if_eq 27 dX10_ring_15 (by decide) (fun hh => absurd hh (bI_n h.2.1)) (fun _ => ?_)
  refine aw_aload_0 dX10_ring_18 ?_
  refine aw_iload_1 dX10_ring_19 ?_
  refine aw_iload_3 dX10_ring_20 ?_
  refine ce_X10_116 dX10_ring_21 rfl (k_X10_areTwo rd pl pc ra up f0 su nn wk ki we ow fr of oc oa ob os K x (nI a) (nI c) hn) ?_
  refine aw_if_ne 30 dX10_ring_24 (by decide) (fun _ => ?_) (fun hh => absurd hh (bI_n hac2))
  refine aw_aload_0 dX10_ring_30 ?_
  refine gf_X10_23 dX10_ring_31 rfl rfl ?_
  refine akN_iconst_5 dX10_ring_34 ?_
  refine aw_iload_1 dX10_ring_35 ?_
  refine aw_imulN dX10_ring_36 ?_
  refine aw_iload_2 dX10_ring_37 ?_
  refine aw_iaddN dX10_ring_38 ?_
  refine aw_ialdN dX10_ring_39 rfl (by omega) ?_
  refine aw_aload_0 dX10_ring_40 ?_
  refine gf_X10_23 dX10_ring_41 rfl rfl ?_
  refine akN_iconst_5 dX10_ring_44 ?_
  refine aw_iload_2 dX10_ring_45 ?_
  refine aw_imulN dX10_ring_46 ?_
  refine aw_iload_3 dX10_ring_47 ?_
  refine aw_iaddN dX10_ring_48 ?_
  refine aw_ialdN dX10_ring_49 rfl (by omega) ?_
  refine ce_X10_124 dX10_ring_50 (k_X10_less _ _ _ (by omega) (by omega)) ?_
  refine aw_aload_0 dX10_ring_53 ?_
  refine gf_X10_23 dX10_ring_54 rfl rfl ?_
  refine akN_iconst_5 dX10_ring_57 ?_
  refine aw_iload_3 dX10_ring_58 ?_
  refine aw_imulN dX10_ring_59 ?_
  refine aw_iload_1 dX10_ring_60 ?_
  refine aw_iaddN dX10_ring_61 ?_
  refine aw_ialdN dX10_ring_62 rfl (by omega) ?_
  refine ce_X10_124 dX10_ring_63 (k_X10_less _ _ _ (by omega) (by omega)) ?_
  rw [hm2]
  refine aw_istore_4 dX10_ring_66 rfl (Nat.le_of_ble_eq_true rfl) ?_
  refine aw_aload_0 dX10_ring_68 ?_
  refine gf_X10_23 dX10_ring_69 rfl rfl ?_
  refine akN_iconst_5 dX10_ring_72 ?_
  refine aw_iload_1 dX10_ring_73 ?_
  refine aw_imulN dX10_ring_74 ?_
  refine aw_iload_2 dX10_ring_75 ?_
  refine aw_iaddN dX10_ring_76 ?_
  refine aw_dup2 dX10_ring_77 rfl rfl ?_
  refine aw_ialdN dX10_ring_78 rfl (by omega) ?_
  refine aw_iload_4 dX10_ring_79 ?_
  refine aw_isubN dX10_ring_81 (by omega) ?_
  refine aw_iastN dX10_ring_82 rfl (by omega) ?_
  refine aw_w cm_3 ?_
  refine aw_aload_0 dX10_ring_83 ?_
  refine gf_X10_23 dX10_ring_84 rfl rfl ?_
  refine akN_iconst_5 dX10_ring_87 ?_
  refine aw_iload_2 dX10_ring_88 ?_
  refine aw_imulN dX10_ring_89 ?_
  refine aw_iload_3 dX10_ring_90 ?_
  refine aw_iaddN dX10_ring_91 ?_
  refine aw_dup2 dX10_ring_92 rfl rfl ?_
  refine aw_ialdN dX10_ring_93 rfl (by omega) ?_
  refine aw_topi (congrArg nI (up_ne (f := ow) (show 5 * b + c ≠ 5 * a + b by omega))) ?_
  refine aw_iload_4 dX10_ring_94 ?_
  refine aw_isubN dX10_ring_96 (by omega) ?_
  refine aw_iastN dX10_ring_97 rfl (by omega) ?_
  refine aw_w cm_3 ?_
  refine aw_aload_0 dX10_ring_98 ?_
  refine gf_X10_23 dX10_ring_99 rfl rfl ?_
  refine akN_iconst_5 dX10_ring_102 ?_
  refine aw_iload_3 dX10_ring_103 ?_
  refine aw_imulN dX10_ring_104 ?_
  refine aw_iload_1 dX10_ring_105 ?_
  refine aw_iaddN dX10_ring_106 ?_
  refine aw_dup2 dX10_ring_107 rfl rfl ?_
  refine aw_ialdN dX10_ring_108 rfl (by omega) ?_
  refine aw_topi (congrArg nI ((up_ne (show 5 * c + a ≠ 5 * b + c by omega)).trans (up_ne (f := ow) (show 5 * c + a ≠ 5 * a + b by omega)))) ?_
  refine aw_iload_4 dX10_ring_109 ?_
  refine aw_isubN dX10_ring_111 (by omega) ?_
  refine aw_iastN dX10_ring_112 rfl (by omega) ?_
  refine aw_w cm_3 ?_
  refine aw_iload_4 dX10_ring_113 ?_
  exact aw_iret dX10_ring_115 rfl (⟨rfl, rfl⟩)
theorem m_forgive_no (rd : Int32) (pl : Nat) (pc : Nat → Nat) (ra up f0 su nn : Nat) (wk : Int32) (ki we ow fr of : Nat → Nat) (oc : Nat) (oa ob os : Nat → Nat) (K : mk_T) (x : ms_T) (a b : Int32) (hn : nn ≤ 5) (h : ¬ hb_P nn a b) : AM 8 yX10_forgive cX10_forgive 4 (some .int) [.ref 0, .int a, .int b] (mw_M (rd, (pl, pc), (ra, up, f0, su, nn, wk), ki, (we, ow, fr, of), (oc, oa, ob, os)) K x) (ac_R (some (.int (-101))) (mw_M (rd, (pl, pc), (ra, up, f0, su, nn, wk), ki, (we, ow, fr, of), (oc, oa, ob, os)) K x)) := by
  refine AM.of (loc := [.ref 0, .int a, .int b, .null]) RX10 rfl (by decide +kernel) (Nat.le_of_ble_eq_true rfl) rfl ?_
  refine aw_aload_0 dX10_forgive_0 ?_
  refine aw_iload_1 dX10_forgive_1 ?_
  refine aw_iload_2 dX10_forgive_2 ?_
  refine ce_X10_116 dX10_forgive_3 rfl (k_X10_areTwo rd pl pc ra up f0 su nn wk ki we ow fr of oc oa ob os K x a b hn) ?_
  refine aw_if_ne 12 dX10_forgive_6 (by decide) (fun hh => absurd (bI_f h) hh) (fun _ => ?_)
  refine ak_bipush_m101 dX10_forgive_9 ?_
  exact aw_iret dX10_forgive_11 rfl (⟨rfl, rfl⟩)
theorem m_forgive_ok (rd : Int32) (pl : Nat) (pc : Nat → Nat) (ra up f0 su nn : Nat) (wk : Int32) (ki we ow fr of : Nat → Nat) (oc : Nat) (oa ob os : Nat → Nat) (K : mk_T) (x : ms_T) (a b : Nat) (hn : nn ≤ 5) (ha : a < 5) (hb : b < 5) (h : hb_P nn (nI a) (nI b)) : AM 8 yX10_forgive cX10_forgive 4 (some .int) [.ref 0, .int (nI a), .int (nI b)] (mw_M (rd, (pl, pc), (ra, up, f0, su, nn, wk), ki, (we, ow, fr, of), (oc, oa, ob, os)) K x) (ac_R (some (.int (nI (ow (5 * b + a))))) (mw_M (rd, (pl, pc), (ra, up, f0, su, nn, wk), ki, (we, va_up ow (5 * b + a) 0, fr, of), (oc, oa, ob, os)) K x)) := by
  refine AM.of (loc := [.ref 0, .int (nI a), .int (nI b), .null]) RX10 rfl (by decide +kernel) (Nat.le_of_ble_eq_true rfl) rfl ?_
  refine aw_aload_0 dX10_forgive_0 ?_
  refine aw_iload_1 dX10_forgive_1 ?_
  refine aw_iload_2 dX10_forgive_2 ?_
  refine ce_X10_116 dX10_forgive_3 rfl (k_X10_areTwo rd pl pc ra up f0 su nn wk ki we ow fr of oc oa ob os K x (nI a) (nI b) hn) ?_
  refine aw_if_ne 12 dX10_forgive_6 (by decide) (fun _ => ?_) (fun hh => absurd hh (bI_n h))
  refine aw_aload_0 dX10_forgive_12 ?_
  refine gf_X10_23 dX10_forgive_13 rfl rfl ?_
  refine akN_iconst_5 dX10_forgive_16 ?_
  refine aw_iload_2 dX10_forgive_17 ?_
  refine aw_imulN dX10_forgive_18 ?_
  refine aw_iload_1 dX10_forgive_19 ?_
  refine aw_iaddN dX10_forgive_20 ?_
  refine aw_ialdN dX10_forgive_21 rfl (by omega) ?_
  refine aw_istore_3 dX10_forgive_22 rfl (Nat.le_of_ble_eq_true rfl) ?_
  refine aw_aload_0 dX10_forgive_23 ?_
  refine gf_X10_23 dX10_forgive_24 rfl rfl ?_
  refine akN_iconst_5 dX10_forgive_27 ?_
  refine aw_iload_2 dX10_forgive_28 ?_
  refine aw_imulN dX10_forgive_29 ?_
  refine aw_iload_1 dX10_forgive_30 ?_
  refine aw_iaddN dX10_forgive_31 ?_
  refine akN_iconst_0 dX10_forgive_32 ?_
  refine aw_iastN dX10_forgive_33 rfl (by omega) ?_
  refine aw_w cm_3 ?_
  refine aw_iload_3 dX10_forgive_34 ?_
  exact aw_iret dX10_forgive_35 rfl (⟨rfl, rfl⟩)
theorem m_bankrupt_no (rd : Int32) (pl : Nat) (pc : Nat → Nat) (ra up f0 su nn : Nat) (wk : Int32) (ki we ow fr of : Nat → Nat) (oc : Nat) (oa ob os : Nat → Nat) (K : mk_T) (x : ms_T) (a : Int32) (hn : nn ≤ 5) (h : ¬ hs_P nn a) : AM 8 yX10_bankrupt cX10_bankrupt 8 (some .int) [.ref 0, .int a] (mw_M (rd, (pl, pc), (ra, up, f0, su, nn, wk), ki, (we, ow, fr, of), (oc, oa, ob, os)) K x) (ac_R (some (.int (-101))) (mw_M (rd, (pl, pc), (ra, up, f0, su, nn, wk), ki, (we, ow, fr, of), (oc, oa, ob, os)) K x)) := by
  refine AM.of (loc := [.ref 0, .int a, .null, .null, .null, .null, .null, .null]) RX10 rfl (by decide +kernel) (Nat.le_of_ble_eq_true rfl) rfl ?_
  refine aw_aload_0 dX10_bankrupt_0 ?_
  refine aw_iload_1 dX10_bankrupt_1 ?_
  refine ce_X10_96 dX10_bankrupt_2 rfl (k_X10_isPerson rd pl pc ra up f0 su nn wk ki we ow fr of oc oa ob os K x a hn) ?_
  refine aw_if_ne 11 dX10_bankrupt_5 (by decide) (fun hh => absurd (bI_f h) hh) (fun _ => ?_)
  refine ak_bipush_m101 dX10_bankrupt_8 ?_
  exact aw_iret dX10_bankrupt_10 rfl (⟨rfl, rfl⟩)
theorem m_bankrupt_st (rd : Int32) (pl : Nat) (pc : Nat → Nat) (ra up f0 su nn : Nat) (wk : Int32) (ki we ow fr of : Nat → Nat) (oc : Nat) (oa ob os : Nat → Nat) (K : mk_T) (x : ms_T) (p : Nat) (hn : nn ≤ 5) (hp : p < nn) (h0 : fb_sm (fun q => ow (5 * p + q)) nn = 0) : AM 8 yX10_bankrupt cX10_bankrupt 8 (some .int) [.ref 0, .int (nI p)] (mw_M (rd, (pl, pc), (ra, up, f0, su, nn, wk), ki, (we, ow, fr, of), (oc, oa, ob, os)) K x) (ac_R (some (.int (-103))) (mw_M (rd, (pl, pc), (ra, up, f0, su, nn, wk), ki, (we, ow, fr, of), (oc, oa, ob, os)) K x)) := by
  refine AM.of (loc := [.ref 0, .int (nI p), .null, .null, .null, .null, .null, .null]) RX10 rfl (by decide +kernel) (Nat.le_of_ble_eq_true rfl) rfl ?_
  refine aw_aload_0 dX10_bankrupt_0 ?_
  refine aw_iload_1 dX10_bankrupt_1 ?_
  refine ce_X10_96 dX10_bankrupt_2 rfl (k_X10_isPerson rd pl pc ra up f0 su nn wk ki we ow fr of oc oa ob os K x (nI p) hn) ?_
  refine aw_if_ne 11 dX10_bankrupt_5 (by decide) (fun _ => ?_) (fun hh => absurd hh (bI_n (hs_of hp (by omega))))
  refine aw_aload_0 dX10_bankrupt_11 ?_
  refine akN_iconst_0 dX10_bankrupt_12 ?_
  refine aw_iload_1 dX10_bankrupt_13 ?_
  refine ce_X10_107 dX10_bankrupt_14 rfl (k_X10_owesAll rd pl pc ra up f0 su nn wk ki we ow fr of oc oa ob os K x 0 p (by omega) (by omega) hn) ?_
  rw [sh_0, h0]
  refine aw_istore_2 dX10_bankrupt_17 rfl (Nat.le_of_ble_eq_true rfl) ?_
  refine aw_iload_2 dX10_bankrupt_18 ?_
  refine aw_if_neN 25 dX10_bankrupt_19 (by decide) (by omega) (fun hh => absurd hh (by omega)) (fun _ => ?_)
  refine ak_bipush_m103 dX10_bankrupt_22 ?_
  exact aw_iret dX10_bankrupt_24 rfl (⟨rfl, rfl⟩)
/-- what all have behind a bankruptcy, while it is shared out: he himself stays as he is -/
def bw_N (we ow : Nat → Nat) (p all : Nat) : Nat → Nat := fun q => if q = p then we q else min 999 (we q + pa_N we ow p all q)
theorem m_bankrupt_ok (rd : Int32) (pl : Nat) (pc : Nat → Nat) (ra up f0 su nn : Nat) (wk : Int32) (ki we ow fr of : Nat → Nat) (oc : Nat) (oa ob os : Nat → Nat) (K : mk_T) (x : ms_T) (p : Nat) (hn : nn ≤ 5) (hp : p < nn) (hwe : ∀ k, k < 5 → we k ≤ 999) (how : ∀ k, k < 25 → ow k ≤ 9999) (all : Nat) (hall : all = fb_sm (fun q => ow (5 * p + q)) nn) (h0 : 0 < all) : AM 8 yX10_bankrupt cX10_bankrupt 8 (some .int) [.ref 0, .int (nI p)] (mw_M (rd, (pl, pc), (ra, up, f0, su, nn, wk), ki, (we, ow, fr, of), (oc, oa, ob, os)) K x) (ac_R (some (.int (nI (fb_sm (pa_N we ow p all) nn)))) (mw_M (rd, (pl, pc), (ra, up, f0, su, nn, wk), ki, (va_up (pt_N nn we (bw_N we ow p all)) p (we p - fb_sm (pa_N we ow p all) nn), rz_N p nn ow, fr, of), (oc, oa, ob, os)) K x)) := by
  have hle : fb_sm (pa_N we ow p all) nn ≤ we p := by subst hall; exact pa_le we ow p nn h0
  have hall5 : all ≤ nn * 9999 := by
    rw [hall]
    exact fb_sm_bound (fun k hk => how _ (by omega))
  have h55 : nn * 9999 ≤ 5 * 9999 := Nat.mul_le_mul_right _ hn
  have hwp := hwe p (by omega)
  refine AM.of (loc := [.ref 0, .int (nI p), .null, .null, .null, .null, .null, .null]) RX10 rfl (by decide +kernel) (Nat.le_of_ble_eq_true rfl) rfl ?_
  refine aw_aload_0 dX10_bankrupt_0 ?_
  refine aw_iload_1 dX10_bankrupt_1 ?_
  refine ce_X10_96 dX10_bankrupt_2 rfl (k_X10_isPerson rd pl pc ra up f0 su nn wk ki we ow fr of oc oa ob os K x (nI p) hn) ?_
  refine aw_if_ne 11 dX10_bankrupt_5 (by decide) (fun _ => ?_) (fun hh => absurd hh (bI_n (hs_of hp (by omega))))
  refine aw_aload_0 dX10_bankrupt_11 ?_
  refine akN_iconst_0 dX10_bankrupt_12 ?_
  refine aw_iload_1 dX10_bankrupt_13 ?_
  refine ce_X10_107 dX10_bankrupt_14 rfl (k_X10_owesAll rd pl pc ra up f0 su nn wk ki we ow fr of oc oa ob os K x 0 p (by omega) (by omega) hn) ?_
  rw [sh_0, ← hall]
  refine aw_istore_2 dX10_bankrupt_17 rfl (Nat.le_of_ble_eq_true rfl) ?_
  refine aw_iload_2 dX10_bankrupt_18 ?_
  refine aw_if_neN 25 dX10_bankrupt_19 (by decide) (by omega) (fun _ => ?_) (fun hh => absurd hh (by omega))
  refine aw_aload_0 dX10_bankrupt_25 ?_
  refine gf_X10_20 dX10_bankrupt_26 rfl rfl ?_
  refine aw_iload_1 dX10_bankrupt_29 ?_
  refine aw_ialdN dX10_bankrupt_30 rfl (by omega) ?_
  refine aw_istore_3 dX10_bankrupt_31 rfl (Nat.le_of_ble_eq_true rfl) ?_
  refine akN_iconst_0 dX10_bankrupt_32 ?_
  refine aw_istore_4 dX10_bankrupt_33 rfl (Nat.le_of_ble_eq_true rfl) ?_
  refine akN_iconst_0 dX10_bankrupt_35 ?_
  refine aw_istore_5 dX10_bankrupt_36 rfl (Nat.le_of_ble_eq_true rfl) ?_
  have loop : ∀ k i, i + k = nn → ∀ j6 j7 : Value, AW 8 RX10 cX10_bankrupt 8 (some .int) 18 (ac_R (some (.int (nI (fb_sm (pa_N we ow p all) nn)))) (mw_M (rd, (pl, pc), (ra, up, f0, su, nn, wk), ki, (va_up (pt_N nn we (bw_N we ow p all)) p (we p - fb_sm (pa_N we ow p all) nn), rz_N p nn ow, fr, of), (oc, oa, ob, os)) K x)) 38 [.ref 0, .int (nI p), .int (nI all), .int (nI (we p)), .int (nI (fb_sm (pa_N we ow p all) i)), .int (nI i), j6, j7] [] (mw_M (rd, (pl, pc), (ra, up, f0, su, nn, wk), ki, (pt_N i we (bw_N we ow p all), rz_N p i ow, fr, of), (oc, oa, ob, os)) K x) := by
    intro k
    induction k with
    | zero =>
      intro i hi j6 j7
      obtain rfl : i = nn := by omega
      refine aw_iload_5 dX10_bankrupt_38 ?_
      refine aw_aload_0 dX10_bankrupt_40 ?_
      refine gf_X10_93 dX10_bankrupt_41 rfl rfl ?_
      refine aw_icmp_geN 138 dX10_bankrupt_44 (by decide) (by omega) (by omega) (fun _ => ?_) (fun hh => absurd hh (by omega))
      refine aw_aload_0 dX10_bankrupt_138 ?_
      refine gf_X10_20 dX10_bankrupt_139 rfl rfl ?_
      refine aw_iload_1 dX10_bankrupt_142 ?_
      refine aw_iload_3 dX10_bankrupt_143 ?_
      refine aw_iload_4 dX10_bankrupt_144 ?_
      refine aw_isubN dX10_bankrupt_146 hle ?_
      refine aw_iastN dX10_bankrupt_147 rfl (by omega) ?_
      refine aw_w cm_2 ?_
      refine aw_iload_4 dX10_bankrupt_148 ?_
      exact aw_iret dX10_bankrupt_150 rfl (⟨rfl, rfl⟩)
    | succ k ih =>
      intro i hi j6 j7
      have hO := how (5 * p + i) (by omega)
      have hW := hwe i (by omega)
      have hmul : we p * ow (5 * p + i) ≤ 999 * 9999 := Nat.mul_le_mul hwp hO
      have hdl : we p * ow (5 * p + i) / all ≤ we p * ow (5 * p + i) := Nat.div_le_self _ _
      refine aw_iload_5 dX10_bankrupt_38 ?_
      refine aw_aload_0 dX10_bankrupt_40 ?_
      refine gf_X10_93 dX10_bankrupt_41 rfl rfl ?_
      refine aw_icmp_geN 138 dX10_bankrupt_44 (by decide) (by omega) (by omega) (fun hh => absurd hh (by omega)) (fun _ => ?_)
      refine akN_iconst_5 dX10_bankrupt_47 ?_
      refine aw_iload_1 dX10_bankrupt_48 ?_
      refine aw_imulN dX10_bankrupt_49 ?_
      refine aw_iload_5 dX10_bankrupt_50 ?_
      refine aw_iaddN dX10_bankrupt_52 ?_
      refine aw_istore_6 dX10_bankrupt_53 rfl (Nat.le_of_ble_eq_true rfl) ?_
      refine aw_iload_3 dX10_bankrupt_55 ?_
      refine aw_aload_0 dX10_bankrupt_56 ?_
      refine gf_X10_23 dX10_bankrupt_57 rfl rfl ?_
      refine aw_iload_6 dX10_bankrupt_60 ?_
      refine aw_ialdN dX10_bankrupt_62 rfl (by omega) ?_
      refine aw_topi (congrArg nI (rz_at p i ow)) ?_
      refine aw_imulN dX10_bankrupt_63 ?_
      refine aw_iload_2 dX10_bankrupt_64 ?_
      refine aw_idivN dX10_bankrupt_65 (by omega) (by omega) (by omega) ?_
      refine aw_aload_0 dX10_bankrupt_66 ?_
      refine gf_X10_23 dX10_bankrupt_67 rfl rfl ?_
      refine aw_iload_6 dX10_bankrupt_70 ?_
      refine aw_ialdN dX10_bankrupt_72 rfl (by omega) ?_
      refine aw_topi (congrArg nI (rz_at p i ow)) ?_
      refine ce_X10_124 dX10_bankrupt_73 (k_X10_less _ _ _ (by omega) (by omega)) ?_
      refine aw_topi (congrArg nI (Nat.min_comm _ _ : _ = pa_N we ow p all i)) ?_
      have hpd : pa_N we ow p all i ≤ ow (5 * p + i) := Nat.min_le_left _ _
      refine aw_istore_7 dX10_bankrupt_76 rfl (Nat.le_of_ble_eq_true rfl) ?_
      refine aw_iload_4 dX10_bankrupt_78 ?_
      refine aw_iload_7 dX10_bankrupt_80 ?_
      refine aw_iaddN dX10_bankrupt_82 ?_
      refine aw_istore_4 dX10_bankrupt_83 rfl (Nat.le_of_ble_eq_true rfl) ?_
      refine aw_aload_0 dX10_bankrupt_85 ?_
      refine gf_X10_20 dX10_bankrupt_86 rfl rfl ?_
      refine aw_iload_5 dX10_bankrupt_89 ?_
      refine aw_iload_5 dX10_bankrupt_91 ?_
      refine aw_iload_1 dX10_bankrupt_93 ?_
      have tail : ∀ v : Nat, v = bw_N we ow p all i → AW 8 RX10 cX10_bankrupt 8 (some .int) 18 (ac_R (some (.int (nI (fb_sm (pa_N we ow p all) nn)))) (mw_M (rd, (pl, pc), (ra, up, f0, su, nn, wk), ki, (va_up (pt_N nn we (bw_N we ow p all)) p (we p - fb_sm (pa_N we ow p all) nn), rz_N p nn ow, fr, of), (oc, oa, ob, os)) K x)) 123 [.ref 0, .int (nI p), .int (nI all), .int (nI (we p)), .int (nI (fb_sm (pa_N we ow p all) i + pa_N we ow p all i)), .int (nI i), .int (nI (5 * p + i)), .int (nI (pa_N we ow p all i))] [.int (nI v), .int (nI i), .ref 2] (mw_M (rd, (pl, pc), (ra, up, f0, su, nn, wk), ki, (pt_N i we (bw_N we ow p all), rz_N p i ow, fr, of), (oc, oa, ob, os)) K x) := by
        intro v hv
        refine aw_iastN dX10_bankrupt_123 rfl (by omega) ?_
        refine aw_w cm_2 ?_
        rw [pt_up we _ i _ hv]
        refine aw_aload_0 dX10_bankrupt_124 ?_
        refine gf_X10_23 dX10_bankrupt_125 rfl rfl ?_
        refine aw_iload_6 dX10_bankrupt_128 ?_
        refine akN_iconst_0 dX10_bankrupt_130 ?_
        refine aw_iastN dX10_bankrupt_131 rfl (by omega) ?_
        refine aw_w cm_3 ?_
        rw [rz_up p i ow]
        refine aw_iincN_5 dX10_bankrupt_132 rfl (Nat.le_of_ble_eq_true rfl) ?_
        refine aw_goto 38 dX10_bankrupt_135 (by decide) ?_
        exact ih (i + 1) (by omega) _ _
      refine aw_icmp_neN 107 dX10_bankrupt_94 (by decide) (by omega) (by omega) (fun q => ?_) (fun q => ?_)
      · refine aw_aload_0 dX10_bankrupt_107 ?_
        refine gf_X10_20 dX10_bankrupt_108 rfl rfl ?_
        refine aw_iload_5 dX10_bankrupt_111 ?_
        refine aw_ialdN dX10_bankrupt_113 rfl (by omega) ?_
        refine aw_topi (congrArg nI (pt_at we (bw_N we ow p all) i)) ?_
        refine aw_iload_7 dX10_bankrupt_114 ?_
        refine aw_iaddN dX10_bankrupt_116 ?_
        refine akN_sipush_999 dX10_bankrupt_117 ?_
        refine ce_X10_124 dX10_bankrupt_120 (k_X10_less _ _ _ (by omega) (by omega)) ?_
        exact tail _ (by unfold bw_N; rw [if_neg q, Nat.min_comm]; rfl)
      refine aw_aload_0 dX10_bankrupt_97 ?_
      refine gf_X10_20 dX10_bankrupt_98 rfl rfl ?_
      refine aw_iload_5 dX10_bankrupt_101 ?_
      refine aw_ialdN dX10_bankrupt_103 rfl (by omega) ?_
      refine aw_goto 123 dX10_bankrupt_104 (by decide) ?_
      refine aw_topi (congrArg nI (pt_at we (bw_N we ow p all) i)) ?_
      exact tail _ (by unfold bw_N; rw [if_pos q])
  have h := loop nn 0 (by omega) .null .null
  rw [pt_0, rz_0] at h
  exact h
theorem m_offer_no (rd : Int32) (pl : Nat) (pc : Nat → Nat) (ra up f0 su nn : Nat) (wk : Int32) (ki we ow fr of : Nat → Nat) (oc : Nat) (oa ob os : Nat → Nat) (K : mk_T) (x : ms_T) (a b z : Int32) (hn : nn ≤ 5) (h : ¬ hb_P nn a b) : AM 8 yX10_offer cX10_offer 4 (some .int) [.ref 0, .int a, .int b, .int z] (mw_M (rd, (pl, pc), (ra, up, f0, su, nn, wk), ki, (we, ow, fr, of), (oc, oa, ob, os)) K x) (ac_R (some (.int (-101))) (mw_M (rd, (pl, pc), (ra, up, f0, su, nn, wk), ki, (we, ow, fr, of), (oc, oa, ob, os)) K x)) := by
  refine AM.of (loc := [.ref 0, .int a, .int b, .int z]) RX10 rfl (by decide +kernel) (Nat.le_of_ble_eq_true rfl) rfl ?_
  refine aw_aload_0 dX10_offer_0 ?_
  refine aw_iload_1 dX10_offer_1 ?_
  refine aw_iload_2 dX10_offer_2 ?_
  refine ce_X10_116 dX10_offer_3 rfl (k_X10_areTwo rd pl pc ra up f0 su nn wk ki we ow fr of oc oa ob os K x a b hn) ?_
  refine aw_if_ne 12 dX10_offer_6 (by decide) (fun hh => absurd (bI_f h) hh) (fun _ => ?_)
  refine ak_bipush_m101 dX10_offer_9 ?_
  exact aw_iret dX10_offer_11 rfl (⟨rfl, rfl⟩)
theorem m_offer_out (rd : Int32) (pl : Nat) (pc : Nat → Nat) (ra up f0 su nn : Nat) (wk : Int32) (ki we ow fr of : Nat → Nat) (oc : Nat) (oa ob os : Nat → Nat) (K : mk_T) (x : ms_T) (a b z : Int32) (hn : nn ≤ 5) (h : hb_P nn a b) (hz : ¬ (1 ≤ z ∧ z ≤ 99)) : AM 8 yX10_offer cX10_offer 4 (some .int) [.ref 0, .int a, .int b, .int z] (mw_M (rd, (pl, pc), (ra, up, f0, su, nn, wk), ki, (we, ow, fr, of), (oc, oa, ob, os)) K x) (ac_R (some (.int (-102))) (mw_M (rd, (pl, pc), (ra, up, f0, su, nn, wk), ki, (we, ow, fr, of), (oc, oa, ob, os)) K x)) := by
  refine AM.of (loc := [.ref 0, .int a, .int b, .int z]) RX10 rfl (by decide +kernel) (Nat.le_of_ble_eq_true rfl) rfl ?_
  refine aw_aload_0 dX10_offer_0 ?_
  refine aw_iload_1 dX10_offer_1 ?_
  refine aw_iload_2 dX10_offer_2 ?_
  refine ce_X10_116 dX10_offer_3 rfl (k_X10_areTwo rd pl pc ra up f0 su nn wk ki we ow fr of oc oa ob os K x a b hn) ?_
  refine aw_if_ne 12 dX10_offer_6 (by decide) (fun _ => ?_) (fun hh => absurd hh (bI_n h))
  refine aw_iload_3 dX10_offer_12 ?_
  refine ak_iconst_1 dX10_offer_13 ?_
  refine ak_bipush_99 dX10_offer_14 ?_
  refine ce_X10_69 dX10_offer_16 (k_X10_within _ z 1 99) ?_
  refine aw_if_ne 25 dX10_offer_19 (by decide) (fun hh => absurd (bI_f hz) hh) (fun _ => ?_)
  refine ak_bipush_m102 dX10_offer_22 ?_
  exact aw_iret dX10_offer_24 rfl (⟨rfl, rfl⟩)
theorem m_offer_full (rd : Int32) (pl : Nat) (pc : Nat → Nat) (ra up f0 su nn : Nat) (wk : Int32) (ki we ow fr of : Nat → Nat) (oc : Nat) (oa ob os : Nat → Nat) (K : mk_T) (x : ms_T) (a b z : Int32) (hn : nn ≤ 5) (h : hb_P nn a b) (hz : 1 ≤ z ∧ z ≤ 99) (hc : oc = 6) : AM 8 yX10_offer cX10_offer 4 (some .int) [.ref 0, .int a, .int b, .int z] (mw_M (rd, (pl, pc), (ra, up, f0, su, nn, wk), ki, (we, ow, fr, of), (oc, oa, ob, os)) K x) (ac_R (some (.int (-104))) (mw_M (rd, (pl, pc), (ra, up, f0, su, nn, wk), ki, (we, ow, fr, of), (oc, oa, ob, os)) K x)) := by
  refine AM.of (loc := [.ref 0, .int a, .int b, .int z]) RX10 rfl (by decide +kernel) (Nat.le_of_ble_eq_true rfl) rfl ?_
  refine aw_aload_0 dX10_offer_0 ?_
  refine aw_iload_1 dX10_offer_1 ?_
  refine aw_iload_2 dX10_offer_2 ?_
  refine ce_X10_116 dX10_offer_3 rfl (k_X10_areTwo rd pl pc ra up f0 su nn wk ki we ow fr of oc oa ob os K x a b hn) ?_
  refine aw_if_ne 12 dX10_offer_6 (by decide) (fun _ => ?_) (fun hh => absurd hh (bI_n h))
  refine aw_iload_3 dX10_offer_12 ?_
  refine ak_iconst_1 dX10_offer_13 ?_
  refine ak_bipush_99 dX10_offer_14 ?_
  refine ce_X10_69 dX10_offer_16 (k_X10_within _ z 1 99) ?_
  refine aw_if_ne 25 dX10_offer_19 (by decide) (fun _ => ?_) (fun hh => absurd hh (bI_n hz))
  refine aw_aload_0 dX10_offer_25 ?_
  refine gf_X10_174 dX10_offer_26 rfl rfl ?_
  refine akN_bipush_6 dX10_offer_29 ?_
  refine aw_icmp_neN 37 dX10_offer_31 (by decide) (by omega) (by omega) (fun hh => absurd hh (by omega)) (fun _ => ?_)
  refine ak_bipush_m104 dX10_offer_34 ?_
  exact aw_iret dX10_offer_36 rfl (⟨rfl, rfl⟩)
theorem m_offer_ok (rd : Int32) (pl : Nat) (pc : Nat → Nat) (ra up f0 su nn : Nat) (wk : Int32) (ki we ow fr of : Nat → Nat) (oc : Nat) (oa ob os : Nat → Nat) (K : mk_T) (x : ms_T) (a b z : Nat) (hn : nn ≤ 5) (h : hb_P nn (nI a) (nI b)) (hz : (1 : Int32) ≤ nI z ∧ nI z ≤ 99) (hc : oc < 6) : AM 8 yX10_offer cX10_offer 4 (some .int) [.ref 0, .int (nI a), .int (nI b), .int (nI z)] (mw_M (rd, (pl, pc), (ra, up, f0, su, nn, wk), ki, (we, ow, fr, of), (oc, oa, ob, os)) K x) (ac_R (some (.int (nI (oc + 1)))) (mw_M (rd, (pl, pc), (ra, up, f0, su, nn, wk), ki, (we, ow, fr, of), (oc + 1, va_up oa oc a, va_up ob oc b, va_up os oc z)) K x)) := by
  refine AM.of (loc := [.ref 0, .int (nI a), .int (nI b), .int (nI z)]) RX10 rfl (by decide +kernel) (Nat.le_of_ble_eq_true rfl) rfl ?_
  refine aw_aload_0 dX10_offer_0 ?_
  refine aw_iload_1 dX10_offer_1 ?_
  refine aw_iload_2 dX10_offer_2 ?_
  refine ce_X10_116 dX10_offer_3 rfl (k_X10_areTwo rd pl pc ra up f0 su nn wk ki we ow fr of oc oa ob os K x (nI a) (nI b) hn) ?_
  refine aw_if_ne 12 dX10_offer_6 (by decide) (fun _ => ?_) (fun hh => absurd hh (bI_n h))
  refine aw_iload_3 dX10_offer_12 ?_
  refine ak_iconst_1 dX10_offer_13 ?_
  refine ak_bipush_99 dX10_offer_14 ?_
  refine ce_X10_69 dX10_offer_16 (k_X10_within _ (nI z) 1 99) ?_
  refine aw_if_ne 25 dX10_offer_19 (by decide) (fun _ => ?_) (fun hh => absurd hh (bI_n hz))
  refine aw_aload_0 dX10_offer_25 ?_
  refine gf_X10_174 dX10_offer_26 rfl rfl ?_
  refine akN_bipush_6 dX10_offer_29 ?_
  refine aw_icmp_neN 37 dX10_offer_31 (by decide) (by omega) (by omega) (fun _ => ?_) (fun hh => absurd hh (by omega))
  refine aw_aload_0 dX10_offer_37 ?_
  refine gf_X10_32 dX10_offer_38 rfl rfl ?_
  refine aw_aload_0 dX10_offer_41 ?_
  refine gf_X10_174 dX10_offer_42 rfl rfl ?_
  refine aw_iload_1 dX10_offer_45 ?_
  refine aw_iastN dX10_offer_46 rfl hc ?_
  refine aw_w cm_6 ?_
  refine aw_aload_0 dX10_offer_47 ?_
  refine gf_X10_35 dX10_offer_48 rfl rfl ?_
  refine aw_aload_0 dX10_offer_51 ?_
  refine gf_X10_174 dX10_offer_52 rfl rfl ?_
  refine aw_iload_2 dX10_offer_55 ?_
  refine aw_iastN dX10_offer_56 rfl hc ?_
  refine aw_w cm_7 ?_
  refine aw_aload_0 dX10_offer_57 ?_
  refine gf_X10_38 dX10_offer_58 rfl rfl ?_
  refine aw_aload_0 dX10_offer_61 ?_
  refine gf_X10_174 dX10_offer_62 rfl rfl ?_
  refine aw_iload_3 dX10_offer_65 ?_
  refine aw_iastN dX10_offer_66 rfl hc ?_
  refine aw_w cm_8 ?_
  refine aw_aload_0 dX10_offer_67 ?_
  refine aw_dup dX10_offer_68 rfl ?_
  refine gf_X10_174 dX10_offer_69 rfl rfl ?_
  refine akN_iconst_1 dX10_offer_72 ?_
  refine aw_iaddN dX10_offer_73 ?_
  refine pf_X10_174 dX10_offer_74 rfl (Nat.le_of_ble_eq_true rfl) ?_
  refine aw_w cm_0_12 ?_
  refine aw_aload_0 dX10_offer_77 ?_
  refine gf_X10_174 dX10_offer_78 rfl rfl ?_
  exact aw_iret dX10_offer_81 rfl (⟨rfl, rfl⟩)
theorem m_forget (rd : Int32) (pl : Nat) (pc : Nat → Nat) (ra up f0 su nn : Nat) (wk : Int32) (ki we ow fr of : Nat → Nat) (oc : Nat) (oa ob os : Nat → Nat) (K : mk_T) (x : ms_T) : AM 8 yX10_forget cX10_forget 2 (some .int) [.ref 0] (mw_M (rd, (pl, pc), (ra, up, f0, su, nn, wk), ki, (we, ow, fr, of), (oc, oa, ob, os)) K x) (ac_R (some (.int (nI oc))) (mw_M (rd, (pl, pc), (ra, up, f0, su, nn, wk), ki, (we, ow, fr, of), (0, oa, ob, os)) K x)) := by
  refine AM.of (loc := [.ref 0, .null]) RX10 rfl (by decide +kernel) (Nat.le_of_ble_eq_true rfl) rfl ?_
  refine aw_aload_0 dX10_forget_0 ?_
  refine gf_X10_174 dX10_forget_1 rfl rfl ?_
  refine aw_istore_1 dX10_forget_4 rfl (Nat.le_of_ble_eq_true rfl) ?_
  refine aw_aload_0 dX10_forget_5 ?_
  refine akN_iconst_0 dX10_forget_6 ?_
  refine pf_X10_174 dX10_forget_7 rfl (Nat.le_of_ble_eq_true rfl) ?_
  refine aw_w cm_0_12 ?_
  refine aw_iload_1 dX10_forget_10 ?_
  exact aw_iret dX10_forget_11 rfl (⟨rfl, rfl⟩)
