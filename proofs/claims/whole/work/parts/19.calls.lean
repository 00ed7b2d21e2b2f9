/-! ===== the class's calls, outcome by outcome: the second half ===== -/
theorem up_ne {f : Nat → Nat} {k v j : Nat} (h : j ≠ k) : va_up f k v j = f j := if_neg h
theorem up_at {f : Nat → Nat} {k v : Nat} : va_up f k v k = v := if_pos rfl
theorem c_pay_no (ik : Nat) (rd : Int32) (pl : Nat) (pc : Nat → Nat) (ra up f0 su nn : Nat) (wk : Int32) (ki we ow fr of : Nat → Nat) (t1 t2 : tw_T) (oc : Nat) (oa ob os : Nat → Nat) (o1 : of_T) (x : sc_T) (b a z : Int32) (h : ¬ hb_P nn b a) : AM 8 yX9_pay cX9_pay 5 (some .int) [.ref 0, .int b, .int a, .int z] (cw_C (ik, rd) (pl, pc) (ra, up, f0, su, nn, wk, ki, we, ow, fr, of) t1 t2 (oc, oa, ob, os) o1 x) (ac_R (some (.int (-101))) (cw_C (ik, rd) (pl, pc) (ra, up, f0, su, nn, wk, ki, we, ow, fr, of) t1 t2 (oc, oa, ob, os) o1 x)) := by
  refine AM.of (loc := [.ref 0, .int b, .int a, .int z, .null]) RX9 rfl (by decide +kernel) (Nat.le_of_ble_eq_true rfl) rfl ?_
  refine aw_aload_0 dX9_pay_0 ?_
  refine gf_X9_19 dX9_pay_1 rfl rfl ?_
  refine aw_iload_1 dX9_pay_4 ?_
  refine aw_iload_2 dX9_pay_5 ?_
  refine ce_X9_155 dX9_pay_6 rfl (k_X8_hasBoth_0 (ik, rd) (pl, pc) t1 t2 (oc, oa, ob, os) o1 x ra up f0 su nn wk ki we ow fr of b a) ?_
  refine aw_if_ne 15 dX9_pay_9 (by decide) (fun hh => absurd (bI_f h) hh) (fun _ => ?_)
  refine ak_bipush_m101 dX9_pay_12 ?_
  exact aw_iret dX9_pay_14 rfl (⟨rfl, rfl⟩)
theorem c_pay_out (ik : Nat) (rd : Int32) (pl : Nat) (pc : Nat → Nat) (ra up f0 su nn : Nat) (wk : Int32) (ki we ow fr of : Nat → Nat) (t1 t2 : tw_T) (oc : Nat) (oa ob os : Nat → Nat) (o1 : of_T) (x : sc_T) (b a z : Int32) (h : hb_P nn b a) (hz : ¬ (1 ≤ z ∧ z ≤ 999)) : AM 8 yX9_pay cX9_pay 5 (some .int) [.ref 0, .int b, .int a, .int z] (cw_C (ik, rd) (pl, pc) (ra, up, f0, su, nn, wk, ki, we, ow, fr, of) t1 t2 (oc, oa, ob, os) o1 x) (ac_R (some (.int (-102))) (cw_C (ik, rd) (pl, pc) (ra, up, f0, su, nn, wk, ki, we, ow, fr, of) t1 t2 (oc, oa, ob, os) o1 x)) := by
  refine AM.of (loc := [.ref 0, .int b, .int a, .int z, .null]) RX9 rfl (by decide +kernel) (Nat.le_of_ble_eq_true rfl) rfl ?_
  refine aw_aload_0 dX9_pay_0 ?_
  refine gf_X9_19 dX9_pay_1 rfl rfl ?_
  refine aw_iload_1 dX9_pay_4 ?_
  refine aw_iload_2 dX9_pay_5 ?_
  refine ce_X9_155 dX9_pay_6 rfl (k_X8_hasBoth_0 (ik, rd) (pl, pc) t1 t2 (oc, oa, ob, os) o1 x ra up f0 su nn wk ki we ow fr of b a) ?_
  refine aw_if_ne 15 dX9_pay_9 (by decide) (fun _ => ?_) (fun hh => absurd hh (bI_n h))
  refine aw_iload_3 dX9_pay_15 ?_
  refine ak_iconst_1 dX9_pay_16 ?_
  refine ak_sipush_999 dX9_pay_17 ?_
  refine ce_X9_71 dX9_pay_20 (k_X9_within _ z 1 999) ?_
  refine aw_if_ne 29 dX9_pay_23 (by decide) (fun hh => absurd (bI_f hz) hh) (fun _ => ?_)
  refine ak_bipush_m102 dX9_pay_26 ?_
  exact aw_iret dX9_pay_28 rfl (⟨rfl, rfl⟩)
theorem c_pay_st (ik : Nat) (rd : Int32) (pl : Nat) (pc : Nat → Nat) (ra up f0 su nn : Nat) (wk : Int32) (ki we ow fr of : Nat → Nat) (t1 t2 : tw_T) (oc : Nat) (oa ob os : Nat → Nat) (o1 : of_T) (x : sc_T) (b a z : Nat) (hb : b < 5) (ha : a < 5) (h : hb_P nn (nI b) (nI a)) (hz : (1 : Int32) ≤ nI z ∧ nI z ≤ 999) (hz2 : z ≤ 999) (hwb : we b ≤ 999) (hwa : we a ≤ 999) (how : ow (5 * b + a) ≤ 9999) (hs : we b < z ∨ ow (5 * b + a) < z ∨ 999 < we a + z) : AM 8 yX9_pay cX9_pay 5 (some .int) [.ref 0, .int (nI b), .int (nI a), .int (nI z)] (cw_C (ik, rd) (pl, pc) (ra, up, f0, su, nn, wk, ki, we, ow, fr, of) t1 t2 (oc, oa, ob, os) o1 x) (ac_R (some (.int (-103))) (cw_C (ik, rd) (pl, pc) (ra, up, f0, su, nn, wk, ki, we, ow, fr, of) t1 t2 (oc, oa, ob, os) o1 x)) := by
  refine AM.of (loc := [.ref 0, .int (nI b), .int (nI a), .int (nI z), .null]) RX9 rfl (by decide +kernel) (Nat.le_of_ble_eq_true rfl) rfl ?_
  refine aw_aload_0 dX9_pay_0 ?_
  refine gf_X9_19 dX9_pay_1 rfl rfl ?_
  refine aw_iload_1 dX9_pay_4 ?_
  refine aw_iload_2 dX9_pay_5 ?_
  refine ce_X9_155 dX9_pay_6 rfl (k_X8_hasBoth_0 (ik, rd) (pl, pc) t1 t2 (oc, oa, ob, os) o1 x ra up f0 su nn wk ki we ow fr of (nI b) (nI a)) ?_
  refine aw_if_ne 15 dX9_pay_9 (by decide) (fun _ => ?_) (fun hh => absurd hh (bI_n h))
  refine aw_iload_3 dX9_pay_15 ?_
  refine ak_iconst_1 dX9_pay_16 ?_
  refine ak_sipush_999 dX9_pay_17 ?_
  refine ce_X9_71 dX9_pay_20 (k_X9_within _ (nI z) 1 999) ?_
  refine aw_if_ne 29 dX9_pay_23 (by decide) (fun _ => ?_) (fun hh => absurd hh (bI_n hz))
  refine aw_iload_1 dX9_pay_29 ?_
  refine aw_iload_2 dX9_pay_30 ?_
  refine ce_X9_159 dX9_pay_31 (k_X9_pairOf _ b a) ?_
  refine aw_istore_4 dX9_pay_34 rfl (Nat.le_of_ble_eq_true rfl) ?_
  refine aw_aload_0 dX9_pay_36 ?_
  refine gf_X9_19 dX9_pay_37 rfl rfl ?_
  refine gf_X9_121 dX9_pay_40 rfl rfl ?_
  refine aw_iload_1 dX9_pay_43 ?_
  refine aw_ialdN dX9_pay_44 rfl hb ?_
  refine aw_iload_3 dX9_pay_45 ?_
  refine aw_icmp_ltN 80 dX9_pay_46 (by decide) (by omega) (by omega) (fun q1 => ?_) (fun q1 => ?_)
  · refine ak_bipush_m103 dX9_pay_80 ?_
    exact aw_iret dX9_pay_82 rfl (⟨rfl, rfl⟩)
  refine aw_aload_0 dX9_pay_49 ?_
  refine gf_X9_19 dX9_pay_50 rfl rfl ?_
  refine gf_X9_162 dX9_pay_53 rfl rfl ?_
  refine aw_iload_4 dX9_pay_56 ?_
  refine aw_ialdN dX9_pay_58 rfl (by omega) ?_
  refine aw_iload_3 dX9_pay_59 ?_
  refine aw_icmp_ltN 80 dX9_pay_60 (by decide) (by omega) (by omega) (fun q2 => ?_) (fun q2 => ?_)
  · refine ak_bipush_m103 dX9_pay_80 ?_
    exact aw_iret dX9_pay_82 rfl (⟨rfl, rfl⟩)
  refine aw_aload_0 dX9_pay_63 ?_
  refine gf_X9_19 dX9_pay_64 rfl rfl ?_
  refine gf_X9_121 dX9_pay_67 rfl rfl ?_
  refine aw_iload_2 dX9_pay_70 ?_
  refine aw_ialdN dX9_pay_71 rfl ha ?_
  refine aw_iload_3 dX9_pay_72 ?_
  refine aw_iaddN dX9_pay_73 ?_
  refine akN_sipush_999 dX9_pay_74 ?_
  refine aw_icmp_leN 83 dX9_pay_77 (by decide) (by omega) (by omega) (fun q3 => ?_) (fun q3 => ?_)
  · exact absurd hs (by omega)
  refine ak_bipush_m103 dX9_pay_80 ?_
  exact aw_iret dX9_pay_82 rfl (⟨rfl, rfl⟩)
theorem c_pay_ok (ik : Nat) (rd : Int32) (pl : Nat) (pc : Nat → Nat) (ra up f0 su nn : Nat) (wk : Int32) (ki we ow fr of : Nat → Nat) (t1 t2 : tw_T) (oc : Nat) (oa ob os : Nat → Nat) (o1 : of_T) (x : sc_T) (b a z : Nat) (hb : b < 5) (ha : a < 5) (hab : b ≠ a) (h : hb_P nn (nI b) (nI a)) (hz : (1 : Int32) ≤ nI z ∧ nI z ≤ 999) (hz2 : z ≤ 999) (hwb : we b ≤ 999) (hwa : we a ≤ 999) (how : ow (5 * b + a) ≤ 9999) (h1 : z ≤ we b) (h2 : z ≤ ow (5 * b + a)) (h3 : we a + z ≤ 999) : AM 8 yX9_pay cX9_pay 5 (some .int) [.ref 0, .int (nI b), .int (nI a), .int (nI z)] (cw_C (ik, rd) (pl, pc) (ra, up, f0, su, nn, wk, ki, we, ow, fr, of) t1 t2 (oc, oa, ob, os) o1 x) (ac_R (some (.int (nI (ow (5 * b + a) - z)))) (cw_C (ik, rd) (pl, pc) (ra, up, f0, su, nn, wk, ki, va_up (va_up we b (we b - z)) a (we a + z), va_up ow (5 * b + a) (ow (5 * b + a) - z), fr, of) t1 t2 (oc, oa, ob, os) o1 x)) := by
  refine AM.of (loc := [.ref 0, .int (nI b), .int (nI a), .int (nI z), .null]) RX9 rfl (by decide +kernel) (Nat.le_of_ble_eq_true rfl) rfl ?_
  refine aw_aload_0 dX9_pay_0 ?_
  refine gf_X9_19 dX9_pay_1 rfl rfl ?_
  refine aw_iload_1 dX9_pay_4 ?_
  refine aw_iload_2 dX9_pay_5 ?_
  refine ce_X9_155 dX9_pay_6 rfl (k_X8_hasBoth_0 (ik, rd) (pl, pc) t1 t2 (oc, oa, ob, os) o1 x ra up f0 su nn wk ki we ow fr of (nI b) (nI a)) ?_
  refine aw_if_ne 15 dX9_pay_9 (by decide) (fun _ => ?_) (fun hh => absurd hh (bI_n h))
  refine aw_iload_3 dX9_pay_15 ?_
  refine ak_iconst_1 dX9_pay_16 ?_
  refine ak_sipush_999 dX9_pay_17 ?_
  refine ce_X9_71 dX9_pay_20 (k_X9_within _ (nI z) 1 999) ?_
  refine aw_if_ne 29 dX9_pay_23 (by decide) (fun _ => ?_) (fun hh => absurd hh (bI_n hz))
  refine aw_iload_1 dX9_pay_29 ?_
  refine aw_iload_2 dX9_pay_30 ?_
  refine ce_X9_159 dX9_pay_31 (k_X9_pairOf _ b a) ?_
  refine aw_istore_4 dX9_pay_34 rfl (Nat.le_of_ble_eq_true rfl) ?_
  refine aw_aload_0 dX9_pay_36 ?_
  refine gf_X9_19 dX9_pay_37 rfl rfl ?_
  refine gf_X9_121 dX9_pay_40 rfl rfl ?_
  refine aw_iload_1 dX9_pay_43 ?_
  refine aw_ialdN dX9_pay_44 rfl hb ?_
  refine aw_iload_3 dX9_pay_45 ?_
  refine aw_icmp_ltN 80 dX9_pay_46 (by decide) (by omega) (by omega) (fun hh => absurd hh (by omega)) (fun _ => ?_)
  refine aw_aload_0 dX9_pay_49 ?_
  refine gf_X9_19 dX9_pay_50 rfl rfl ?_
  refine gf_X9_162 dX9_pay_53 rfl rfl ?_
  refine aw_iload_4 dX9_pay_56 ?_
  refine aw_ialdN dX9_pay_58 rfl (by omega) ?_
  refine aw_iload_3 dX9_pay_59 ?_
  refine aw_icmp_ltN 80 dX9_pay_60 (by decide) (by omega) (by omega) (fun hh => absurd hh (by omega)) (fun _ => ?_)
  refine aw_aload_0 dX9_pay_63 ?_
  refine gf_X9_19 dX9_pay_64 rfl rfl ?_
  refine gf_X9_121 dX9_pay_67 rfl rfl ?_
  refine aw_iload_2 dX9_pay_70 ?_
  refine aw_ialdN dX9_pay_71 rfl ha ?_
  refine aw_iload_3 dX9_pay_72 ?_
  refine aw_iaddN dX9_pay_73 ?_
  refine akN_sipush_999 dX9_pay_74 ?_
  refine aw_icmp_leN 83 dX9_pay_77 (by decide) (by omega) (by omega) (fun _ => ?_) (fun hh => absurd hh (by omega))
  refine aw_aload_0 dX9_pay_83 ?_
  refine gf_X9_19 dX9_pay_84 rfl rfl ?_
  refine gf_X9_121 dX9_pay_87 rfl rfl ?_
  refine aw_iload_1 dX9_pay_90 ?_
  refine aw_dup2 dX9_pay_91 rfl rfl ?_
  refine aw_ialdN dX9_pay_92 rfl hb ?_
  refine aw_iload_3 dX9_pay_93 ?_
  refine aw_isubN dX9_pay_94 h1 ?_
  refine aw_iastN dX9_pay_95 rfl hb ?_
  refine aw_w cs_6 ?_
  refine aw_aload_0 dX9_pay_96 ?_
  refine gf_X9_19 dX9_pay_97 rfl rfl ?_
  refine gf_X9_121 dX9_pay_100 rfl rfl ?_
  refine aw_iload_2 dX9_pay_103 ?_
  refine aw_dup2 dX9_pay_104 rfl rfl ?_
  refine aw_ialdN dX9_pay_105 rfl ha ?_
  refine aw_topi (congrArg nI (up_ne (f := we) (Ne.symm hab))) ?_
  refine aw_iload_3 dX9_pay_106 ?_
  refine aw_iaddN dX9_pay_107 ?_
  refine aw_iastN dX9_pay_108 rfl ha ?_
  refine aw_w cs_6 ?_
  refine aw_aload_0 dX9_pay_109 ?_
  refine gf_X9_19 dX9_pay_110 rfl rfl ?_
  refine gf_X9_162 dX9_pay_113 rfl rfl ?_
  refine aw_iload_4 dX9_pay_116 ?_
  refine aw_dup2 dX9_pay_118 rfl rfl ?_
  refine aw_ialdN dX9_pay_119 rfl (by omega) ?_
  refine aw_iload_3 dX9_pay_120 ?_
  refine aw_isubN dX9_pay_121 h2 ?_
  refine aw_iastN dX9_pay_122 rfl (by omega) ?_
  refine aw_w cs_7 ?_
  refine aw_aload_0 dX9_pay_123 ?_
  refine gf_X9_19 dX9_pay_124 rfl rfl ?_
  refine gf_X9_162 dX9_pay_127 rfl rfl ?_
  refine aw_iload_4 dX9_pay_130 ?_
  refine aw_ialdN dX9_pay_132 rfl (by omega) ?_
  exact aw_iret dX9_pay_133 rfl (⟨by rw [up_at], rfl⟩)
theorem c_setOff_no (ik : Nat) (rd : Int32) (pl : Nat) (pc : Nat → Nat) (ra up f0 su nn : Nat) (wk : Int32) (ki we ow fr of : Nat → Nat) (t1 t2 : tw_T) (oc : Nat) (oa ob os : Nat → Nat) (o1 : of_T) (x : sc_T) (a b : Int32) (h : ¬ hb_P nn a b) : AM 8 yX9_setOff cX9_setOff 6 (some .int) [.ref 0, .int a, .int b] (cw_C (ik, rd) (pl, pc) (ra, up, f0, su, nn, wk, ki, we, ow, fr, of) t1 t2 (oc, oa, ob, os) o1 x) (ac_R (some (.int (-101))) (cw_C (ik, rd) (pl, pc) (ra, up, f0, su, nn, wk, ki, we, ow, fr, of) t1 t2 (oc, oa, ob, os) o1 x)) := by
  refine AM.of (loc := [.ref 0, .int a, .int b, .null, .null, .null]) RX9 rfl (by decide +kernel) (Nat.le_of_ble_eq_true rfl) rfl ?_
  refine aw_aload_0 dX9_setOff_0 ?_
  refine gf_X9_19 dX9_setOff_1 rfl rfl ?_
  refine aw_iload_1 dX9_setOff_4 ?_
  refine aw_iload_2 dX9_setOff_5 ?_
  refine ce_X9_155 dX9_setOff_6 rfl (k_X8_hasBoth_0 (ik, rd) (pl, pc) t1 t2 (oc, oa, ob, os) o1 x ra up f0 su nn wk ki we ow fr of a b) ?_
  refine aw_if_ne 15 dX9_setOff_9 (by decide) (fun hh => absurd (bI_f h) hh) (fun _ => ?_)
  refine ak_bipush_m101 dX9_setOff_12 ?_
  exact aw_iret dX9_setOff_14 rfl (⟨rfl, rfl⟩)
theorem c_setOff_ok (ik : Nat) (rd : Int32) (pl : Nat) (pc : Nat → Nat) (ra up f0 su nn : Nat) (wk : Int32) (ki we ow fr of : Nat → Nat) (t1 t2 : tw_T) (oc : Nat) (oa ob os : Nat → Nat) (o1 : of_T) (x : sc_T) (a b : Nat) (ha : a < 5) (hb : b < 5) (hab : a ≠ b) (h : hb_P nn (nI a) (nI b)) (how : ∀ k, ow k ≤ 9999) : AM 8 yX9_setOff cX9_setOff 6 (some .int) [.ref 0, .int (nI a), .int (nI b)] (cw_C (ik, rd) (pl, pc) (ra, up, f0, su, nn, wk, ki, we, ow, fr, of) t1 t2 (oc, oa, ob, os) o1 x) (ac_R (some (.int (nI (min (ow (5 * a + b)) (ow (5 * b + a)))))) (cw_C (ik, rd) (pl, pc) (ra, up, f0, su, nn, wk, ki, we, va_up (va_up ow (5 * a + b) (ow (5 * a + b) - min (ow (5 * a + b)) (ow (5 * b + a)))) (5 * b + a) (ow (5 * b + a) - min (ow (5 * a + b)) (ow (5 * b + a))), fr, of) t1 t2 (oc, oa, ob, os) o1 x)) := by
  have q1 := how (5 * a + b)
  have q2 := how (5 * b + a)
  refine AM.of (loc := [.ref 0, .int (nI a), .int (nI b), .null, .null, .null]) RX9 rfl (by decide +kernel) (Nat.le_of_ble_eq_true rfl) rfl ?_
  refine aw_aload_0 dX9_setOff_0 ?_
  refine gf_X9_19 dX9_setOff_1 rfl rfl ?_
  refine aw_iload_1 dX9_setOff_4 ?_
  refine aw_iload_2 dX9_setOff_5 ?_
  refine ce_X9_155 dX9_setOff_6 rfl (k_X8_hasBoth_0 (ik, rd) (pl, pc) t1 t2 (oc, oa, ob, os) o1 x ra up f0 su nn wk ki we ow fr of (nI a) (nI b)) ?_
  refine aw_if_ne 15 dX9_setOff_9 (by decide) (fun _ => ?_) (fun hh => absurd hh (bI_n h))
  refine aw_iload_1 dX9_setOff_15 ?_
  refine aw_iload_2 dX9_setOff_16 ?_
  refine ce_X9_159 dX9_setOff_17 (k_X9_pairOf _ a b) ?_
  refine aw_istore_3 dX9_setOff_20 rfl (Nat.le_of_ble_eq_true rfl) ?_
  refine aw_iload_2 dX9_setOff_21 ?_
  refine aw_iload_1 dX9_setOff_22 ?_
  refine ce_X9_159 dX9_setOff_23 (k_X9_pairOf _ b a) ?_
  refine aw_istore_4 dX9_setOff_26 rfl (Nat.le_of_ble_eq_true rfl) ?_
  refine aw_aload_0 dX9_setOff_28 ?_
  refine gf_X9_19 dX9_setOff_29 rfl rfl ?_
  refine gf_X9_162 dX9_setOff_32 rfl rfl ?_
  refine aw_iload_3 dX9_setOff_35 ?_
  refine aw_ialdN dX9_setOff_36 rfl (by omega) ?_
  refine aw_aload_0 dX9_setOff_37 ?_
  refine gf_X9_19 dX9_setOff_38 rfl rfl ?_
  refine gf_X9_162 dX9_setOff_41 rfl rfl ?_
  refine aw_iload_4 dX9_setOff_44 ?_
  refine aw_ialdN dX9_setOff_46 rfl (by omega) ?_
  refine aw_minN gq_450 dX9_setOff_47 (Nat.le_of_ble_eq_true rfl) (by decide) (by omega) (by omega) ?_
  refine aw_istore_5 dX9_setOff_50 rfl (Nat.le_of_ble_eq_true rfl) ?_
  refine aw_aload_0 dX9_setOff_52 ?_
  refine gf_X9_19 dX9_setOff_53 rfl rfl ?_
  refine gf_X9_162 dX9_setOff_56 rfl rfl ?_
  refine aw_iload_3 dX9_setOff_59 ?_
  refine aw_dup2 dX9_setOff_60 rfl rfl ?_
  refine aw_ialdN dX9_setOff_61 rfl (by omega) ?_
  refine aw_iload_5 dX9_setOff_62 ?_
  refine aw_isubN dX9_setOff_64 (by omega) ?_
  refine aw_iastN dX9_setOff_65 rfl (by omega) ?_
  refine aw_w cs_7 ?_
  refine aw_aload_0 dX9_setOff_66 ?_
  refine gf_X9_19 dX9_setOff_67 rfl rfl ?_
  refine gf_X9_162 dX9_setOff_70 rfl rfl ?_
  refine aw_iload_4 dX9_setOff_73 ?_
  refine aw_dup2 dX9_setOff_75 rfl rfl ?_
  refine aw_ialdN dX9_setOff_76 rfl (by omega) ?_
  refine aw_topi (congrArg nI (up_ne (f := ow) (show 5 * b + a ≠ 5 * a + b by omega))) ?_
  refine aw_iload_5 dX9_setOff_77 ?_
  refine aw_isubN dX9_setOff_79 (by omega) ?_
  refine aw_iastN dX9_setOff_80 rfl (by omega) ?_
  refine aw_w cs_7 ?_
  refine aw_iload_5 dX9_setOff_81 ?_
  exact aw_iret dX9_setOff_83 rfl (⟨rfl, rfl⟩)
theorem c_ring_no (ik : Nat) (rd : Int32) (pl : Nat) (pc : Nat → Nat) (ra up f0 su nn : Nat) (wk : Int32) (ki we ow fr of : Nat → Nat) (t1 t2 : tw_T) (oc : Nat) (oa ob os : Nat → Nat) (o1 : of_T) (x : sc_T) (a b c : Int32) (h : ¬ (hb_P nn a b ∧ hb_P nn b c ∧ a ≠ c)) : AM 8 yX9_ring cX9_ring 8 (some .int) [.ref 0, .int a, .int b, .int c] (cw_C (ik, rd) (pl, pc) (ra, up, f0, su, nn, wk, ki, we, ow, fr, of) t1 t2 (oc, oa, ob, os) o1 x) (ac_R (some (.int (-101))) (cw_C (ik, rd) (pl, pc) (ra, up, f0, su, nn, wk, ki, we, ow, fr, of) t1 t2 (oc, oa, ob, os) o1 x)) := by
  refine AM.of (loc := [.ref 0, .int a, .int b, .int c, .null, .null, .null, .null]) RX9 rfl (by decide +kernel) (Nat.le_of_ble_eq_true rfl) rfl ?_
  by_cases h1 : hb_P nn a b
  · by_cases h2 : hb_P nn b c
    · refine aw_aload_0 dX9_ring_0 ?_
      refine gf_X9_19 dX9_ring_1 rfl rfl ?_
      refine aw_iload_1 dX9_ring_4 ?_
      refine aw_iload_2 dX9_ring_5 ?_
      refine ce_X9_155 dX9_ring_6 rfl (k_X8_hasBoth_0 (ik, rd) (pl, pc) t1 t2 (oc, oa, ob, os) o1 x ra up f0 su nn wk ki we ow fr of a b) ?_
      refine aw_if_eq 29 dX9_ring_9 (by decide) (fun hh => absurd hh (bI_n h1)) (fun _ => ?_)
      refine aw_aload_0 dX9_ring_12 ?_
      refine gf_X9_19 dX9_ring_13 rfl rfl ?_
      refine aw_iload_2 dX9_ring_16 ?_
      refine aw_iload_3 dX9_ring_17 ?_
      refine ce_X9_155 dX9_ring_18 rfl (k_X8_hasBoth_0 (ik, rd) (pl, pc) t1 t2 (oc, oa, ob, os) o1 x ra up f0 su nn wk ki we ow fr of b c) ?_
      refine aw_if_eq 29 dX9_ring_21 (by decide) (fun hh => absurd hh (bI_n h2)) (fun _ => ?_)
      refine aw_iload_1 dX9_ring_24 ?_
      refine aw_iload_3 dX9_ring_25 ?_
      refine aw_icmp_ne 32 dX9_ring_26 (by decide) (fun h3 => ?_) (fun h3 => ?_)
      · exact absurd ⟨h1, h2, h3⟩ h
      refine ak_bipush_m101 dX9_ring_29 ?_
      exact aw_iret dX9_ring_31 rfl (⟨rfl, rfl⟩)
    refine aw_aload_0 dX9_ring_0 ?_
    refine gf_X9_19 dX9_ring_1 rfl rfl ?_
    refine aw_iload_1 dX9_ring_4 ?_
    refine aw_iload_2 dX9_ring_5 ?_
    refine ce_X9_155 dX9_ring_6 rfl (k_X8_hasBoth_0 (ik, rd) (pl, pc) t1 t2 (oc, oa, ob, os) o1 x ra up f0 su nn wk ki we ow fr of a b) ?_
    refine aw_if_eq 29 dX9_ring_9 (by decide) (fun hh => absurd hh (bI_n h1)) (fun _ => ?_)
    refine aw_aload_0 dX9_ring_12 ?_
    refine gf_X9_19 dX9_ring_13 rfl rfl ?_
    refine aw_iload_2 dX9_ring_16 ?_
    refine aw_iload_3 dX9_ring_17 ?_
    refine ce_X9_155 dX9_ring_18 rfl (k_X8_hasBoth_0 (ik, rd) (pl, pc) t1 t2 (oc, oa, ob, os) o1 x ra up f0 su nn wk ki we ow fr of b c) ?_
    refine aw_if_eq 29 dX9_ring_21 (by decide) (fun _ => ?_) (fun hh => absurd (bI_f h2) hh)
    refine ak_bipush_m101 dX9_ring_29 ?_
    exact aw_iret dX9_ring_31 rfl (⟨rfl, rfl⟩)
  refine aw_aload_0 dX9_ring_0 ?_
  refine gf_X9_19 dX9_ring_1 rfl rfl ?_
  refine aw_iload_1 dX9_ring_4 ?_
  refine aw_iload_2 dX9_ring_5 ?_
  refine ce_X9_155 dX9_ring_6 rfl (k_X8_hasBoth_0 (ik, rd) (pl, pc) t1 t2 (oc, oa, ob, os) o1 x ra up f0 su nn wk ki we ow fr of a b) ?_
  refine aw_if_eq 29 dX9_ring_9 (by decide) (fun _ => ?_) (fun hh => absurd (bI_f h1) hh)
  refine ak_bipush_m101 dX9_ring_29 ?_
  exact aw_iret dX9_ring_31 rfl (⟨rfl, rfl⟩)
theorem c_ring_ok (ik : Nat) (rd : Int32) (pl : Nat) (pc : Nat → Nat) (ra up f0 su nn : Nat) (wk : Int32) (ki we ow fr of : Nat → Nat) (t1 t2 : tw_T) (oc : Nat) (oa ob os : Nat → Nat) (o1 : of_T) (x : sc_T) (a b c : Nat) (ha : a < 5) (hb : b < 5) (hc : c < 5) (hab : a ≠ b) (hbc : b ≠ c) (hac : a ≠ c) (h : hb_P nn (nI a) (nI b) ∧ hb_P nn (nI b) (nI c) ∧ nI a ≠ nI c) (how : ∀ k, ow k ≤ 9999) (m : Nat) (hm : m = min (ow (5 * a + b)) (min (ow (5 * b + c)) (ow (5 * c + a)))) : AM 8 yX9_ring cX9_ring 8 (some .int) [.ref 0, .int (nI a), .int (nI b), .int (nI c)] (cw_C (ik, rd) (pl, pc) (ra, up, f0, su, nn, wk, ki, we, ow, fr, of) t1 t2 (oc, oa, ob, os) o1 x) (ac_R (some (.int (nI m))) (cw_C (ik, rd) (pl, pc) (ra, up, f0, su, nn, wk, ki, we, va_up (va_up (va_up ow (5 * a + b) (ow (5 * a + b) - m)) (5 * b + c) (ow (5 * b + c) - m)) (5 * c + a) (ow (5 * c + a) - m), fr, of) t1 t2 (oc, oa, ob, os) o1 x)) := by
  have q1 := how (5 * a + b)
  have q2 := how (5 * b + c)
  have q3 := how (5 * c + a)
  refine AM.of (loc := [.ref 0, .int (nI a), .int (nI b), .int (nI c), .null, .null, .null, .null]) RX9 rfl (by decide +kernel) (Nat.le_of_ble_eq_true rfl) rfl ?_
  refine aw_aload_0 dX9_ring_0 ?_
  refine gf_X9_19 dX9_ring_1 rfl rfl ?_
  refine aw_iload_1 dX9_ring_4 ?_
  refine aw_iload_2 dX9_ring_5 ?_
  refine ce_X9_155 dX9_ring_6 rfl (k_X8_hasBoth_0 (ik, rd) (pl, pc) t1 t2 (oc, oa, ob, os) o1 x ra up f0 su nn wk ki we ow fr of (nI a) (nI b)) ?_
  refine aw_if_eq 29 dX9_ring_9 (by decide) (fun hh => absurd hh (bI_n h.1)) (fun _ => ?_)
  refine aw_aload_0 dX9_ring_12 ?_
  refine gf_X9_19 dX9_ring_13 rfl rfl ?_
  refine aw_iload_2 dX9_ring_16 ?_
  refine aw_iload_3 dX9_ring_17 ?_
  refine ce_X9_155 dX9_ring_18 rfl (k_X8_hasBoth_0 (ik, rd) (pl, pc) t1 t2 (oc, oa, ob, os) o1 x ra up f0 su nn wk ki we ow fr of (nI b) (nI c)) ?_
  refine aw_if_eq 29 dX9_ring_21 (by decide) (fun hh => absurd hh (bI_n h.2.1)) (fun _ => ?_)
  refine aw_iload_1 dX9_ring_24 ?_
  refine aw_iload_3 dX9_ring_25 ?_
  refine aw_icmp_ne 32 dX9_ring_26 (by decide) (fun _ => ?_) (fun hh => absurd hh (h.2.2))
  refine aw_iload_1 dX9_ring_32 ?_
  refine aw_iload_2 dX9_ring_33 ?_
  refine ce_X9_159 dX9_ring_34 (k_X9_pairOf _ a b) ?_
  refine aw_istore_4 dX9_ring_37 rfl (Nat.le_of_ble_eq_true rfl) ?_
  refine aw_iload_2 dX9_ring_39 ?_
  refine aw_iload_3 dX9_ring_40 ?_
  refine ce_X9_159 dX9_ring_41 (k_X9_pairOf _ b c) ?_
  refine aw_istore_5 dX9_ring_44 rfl (Nat.le_of_ble_eq_true rfl) ?_
  refine aw_iload_3 dX9_ring_46 ?_
  refine aw_iload_1 dX9_ring_47 ?_
  refine ce_X9_159 dX9_ring_48 (k_X9_pairOf _ c a) ?_
  refine aw_istore_6 dX9_ring_51 rfl (Nat.le_of_ble_eq_true rfl) ?_
  refine aw_aload_0 dX9_ring_53 ?_
  refine gf_X9_19 dX9_ring_54 rfl rfl ?_
  refine gf_X9_162 dX9_ring_57 rfl rfl ?_
  refine aw_iload_4 dX9_ring_60 ?_
  refine aw_ialdN dX9_ring_62 rfl (by omega) ?_
  refine aw_aload_0 dX9_ring_63 ?_
  refine gf_X9_19 dX9_ring_64 rfl rfl ?_
  refine gf_X9_162 dX9_ring_67 rfl rfl ?_
  refine aw_iload_5 dX9_ring_70 ?_
  refine aw_ialdN dX9_ring_72 rfl (by omega) ?_
  refine aw_aload_0 dX9_ring_73 ?_
  refine gf_X9_19 dX9_ring_74 rfl rfl ?_
  refine gf_X9_162 dX9_ring_77 rfl rfl ?_
  refine aw_iload_6 dX9_ring_80 ?_
  refine aw_ialdN dX9_ring_82 rfl (by omega) ?_
  refine aw_minN gq_450 dX9_ring_83 (Nat.le_of_ble_eq_true rfl) (by decide) (by omega) (by omega) ?_
  refine aw_minN gq_450 dX9_ring_86 (Nat.le_of_ble_eq_true rfl) (by decide) (by omega) (by omega) ?_
  rw [← hm]
  refine aw_istore_7 dX9_ring_89 rfl (Nat.le_of_ble_eq_true rfl) ?_
  refine aw_aload_0 dX9_ring_91 ?_
  refine gf_X9_19 dX9_ring_92 rfl rfl ?_
  refine gf_X9_162 dX9_ring_95 rfl rfl ?_
  refine aw_iload_4 dX9_ring_98 ?_
  refine aw_dup2 dX9_ring_100 rfl rfl ?_
  refine aw_ialdN dX9_ring_101 rfl (by omega) ?_
  refine aw_iload_7 dX9_ring_102 ?_
  refine aw_isubN dX9_ring_104 (by omega) ?_
  refine aw_iastN dX9_ring_105 rfl (by omega) ?_
  refine aw_w cs_7 ?_
  refine aw_aload_0 dX9_ring_106 ?_
  refine gf_X9_19 dX9_ring_107 rfl rfl ?_
  refine gf_X9_162 dX9_ring_110 rfl rfl ?_
  refine aw_iload_5 dX9_ring_113 ?_
  refine aw_dup2 dX9_ring_115 rfl rfl ?_
  refine aw_ialdN dX9_ring_116 rfl (by omega) ?_
  refine aw_topi (congrArg nI (up_ne (f := ow) (show 5 * b + c ≠ 5 * a + b by omega))) ?_
  refine aw_iload_7 dX9_ring_117 ?_
  refine aw_isubN dX9_ring_119 (by omega) ?_
  refine aw_iastN dX9_ring_120 rfl (by omega) ?_
  refine aw_w cs_7 ?_
  refine aw_aload_0 dX9_ring_121 ?_
  refine gf_X9_19 dX9_ring_122 rfl rfl ?_
  refine gf_X9_162 dX9_ring_125 rfl rfl ?_
  refine aw_iload_6 dX9_ring_128 ?_
  refine aw_dup2 dX9_ring_130 rfl rfl ?_
  refine aw_ialdN dX9_ring_131 rfl (by omega) ?_
  refine aw_topi (congrArg nI ((up_ne (show 5 * c + a ≠ 5 * b + c by omega)).trans (up_ne (f := ow) (show 5 * c + a ≠ 5 * a + b by omega)))) ?_
  refine aw_iload_7 dX9_ring_132 ?_
  refine aw_isubN dX9_ring_134 (by omega) ?_
  refine aw_iastN dX9_ring_135 rfl (by omega) ?_
  refine aw_w cs_7 ?_
  refine aw_iload_7 dX9_ring_136 ?_
  exact aw_iret dX9_ring_138 rfl (⟨rfl, rfl⟩)
theorem c_forgive_no (ik : Nat) (rd : Int32) (pl : Nat) (pc : Nat → Nat) (ra up f0 su nn : Nat) (wk : Int32) (ki we ow fr of : Nat → Nat) (t1 t2 : tw_T) (oc : Nat) (oa ob os : Nat → Nat) (o1 : of_T) (x : sc_T) (a b : Int32) (h : ¬ hb_P nn a b) : AM 8 yX9_forgive cX9_forgive 5 (some .int) [.ref 0, .int a, .int b] (cw_C (ik, rd) (pl, pc) (ra, up, f0, su, nn, wk, ki, we, ow, fr, of) t1 t2 (oc, oa, ob, os) o1 x) (ac_R (some (.int (-101))) (cw_C (ik, rd) (pl, pc) (ra, up, f0, su, nn, wk, ki, we, ow, fr, of) t1 t2 (oc, oa, ob, os) o1 x)) := by
  refine AM.of (loc := [.ref 0, .int a, .int b, .null, .null]) RX9 rfl (by decide +kernel) (Nat.le_of_ble_eq_true rfl) rfl ?_
  refine aw_aload_0 dX9_forgive_0 ?_
  refine gf_X9_19 dX9_forgive_1 rfl rfl ?_
  refine aw_iload_1 dX9_forgive_4 ?_
  refine aw_iload_2 dX9_forgive_5 ?_
  refine ce_X9_155 dX9_forgive_6 rfl (k_X8_hasBoth_0 (ik, rd) (pl, pc) t1 t2 (oc, oa, ob, os) o1 x ra up f0 su nn wk ki we ow fr of a b) ?_
  refine aw_if_ne 15 dX9_forgive_9 (by decide) (fun hh => absurd (bI_f h) hh) (fun _ => ?_)
  refine ak_bipush_m101 dX9_forgive_12 ?_
  exact aw_iret dX9_forgive_14 rfl (⟨rfl, rfl⟩)
theorem c_forgive_ok (ik : Nat) (rd : Int32) (pl : Nat) (pc : Nat → Nat) (ra up f0 su nn : Nat) (wk : Int32) (ki we ow fr of : Nat → Nat) (t1 t2 : tw_T) (oc : Nat) (oa ob os : Nat → Nat) (o1 : of_T) (x : sc_T) (a b : Nat) (ha : a < 5) (hb : b < 5) (h : hb_P nn (nI a) (nI b)) : AM 8 yX9_forgive cX9_forgive 5 (some .int) [.ref 0, .int (nI a), .int (nI b)] (cw_C (ik, rd) (pl, pc) (ra, up, f0, su, nn, wk, ki, we, ow, fr, of) t1 t2 (oc, oa, ob, os) o1 x) (ac_R (some (.int (nI (ow (5 * b + a))))) (cw_C (ik, rd) (pl, pc) (ra, up, f0, su, nn, wk, ki, we, va_up ow (5 * b + a) 0, fr, of) t1 t2 (oc, oa, ob, os) o1 x)) := by
  refine AM.of (loc := [.ref 0, .int (nI a), .int (nI b), .null, .null]) RX9 rfl (by decide +kernel) (Nat.le_of_ble_eq_true rfl) rfl ?_
  refine aw_aload_0 dX9_forgive_0 ?_
  refine gf_X9_19 dX9_forgive_1 rfl rfl ?_
  refine aw_iload_1 dX9_forgive_4 ?_
  refine aw_iload_2 dX9_forgive_5 ?_
  refine ce_X9_155 dX9_forgive_6 rfl (k_X8_hasBoth_0 (ik, rd) (pl, pc) t1 t2 (oc, oa, ob, os) o1 x ra up f0 su nn wk ki we ow fr of (nI a) (nI b)) ?_
  refine aw_if_ne 15 dX9_forgive_9 (by decide) (fun _ => ?_) (fun hh => absurd hh (bI_n h))
  refine aw_iload_2 dX9_forgive_15 ?_
  refine aw_iload_1 dX9_forgive_16 ?_
  refine ce_X9_159 dX9_forgive_17 (k_X9_pairOf _ b a) ?_
  refine aw_istore_3 dX9_forgive_20 rfl (Nat.le_of_ble_eq_true rfl) ?_
  refine aw_aload_0 dX9_forgive_21 ?_
  refine gf_X9_19 dX9_forgive_22 rfl rfl ?_
  refine gf_X9_162 dX9_forgive_25 rfl rfl ?_
  refine aw_iload_3 dX9_forgive_28 ?_
  refine aw_ialdN dX9_forgive_29 rfl (by omega) ?_
  refine aw_istore_4 dX9_forgive_30 rfl (Nat.le_of_ble_eq_true rfl) ?_
  refine aw_aload_0 dX9_forgive_32 ?_
  refine gf_X9_19 dX9_forgive_33 rfl rfl ?_
  refine gf_X9_162 dX9_forgive_36 rfl rfl ?_
  refine aw_iload_3 dX9_forgive_39 ?_
  refine akN_iconst_0 dX9_forgive_40 ?_
  refine aw_iastN dX9_forgive_41 rfl (by omega) ?_
  refine aw_w cs_7 ?_
  refine aw_iload_4 dX9_forgive_42 ?_
  exact aw_iret dX9_forgive_44 rfl (⟨rfl, rfl⟩)
/-- a part that one gets of a bankrupt's wealth -/
def pa_N (we ow : Nat → Nat) (p all q : Nat) : Nat := min (ow (5 * p + q)) (we p * ow (5 * p + q) / all)
def rz_N (p j : Nat) (ow : Nat → Nat) : Nat → Nat := fun k => if 5 * p ≤ k ∧ k < 5 * p + j then 0 else ow k
theorem rz_0 (p : Nat) (ow : Nat → Nat) : rz_N p 0 ow = ow := funext fun k => if_neg (by omega)
theorem rz_at (p j : Nat) (ow : Nat → Nat) : rz_N p j ow (5 * p + j) = ow (5 * p + j) := if_neg (by omega)
theorem rz_up (p j : Nat) (ow : Nat → Nat) : va_up (rz_N p j ow) (5 * p + j) 0 = rz_N p (j + 1) ow := by
  funext k
  unfold va_up rz_N
  by_cases e : k = 5 * p + j
  · rw [if_pos e, if_pos (by omega)]
  · rw [if_neg e]
    by_cases q : 5 * p ≤ k ∧ k < 5 * p + j
    · rw [if_pos q, if_pos (by omega)]
    · rw [if_neg q, if_neg (by omega)]
theorem rz_skip (p j : Nat) (ow : Nat → Nat) (h : ow (5 * p + j) = 0) : rz_N p j ow = rz_N p (j + 1) ow := by
  rw [← rz_up]
  funext k
  unfold va_up
  by_cases e : k = 5 * p + j
  · rw [if_pos e, e, rz_at, h]
  · rw [if_neg e]
theorem pa_sum (we ow : Nat → Nat) (p all : Nat) (h0 : 0 < all) : ∀ j, fb_sm (pa_N we ow p all) j * all ≤ we p * fb_sm (fun q => ow (5 * p + q)) j
  | 0 => by show 0 * all ≤ _; rw [Nat.zero_mul]; exact Nat.zero_le _
  | j + 1 => by
    have ih := pa_sum we ow p all h0 j
    rw [fb_sm_succ, fb_sm_succ, Nat.add_mul, Nat.mul_add]
    refine Nat.add_le_add ih ?_
    refine Nat.le_trans (Nat.mul_le_mul_right _ (Nat.min_le_right _ _)) ?_
    exact Nat.div_mul_le_self _ _
theorem pa_le (we ow : Nat → Nat) (p nn : Nat) (h0 : 0 < fb_sm (fun q => ow (5 * p + q)) nn) : fb_sm (pa_N we ow p (fb_sm (fun q => ow (5 * p + q)) nn)) nn ≤ we p := Nat.le_of_mul_le_mul_right (pa_sum we ow p _ h0 nn) h0
theorem k_X8_shareOut_0 (g : Nat × Int32) (P : pg_T) (ta tb : tw_T) (o0 o1 : of_T) (x : sc_T) (ra up f0 su nn : Nat) (wk : Int32) (ki we ow fr of : Nat → Nat) (p all : Nat) (hok : ok_T (ra, up, f0, su, nn, wk, ki, we, ow, fr, of)) (hp : p < nn) (hall : all = fb_sm (fun q => ow (5 * p + q)) nn) (h0 : 0 < all) : AM 2 yX8_shareOut cX8_shareOut 8 (some .int) [.ref 3, .int (nI p), .int (nI all)] (cw_C g P (ra, up, f0, su, nn, wk, ki, we, ow, fr, of) ta tb o0 o1 x) (ac_R (some (.int (nI (fb_sm (pa_N we ow p all) nn)))) (cw_C g P (ra, up, f0, su, nn, wk, ki, va_up (pt_N nn we (fun q => min 999 (we q + pa_N we ow p all q))) p (we p - fb_sm (pa_N we ow p all) nn), rz_N p nn ow, fr, of) ta tb o0 o1 x)) := by
  obtain ⟨hra, hu, hf0, hsu, hn, hki, hwe, how, hfr, hof⟩ := hok
  have hle : fb_sm (pa_N we ow p all) nn ≤ we p := by subst hall; exact pa_le we ow p nn h0
  have hall5 : all ≤ nn * 9999 := by rw [hall]; exact sm_le (fun k => how _) nn
  have h55 : nn * 9999 ≤ 5 * 9999 := Nat.mul_le_mul_right _ hn
  have hwp := hwe p
  refine AM.of (loc := [.ref 3, .int (nI p), .int (nI all), .null, .null, .null, .null, .null]) RX8 rfl (by decide +kernel) (Nat.le_of_ble_eq_true rfl) rfl ?_
  refine aw_aload_0 dX8_shareOut_0 ?_
  refine gf_X8_22 dX8_shareOut_1 rfl rfl ?_
  refine aw_iload_1 dX8_shareOut_4 ?_
  refine aw_ialdN dX8_shareOut_5 rfl (by omega) ?_
  refine aw_istore_3 dX8_shareOut_6 rfl (Nat.le_of_ble_eq_true rfl) ?_
  refine akN_iconst_0 dX8_shareOut_7 ?_
  refine aw_istore_4 dX8_shareOut_8 rfl (Nat.le_of_ble_eq_true rfl) ?_
  refine akN_iconst_0 dX8_shareOut_10 ?_
  refine aw_istore_5 dX8_shareOut_11 rfl (Nat.le_of_ble_eq_true rfl) ?_
  have loop : ∀ k i, i + k = nn → ∀ j6 j7 : Value, AW 2 RX8 cX8_shareOut 8 (some .int) 41 (ac_R (some (.int (nI (fb_sm (pa_N we ow p all) nn)))) (cw_C g P (ra, up, f0, su, nn, wk, ki, va_up (pt_N nn we (fun q => min 999 (we q + pa_N we ow p all q))) p (we p - fb_sm (pa_N we ow p all) nn), rz_N p nn ow, fr, of) ta tb o0 o1 x)) 13 [.ref 3, .int (nI p), .int (nI all), .int (nI (we p)), .int (nI (fb_sm (pa_N we ow p all) i)), .int (nI i), j6, j7] [] (cw_C g P (ra, up, f0, su, nn, wk, ki, pt_N i we (fun q => min 999 (we q + pa_N we ow p all q)), rz_N p i ow, fr, of) ta tb o0 o1 x) := by
    intro k
    induction k with
    | zero =>
      intro i hi j6 j7
      obtain rfl : i = nn := by omega
      refine aw_iload_5 dX8_shareOut_13 ?_
      refine aw_aload_0 dX8_shareOut_15 ?_
      refine gf_X8_44 dX8_shareOut_16 rfl rfl ?_
      refine aw_icmp_geN 111 dX8_shareOut_19 (by decide) (by omega) (by omega) (fun _ => ?_) (fun hh => absurd hh (by omega))
      refine aw_aload_0 dX8_shareOut_111 ?_
      refine gf_X8_22 dX8_shareOut_112 rfl rfl ?_
      refine aw_iload_1 dX8_shareOut_115 ?_
      refine aw_iload_3 dX8_shareOut_116 ?_
      refine aw_iload_4 dX8_shareOut_117 ?_
      refine aw_isubN dX8_shareOut_119 hle ?_
      refine aw_iastN dX8_shareOut_120 rfl (by omega) ?_
      refine aw_w cs_6 ?_
      refine aw_iload_4 dX8_shareOut_121 ?_
      exact aw_iret dX8_shareOut_123 rfl (⟨rfl, rfl⟩)
    | succ k ih =>
      intro i hi j6 j7
      have hO := how (5 * p + i)
      have hW := hwe i
      have hmul : we p * ow (5 * p + i) ≤ 999 * 9999 := Nat.mul_le_mul hwp hO
      have hpd : pa_N we ow p all i ≤ ow (5 * p + i) := Nat.min_le_left _ _
      refine aw_iload_5 dX8_shareOut_13 ?_
      refine aw_aload_0 dX8_shareOut_15 ?_
      refine gf_X8_44 dX8_shareOut_16 rfl rfl ?_
      refine aw_icmp_geN 111 dX8_shareOut_19 (by decide) (by omega) (by omega) (fun hh => absurd hh (by omega)) (fun _ => ?_)
      refine aw_iload_1 dX8_shareOut_22 ?_
      refine aw_iload_5 dX8_shareOut_23 ?_
      refine ce_X8_59 dX8_shareOut_25 (k_X9_pairOf _ p i) ?_
      refine aw_istore_6 dX8_shareOut_28 rfl (Nat.le_of_ble_eq_true rfl) ?_
      refine aw_aload_0 dX8_shareOut_30 ?_
      refine gf_X8_25 dX8_shareOut_31 rfl rfl ?_
      refine aw_iload_6 dX8_shareOut_34 ?_
      refine aw_ialdN dX8_shareOut_36 rfl (by omega) ?_
      refine aw_topi (congrArg nI (rz_at p i ow)) ?_
      refine aw_if_leN 105 dX8_shareOut_37 (by decide) (by omega) (fun q => ?_) (fun q => ?_)
      · have hz : ow (5 * p + i) = 0 := by omega
        have hpz : pa_N we ow p all i = 0 := by omega
        refine aw_iincN_5 dX8_shareOut_105 rfl (Nat.le_of_ble_eq_true rfl) ?_
        refine aw_goto 13 dX8_shareOut_108 (by decide) ?_
        have e1 : fb_sm (pa_N we ow p all) (i + 1) = fb_sm (pa_N we ow p all) i := by rw [fb_sm_succ, hpz]; rfl
        have e2 : pt_N (i + 1) we (fun q => min 999 (we q + pa_N we ow p all q)) = pt_N i we (fun q => min 999 (we q + pa_N we ow p all q)) := (pt_skip we _ (Nat.le_succ i) (fun k h1 h2 => by
          obtain rfl : k = i := by omega
          rw [hpz]
          omega)).symm
        rw [rz_skip p i ow hz, ← e1, ← e2]
        exact ih (i + 1) (by omega) _ _
      refine aw_iload_2 dX8_shareOut_40 ?_
      refine aw_if_leN 105 dX8_shareOut_41 (by decide) (by omega) (fun hh => absurd hh (by omega)) (fun _ => ?_)
      refine aw_aload_0 dX8_shareOut_44 ?_
      refine gf_X8_25 dX8_shareOut_45 rfl rfl ?_
      refine aw_iload_6 dX8_shareOut_48 ?_
      refine aw_ialdN dX8_shareOut_50 rfl (by omega) ?_
      refine aw_topi (congrArg nI (rz_at p i ow)) ?_
      refine aw_iload_3 dX8_shareOut_51 ?_
      refine aw_aload_0 dX8_shareOut_52 ?_
      refine gf_X8_25 dX8_shareOut_53 rfl rfl ?_
      refine aw_iload_6 dX8_shareOut_56 ?_
      refine aw_ialdN dX8_shareOut_58 rfl (by omega) ?_
      refine aw_topi (congrArg nI (rz_at p i ow)) ?_
      have hdl : we p * ow (5 * p + i) / all ≤ we p * ow (5 * p + i) := Nat.div_le_self _ _
      refine aw_imulN dX8_shareOut_59 ?_
      refine aw_iload_2 dX8_shareOut_60 ?_
      refine aw_idivN dX8_shareOut_61 (by omega) (by omega) (by omega) ?_
      refine aw_minN gq_410 dX8_shareOut_62 (Nat.le_of_ble_eq_true rfl) (by decide) (by omega) (by omega) ?_
      refine aw_topi (show nI (min (ow (5 * p + i)) (we p * ow (5 * p + i) / all)) = nI (pa_N we ow p all i) from rfl) ?_
      refine aw_istore_7 dX8_shareOut_65 rfl (Nat.le_of_ble_eq_true rfl) ?_
      refine aw_aload_0 dX8_shareOut_67 ?_
      refine gf_X8_22 dX8_shareOut_68 rfl rfl ?_
      refine aw_iload_5 dX8_shareOut_71 ?_
      refine akN_sipush_999 dX8_shareOut_73 ?_
      refine aw_aload_0 dX8_shareOut_76 ?_
      refine gf_X8_22 dX8_shareOut_77 rfl rfl ?_
      refine aw_iload_5 dX8_shareOut_80 ?_
      refine aw_ialdN dX8_shareOut_82 rfl (by omega) ?_
      refine aw_topi (congrArg nI (pt_at we (fun q => min 999 (we q + pa_N we ow p all q)) i)) ?_
      refine aw_iload_7 dX8_shareOut_83 ?_
      refine aw_iaddN dX8_shareOut_85 ?_
      refine aw_minN gq_410 dX8_shareOut_86 (Nat.le_of_ble_eq_true rfl) (by decide) (by omega) (by omega) ?_
      refine aw_iastN dX8_shareOut_89 rfl (by omega) ?_
      refine aw_w cs_6 ?_
      rw [pt_up we _ i _ rfl]
      refine aw_iload_4 dX8_shareOut_90 ?_
      refine aw_iload_7 dX8_shareOut_92 ?_
      refine aw_iaddN dX8_shareOut_94 ?_
      refine aw_istore_4 dX8_shareOut_95 rfl (Nat.le_of_ble_eq_true rfl) ?_
      refine aw_aload_0 dX8_shareOut_97 ?_
      refine gf_X8_25 dX8_shareOut_98 rfl rfl ?_
      refine aw_iload_6 dX8_shareOut_101 ?_
      refine akN_iconst_0 dX8_shareOut_103 ?_
      refine aw_iastN dX8_shareOut_104 rfl (by omega) ?_
      refine aw_w cs_7 ?_
      rw [rz_up p i ow]
      refine aw_iincN_5 dX8_shareOut_105 rfl (Nat.le_of_ble_eq_true rfl) ?_
      refine aw_goto 13 dX8_shareOut_108 (by decide) ?_
      exact ih (i + 1) (by omega) _ _
  have h := loop nn 0 (by omega) .null .null
  rw [pt_0, rz_0] at h
  exact h
theorem c_bankrupt_no (ik : Nat) (rd : Int32) (pl : Nat) (pc : Nat → Nat) (ra up f0 su nn : Nat) (wk : Int32) (ki we ow fr of : Nat → Nat) (t1 t2 : tw_T) (oc : Nat) (oa ob os : Nat → Nat) (o1 : of_T) (x : sc_T) (a : Int32) (h : ¬ hs_P nn a) : AM 8 yX9_bankrupt cX9_bankrupt 3 (some .int) [.ref 0, .int a] (cw_C (ik, rd) (pl, pc) (ra, up, f0, su, nn, wk, ki, we, ow, fr, of) t1 t2 (oc, oa, ob, os) o1 x) (ac_R (some (.int (-101))) (cw_C (ik, rd) (pl, pc) (ra, up, f0, su, nn, wk, ki, we, ow, fr, of) t1 t2 (oc, oa, ob, os) o1 x)) := by
  refine AM.of (loc := [.ref 0, .int a, .null]) RX9 rfl (by decide +kernel) (Nat.le_of_ble_eq_true rfl) rfl ?_
  refine aw_aload_0 dX9_bankrupt_0 ?_
  refine gf_X9_19 dX9_bankrupt_1 rfl rfl ?_
  refine aw_iload_1 dX9_bankrupt_4 ?_
  refine ce_X9_115 dX9_bankrupt_5 rfl (k_X8_has_0 (ik, rd) (pl, pc) t1 t2 (oc, oa, ob, os) o1 x ra up f0 su nn wk ki we ow fr of a) ?_
  refine aw_if_ne 14 dX9_bankrupt_8 (by decide) (fun hh => absurd (bI_f h) hh) (fun _ => ?_)
  refine ak_bipush_m101 dX9_bankrupt_11 ?_
  exact aw_iret dX9_bankrupt_13 rfl (⟨rfl, rfl⟩)
theorem c_bankrupt_st (ik : Nat) (rd : Int32) (pl : Nat) (pc : Nat → Nat) (ra up f0 su nn : Nat) (wk : Int32) (ki we ow fr of : Nat → Nat) (t1 t2 : tw_T) (oc : Nat) (oa ob os : Nat → Nat) (o1 : of_T) (x : sc_T) (p : Nat) (hn : nn ≤ 5) (hp : p < nn) (h0 : fb_sm (fun q => ow (5 * p + q)) nn = 0) : AM 8 yX9_bankrupt cX9_bankrupt 3 (some .int) [.ref 0, .int (nI p)] (cw_C (ik, rd) (pl, pc) (ra, up, f0, su, nn, wk, ki, we, ow, fr, of) t1 t2 (oc, oa, ob, os) o1 x) (ac_R (some (.int (-103))) (cw_C (ik, rd) (pl, pc) (ra, up, f0, su, nn, wk, ki, we, ow, fr, of) t1 t2 (oc, oa, ob, os) o1 x)) := by
  refine AM.of (loc := [.ref 0, .int (nI p), .null]) RX9 rfl (by decide +kernel) (Nat.le_of_ble_eq_true rfl) rfl ?_
  refine aw_aload_0 dX9_bankrupt_0 ?_
  refine gf_X9_19 dX9_bankrupt_1 rfl rfl ?_
  refine aw_iload_1 dX9_bankrupt_4 ?_
  refine ce_X9_115 dX9_bankrupt_5 rfl (k_X8_has_0 (ik, rd) (pl, pc) t1 t2 (oc, oa, ob, os) o1 x ra up f0 su nn wk ki we ow fr of (nI p)) ?_
  refine aw_if_ne 14 dX9_bankrupt_8 (by decide) (fun _ => ?_) (fun hh => absurd hh (bI_n (hs_of hp (by omega))))
  refine aw_aload_0 dX9_bankrupt_14 ?_
  refine gf_X9_19 dX9_bankrupt_15 rfl rfl ?_
  refine aw_iload_1 dX9_bankrupt_18 ?_
  refine ce_X9_124 dX9_bankrupt_19 rfl (k_X8_owedBy_0 (ik, rd) (pl, pc) t1 t2 (oc, oa, ob, os) o1 x ra up f0 su nn wk ki we ow fr of p hn (by omega)) ?_
  refine aw_istore_2 dX9_bankrupt_22 rfl (Nat.le_of_ble_eq_true rfl) ?_
  refine aw_iload_2 dX9_bankrupt_23 ?_
  refine aw_if_gtN 30 dX9_bankrupt_24 (by decide) (by omega) (fun hh => absurd hh (by omega)) (fun _ => ?_)
  refine ak_bipush_m103 dX9_bankrupt_27 ?_
  exact aw_iret dX9_bankrupt_29 rfl (⟨rfl, rfl⟩)
theorem c_bankrupt_ok (ik : Nat) (rd : Int32) (pl : Nat) (pc : Nat → Nat) (ra up f0 su nn : Nat) (wk : Int32) (ki we ow fr of : Nat → Nat) (t1 t2 : tw_T) (oc : Nat) (oa ob os : Nat → Nat) (o1 : of_T) (x : sc_T) (p : Nat) (hok : ok_T (ra, up, f0, su, nn, wk, ki, we, ow, fr, of)) (hp : p < nn) (all : Nat) (hall : all = fb_sm (fun q => ow (5 * p + q)) nn) (h0 : 0 < all) : AM 8 yX9_bankrupt cX9_bankrupt 3 (some .int) [.ref 0, .int (nI p)] (cw_C (ik, rd) (pl, pc) (ra, up, f0, su, nn, wk, ki, we, ow, fr, of) t1 t2 (oc, oa, ob, os) o1 x) (ac_R (some (.int (nI (fb_sm (pa_N we ow p all) nn)))) (cw_C (ik, rd) (pl, pc) (ra, up, f0, su, nn, wk, ki, va_up (pt_N nn we (fun q => min 999 (we q + pa_N we ow p all q))) p (we p - fb_sm (pa_N we ow p all) nn), rz_N p nn ow, fr, of) t1 t2 (oc, oa, ob, os) o1 x)) := by
  have hn : nn ≤ 5 := hok.2.2.2.2.1
  have hall5 : all ≤ nn * 9999 := by rw [hall]; exact sm_le (fun k => hok.2.2.2.2.2.2.2.1 _) nn
  have h55 : nn * 9999 ≤ 5 * 9999 := Nat.mul_le_mul_right _ hn
  refine AM.of (loc := [.ref 0, .int (nI p), .null]) RX9 rfl (by decide +kernel) (Nat.le_of_ble_eq_true rfl) rfl ?_
  refine aw_aload_0 dX9_bankrupt_0 ?_
  refine gf_X9_19 dX9_bankrupt_1 rfl rfl ?_
  refine aw_iload_1 dX9_bankrupt_4 ?_
  refine ce_X9_115 dX9_bankrupt_5 rfl (k_X8_has_0 (ik, rd) (pl, pc) t1 t2 (oc, oa, ob, os) o1 x ra up f0 su nn wk ki we ow fr of (nI p)) ?_
  refine aw_if_ne 14 dX9_bankrupt_8 (by decide) (fun _ => ?_) (fun hh => absurd hh (bI_n (hs_of hp (by omega))))
  refine aw_aload_0 dX9_bankrupt_14 ?_
  refine gf_X9_19 dX9_bankrupt_15 rfl rfl ?_
  refine aw_iload_1 dX9_bankrupt_18 ?_
  refine ce_X9_124 dX9_bankrupt_19 rfl (k_X8_owedBy_0 (ik, rd) (pl, pc) t1 t2 (oc, oa, ob, os) o1 x ra up f0 su nn wk ki we ow fr of p hn (by omega)) ?_
  rw [← hall]
  refine aw_istore_2 dX9_bankrupt_22 rfl (Nat.le_of_ble_eq_true rfl) ?_
  refine aw_iload_2 dX9_bankrupt_23 ?_
  refine aw_if_gtN 30 dX9_bankrupt_24 (by decide) (by omega) (fun _ => ?_) (fun hh => absurd hh (by omega))
  refine aw_aload_0 dX9_bankrupt_30 ?_
  refine gf_X9_19 dX9_bankrupt_31 rfl rfl ?_
  refine aw_iload_1 dX9_bankrupt_34 ?_
  refine aw_iload_2 dX9_bankrupt_35 ?_
  refine ce_X9_197 dX9_bankrupt_36 rfl (k_X8_shareOut_0 (ik, rd) (pl, pc) t1 t2 (oc, oa, ob, os) o1 x ra up f0 su nn wk ki we ow fr of p all hok hp hall h0) ?_
  exact aw_iret dX9_bankrupt_39 rfl (⟨rfl, rfl⟩)
theorem c_offer_no (ik : Nat) (rd : Int32) (pl : Nat) (pc : Nat → Nat) (ra up f0 su nn : Nat) (wk : Int32) (ki we ow fr of : Nat → Nat) (t1 t2 : tw_T) (oc : Nat) (oa ob os : Nat → Nat) (o1 : of_T) (x : sc_T) (a b z : Int32) (h : ¬ hb_P nn a b) : AM 8 yX9_offer cX9_offer 4 (some .int) [.ref 0, .int a, .int b, .int z] (cw_C (ik, rd) (pl, pc) (ra, up, f0, su, nn, wk, ki, we, ow, fr, of) t1 t2 (oc, oa, ob, os) o1 x) (ac_R (some (.int (-101))) (cw_C (ik, rd) (pl, pc) (ra, up, f0, su, nn, wk, ki, we, ow, fr, of) t1 t2 (oc, oa, ob, os) o1 x)) := by
  refine AM.of (loc := [.ref 0, .int a, .int b, .int z]) RX9 rfl (by decide +kernel) (Nat.le_of_ble_eq_true rfl) rfl ?_
  refine aw_aload_0 dX9_offer_0 ?_
  refine gf_X9_19 dX9_offer_1 rfl rfl ?_
  refine aw_iload_1 dX9_offer_4 ?_
  refine aw_iload_2 dX9_offer_5 ?_
  refine ce_X9_155 dX9_offer_6 rfl (k_X8_hasBoth_0 (ik, rd) (pl, pc) t1 t2 (oc, oa, ob, os) o1 x ra up f0 su nn wk ki we ow fr of a b) ?_
  refine aw_if_ne 15 dX9_offer_9 (by decide) (fun hh => absurd (bI_f h) hh) (fun _ => ?_)
  refine ak_bipush_m101 dX9_offer_12 ?_
  exact aw_iret dX9_offer_14 rfl (⟨rfl, rfl⟩)
theorem c_offer_out (ik : Nat) (rd : Int32) (pl : Nat) (pc : Nat → Nat) (ra up f0 su nn : Nat) (wk : Int32) (ki we ow fr of : Nat → Nat) (t1 t2 : tw_T) (oc : Nat) (oa ob os : Nat → Nat) (o1 : of_T) (x : sc_T) (a b z : Int32) (h : hb_P nn a b) (hz : ¬ (1 ≤ z ∧ z ≤ 99)) : AM 8 yX9_offer cX9_offer 4 (some .int) [.ref 0, .int a, .int b, .int z] (cw_C (ik, rd) (pl, pc) (ra, up, f0, su, nn, wk, ki, we, ow, fr, of) t1 t2 (oc, oa, ob, os) o1 x) (ac_R (some (.int (-102))) (cw_C (ik, rd) (pl, pc) (ra, up, f0, su, nn, wk, ki, we, ow, fr, of) t1 t2 (oc, oa, ob, os) o1 x)) := by
  refine AM.of (loc := [.ref 0, .int a, .int b, .int z]) RX9 rfl (by decide +kernel) (Nat.le_of_ble_eq_true rfl) rfl ?_
  refine aw_aload_0 dX9_offer_0 ?_
  refine gf_X9_19 dX9_offer_1 rfl rfl ?_
  refine aw_iload_1 dX9_offer_4 ?_
  refine aw_iload_2 dX9_offer_5 ?_
  refine ce_X9_155 dX9_offer_6 rfl (k_X8_hasBoth_0 (ik, rd) (pl, pc) t1 t2 (oc, oa, ob, os) o1 x ra up f0 su nn wk ki we ow fr of a b) ?_
  refine aw_if_ne 15 dX9_offer_9 (by decide) (fun _ => ?_) (fun hh => absurd hh (bI_n h))
  refine aw_iload_3 dX9_offer_15 ?_
  refine ce_X9_171 dX9_offer_16 (k_X9_isSize _ z) ?_
  refine aw_if_ne 25 dX9_offer_19 (by decide) (fun hh => absurd (bI_f hz) hh) (fun _ => ?_)
  refine ak_bipush_m102 dX9_offer_22 ?_
  exact aw_iret dX9_offer_24 rfl (⟨rfl, rfl⟩)
theorem c_offer_full (ik : Nat) (rd : Int32) (pl : Nat) (pc : Nat → Nat) (ra up f0 su nn : Nat) (wk : Int32) (ki we ow fr of : Nat → Nat) (t1 t2 : tw_T) (oc : Nat) (oa ob os : Nat → Nat) (o1 : of_T) (x : sc_T) (a b z : Int32) (h : hb_P nn a b) (hz : 1 ≤ z ∧ z ≤ 99) (hc : oc = 6) : AM 8 yX9_offer cX9_offer 4 (some .int) [.ref 0, .int a, .int b, .int z] (cw_C (ik, rd) (pl, pc) (ra, up, f0, su, nn, wk, ki, we, ow, fr, of) t1 t2 (oc, oa, ob, os) o1 x) (ac_R (some (.int (-104))) (cw_C (ik, rd) (pl, pc) (ra, up, f0, su, nn, wk, ki, we, ow, fr, of) t1 t2 (oc, oa, ob, os) o1 x)) := by
  refine AM.of (loc := [.ref 0, .int a, .int b, .int z]) RX9 rfl (by decide +kernel) (Nat.le_of_ble_eq_true rfl) rfl ?_
  refine aw_aload_0 dX9_offer_0 ?_
  refine gf_X9_19 dX9_offer_1 rfl rfl ?_
  refine aw_iload_1 dX9_offer_4 ?_
  refine aw_iload_2 dX9_offer_5 ?_
  refine ce_X9_155 dX9_offer_6 rfl (k_X8_hasBoth_0 (ik, rd) (pl, pc) t1 t2 (oc, oa, ob, os) o1 x ra up f0 su nn wk ki we ow fr of a b) ?_
  refine aw_if_ne 15 dX9_offer_9 (by decide) (fun _ => ?_) (fun hh => absurd hh (bI_n h))
  refine aw_iload_3 dX9_offer_15 ?_
  refine ce_X9_171 dX9_offer_16 (k_X9_isSize _ z) ?_
  refine aw_if_ne 25 dX9_offer_19 (by decide) (fun _ => ?_) (fun hh => absurd hh (bI_n hz))
  refine aw_aload_0 dX9_offer_25 ?_
  refine gf_X9_26 dX9_offer_26 rfl rfl ?_
  refine gf_X9_214 dX9_offer_29 rfl rfl ?_
  refine akN_bipush_6 dX9_offer_32 ?_
  refine aw_icmp_ltN 40 dX9_offer_34 (by decide) (by omega) (by omega) (fun hh => absurd hh (by omega)) (fun _ => ?_)
  refine ak_bipush_m104 dX9_offer_37 ?_
  exact aw_iret dX9_offer_39 rfl (⟨rfl, rfl⟩)
theorem c_offer_ok (ik : Nat) (rd : Int32) (pl : Nat) (pc : Nat → Nat) (ra up f0 su nn : Nat) (wk : Int32) (ki we ow fr of : Nat → Nat) (t1 t2 : tw_T) (oc : Nat) (oa ob os : Nat → Nat) (o1 : of_T) (x : sc_T) (a b z : Nat) (h : hb_P nn (nI a) (nI b)) (hz : (1 : Int32) ≤ nI z ∧ nI z ≤ 99) (hc : oc < 6) : AM 8 yX9_offer cX9_offer 4 (some .int) [.ref 0, .int (nI a), .int (nI b), .int (nI z)] (cw_C (ik, rd) (pl, pc) (ra, up, f0, su, nn, wk, ki, we, ow, fr, of) t1 t2 (oc, oa, ob, os) o1 x) (ac_R (some (.int (nI (oc + 1)))) (cw_C (ik, rd) (pl, pc) (ra, up, f0, su, nn, wk, ki, we, ow, fr, of) t1 t2 (oc + 1, va_up oa oc a, va_up ob oc b, va_up os oc z) o1 x)) := by
  refine AM.of (loc := [.ref 0, .int (nI a), .int (nI b), .int (nI z)]) RX9 rfl (by decide +kernel) (Nat.le_of_ble_eq_true rfl) rfl ?_
  refine aw_aload_0 dX9_offer_0 ?_
  refine gf_X9_19 dX9_offer_1 rfl rfl ?_
  refine aw_iload_1 dX9_offer_4 ?_
  refine aw_iload_2 dX9_offer_5 ?_
  refine ce_X9_155 dX9_offer_6 rfl (k_X8_hasBoth_0 (ik, rd) (pl, pc) t1 t2 (oc, oa, ob, os) o1 x ra up f0 su nn wk ki we ow fr of (nI a) (nI b)) ?_
  refine aw_if_ne 15 dX9_offer_9 (by decide) (fun _ => ?_) (fun hh => absurd hh (bI_n h))
  refine aw_iload_3 dX9_offer_15 ?_
  refine ce_X9_171 dX9_offer_16 (k_X9_isSize _ (nI z)) ?_
  refine aw_if_ne 25 dX9_offer_19 (by decide) (fun _ => ?_) (fun hh => absurd hh (bI_n hz))
  refine aw_aload_0 dX9_offer_25 ?_
  refine gf_X9_26 dX9_offer_26 rfl rfl ?_
  refine gf_X9_214 dX9_offer_29 rfl rfl ?_
  refine akN_bipush_6 dX9_offer_32 ?_
  refine aw_icmp_ltN 40 dX9_offer_34 (by decide) (by omega) (by omega) (fun _ => ?_) (fun hh => absurd hh (by omega))
  refine aw_aload_0 dX9_offer_40 ?_
  refine gf_X9_26 dX9_offer_41 rfl rfl ?_
  refine aw_iload_1 dX9_offer_44 ?_
  refine aw_iload_2 dX9_offer_45 ?_
  refine aw_iload_3 dX9_offer_46 ?_
  refine ce_X9_217 dX9_offer_47 rfl (k_X4_put _ _ _ _ _ _ _ oc oa ob os a b z hc) ?_
  refine aw_aload_0 dX9_offer_50 ?_
  refine gf_X9_26 dX9_offer_51 rfl rfl ?_
  refine gf_X9_214 dX9_offer_54 rfl rfl ?_
  exact aw_iret dX9_offer_57 rfl (⟨rfl, rfl⟩)
theorem c_forget (ik : Nat) (rd : Int32) (pl : Nat) (pc : Nat → Nat) (ra up f0 su nn : Nat) (wk : Int32) (ki we ow fr of : Nat → Nat) (t1 t2 : tw_T) (oc : Nat) (oa ob os : Nat → Nat) (o1 : of_T) (x : sc_T) : AM 8 yX9_forget cX9_forget 2 (some .int) [.ref 0] (cw_C (ik, rd) (pl, pc) (ra, up, f0, su, nn, wk, ki, we, ow, fr, of) t1 t2 (oc, oa, ob, os) o1 x) (ac_R (some (.int (nI oc))) (cw_C (ik, rd) (pl, pc) (ra, up, f0, su, nn, wk, ki, we, ow, fr, of) t1 t2 (0, oa, ob, os) o1 x)) := by
  refine AM.of (loc := [.ref 0, .null]) RX9 rfl (by decide +kernel) (Nat.le_of_ble_eq_true rfl) rfl ?_
  refine aw_aload_0 dX9_forget_0 ?_
  refine gf_X9_26 dX9_forget_1 rfl rfl ?_
  refine gf_X9_214 dX9_forget_4 rfl rfl ?_
  refine aw_istore_1 dX9_forget_7 rfl (Nat.le_of_ble_eq_true rfl) ?_
  refine aw_aload_0 dX9_forget_8 ?_
  refine gf_X9_26 dX9_forget_9 rfl rfl ?_
  refine akN_iconst_0 dX9_forget_12 ?_
  refine pf_X9_214 dX9_forget_13 rfl (Nat.le_of_ble_eq_true rfl) ?_
  refine aw_w cs_10_3 ?_
  refine aw_iload_1 dX9_forget_16 ?_
  exact aw_iret dX9_forget_17 rfl (⟨rfl, rfl⟩)
theorem c_image (ik : Nat) (rd : Int32) (pl : Nat) (pc : Nat → Nat) (ra up f0 su nn : Nat) (wk : Int32) (ki we ow fr of : Nat → Nat) (t1 t2 : tw_T) (oc : Nat) (oa ob os : Nat → Nat) (o1 : of_T) (x : sc_T) (hu : up ≤ 1) : AM 8 yX9_image cX9_image 1 (some .int) [.ref 0] (cw_C (ik, rd) (pl, pc) (ra, up, f0, su, nn, wk, ki, we, ow, fr, of) t1 t2 (oc, oa, ob, os) o1 x) (ac_R (some (.int wk)) (cw_C (1, rd) (pl, pc) (ra, up, f0, su, nn, wk, ki, we, ow, fr, of) (ra, up, f0, su, nn, wk, ki, we, ow, fr, of) t2 (oc, oa, ob, os) (oc, oa, ob, os) x)) := by
  refine AM.of (loc := [.ref 0]) RX9 rfl (by decide +kernel) (Nat.le_of_ble_eq_true rfl) rfl ?_
  refine aw_aload_0 dX9_image_0 ?_
  refine gf_X9_30 dX9_image_1 rfl rfl ?_
  refine aw_aload_0 dX9_image_4 ?_
  refine gf_X9_19 dX9_image_5 rfl rfl ?_
  refine ce_X9_241 dX9_image_8 rfl (k_X8_copyFrom_10 (ik, rd) (pl, pc) t2 (oc, oa, ob, os) o1 x t1.1 t1.2.1 t1.2.2.1 t1.2.2.2.1 t1.2.2.2.2.1 t1.2.2.2.2.2.1 t1.2.2.2.2.2.2.1 t1.2.2.2.2.2.2.2.1 t1.2.2.2.2.2.2.2.2.1 t1.2.2.2.2.2.2.2.2.2.1 t1.2.2.2.2.2.2.2.2.2.2 ra up f0 su nn wk ki we ow fr of hu) ?_
  refine aw_aload_0 dX9_image_11 ?_
  refine gf_X9_33 dX9_image_12 rfl rfl ?_
  refine aw_aload_0 dX9_image_15 ?_
  refine gf_X9_26 dX9_image_16 rfl rfl ?_
  refine ce_X9_254 dX9_image_19 rfl (k_X4_copyFrom_10 (ik, rd) (pl, pc) _ _ t2 x oc oa ob os o1.1 o1.2.1 o1.2.2.1 o1.2.2.2) ?_
  refine aw_aload_0 dX9_image_22 ?_
  refine akN_iconst_1 dX9_image_23 ?_
  refine pf_X9_257 dX9_image_24 rfl (Nat.le_of_ble_eq_true rfl) (nn_b1 (Nat.le_refl 1)) ?_
  refine aw_w cs_0_11 ?_
  refine aw_aload_0 dX9_image_27 ?_
  refine gf_X9_19 dX9_image_28 rfl rfl ?_
  refine gf_X9_260 dX9_image_31 rfl rfl ?_
  exact aw_iret dX9_image_34 rfl (⟨rfl, rfl⟩)
theorem c_restore_no (ik : Nat) (rd : Int32) (pl : Nat) (pc : Nat → Nat) (ra up f0 su nn : Nat) (wk : Int32) (ki we ow fr of : Nat → Nat) (t1 t2 : tw_T) (oc : Nat) (oa ob os : Nat → Nat) (o1 : of_T) (x : sc_T) (h : ik = 0) : AM 8 yX9_restore cX9_restore 1 (some .int) [.ref 0] (cw_C (ik, rd) (pl, pc) (ra, up, f0, su, nn, wk, ki, we, ow, fr, of) t1 t2 (oc, oa, ob, os) o1 x) (ac_R (some (.int (-103))) (cw_C (ik, rd) (pl, pc) (ra, up, f0, su, nn, wk, ki, we, ow, fr, of) t1 t2 (oc, oa, ob, os) o1 x)) := by
  refine AM.of (loc := [.ref 0]) RX9 rfl (by decide +kernel) (Nat.le_of_ble_eq_true rfl) rfl ?_
  refine aw_aload_0 dX9_restore_0 ?_
  refine gf_X9_257 dX9_restore_1 rfl rfl ?_
  refine aw_if_neN 10 dX9_restore_4 (by decide) (by omega) (fun hh => absurd hh (by omega)) (fun _ => ?_)
  refine ak_bipush_m103 dX9_restore_7 ?_
  exact aw_iret dX9_restore_9 rfl (⟨rfl, rfl⟩)
theorem c_restore_ok (ik : Nat) (rd : Int32) (pl : Nat) (pc : Nat → Nat) (ra up f0 su nn : Nat) (wk : Int32) (ki we ow fr of : Nat → Nat) (t1 t2 : tw_T) (oc : Nat) (oa ob os : Nat → Nat) (o1 : of_T) (x : sc_T) (h : ik = 1) (hu : t1.2.1 ≤ 1) : AM 8 yX9_restore cX9_restore 1 (some .int) [.ref 0] (cw_C (ik, rd) (pl, pc) (ra, up, f0, su, nn, wk, ki, we, ow, fr, of) t1 t2 (oc, oa, ob, os) o1 x) (ac_R (some (.int t1.2.2.2.2.2.1)) (cw_C (ik, rd) (pl, pc) t1 t1 t2 o1 o1 x)) := by
  obtain ⟨rb, ub, fb, sb, nb, wb, kb, eb, qb, hb, ib⟩ := t1
  obtain ⟨qc, qa, qo, qs⟩ := o1
  refine AM.of (loc := [.ref 0]) RX9 rfl (by decide +kernel) (Nat.le_of_ble_eq_true rfl) rfl ?_
  refine aw_aload_0 dX9_restore_0 ?_
  refine gf_X9_257 dX9_restore_1 rfl rfl ?_
  refine aw_if_neN 10 dX9_restore_4 (by decide) (by omega) (fun _ => ?_) (fun hh => absurd hh (by omega))
  refine aw_aload_0 dX9_restore_10 ?_
  refine gf_X9_19 dX9_restore_11 rfl rfl ?_
  refine aw_aload_0 dX9_restore_14 ?_
  refine gf_X9_30 dX9_restore_15 rfl rfl ?_
  refine ce_X9_241 dX9_restore_18 rfl (k_X8_copyFrom_01 (ik, rd) (pl, pc) t2 (oc, oa, ob, os) _ x ra up f0 su nn wk ki we ow fr of rb ub fb sb nb wb kb eb qb hb ib hu) ?_
  refine aw_aload_0 dX9_restore_21 ?_
  refine gf_X9_26 dX9_restore_22 rfl rfl ?_
  refine aw_aload_0 dX9_restore_25 ?_
  refine gf_X9_33 dX9_restore_26 rfl rfl ?_
  refine ce_X9_254 dX9_restore_29 rfl (k_X4_copyFrom_01 (ik, rd) (pl, pc) _ _ t2 x qc qa qo qs oc oa ob os) ?_
  refine aw_aload_0 dX9_restore_32 ?_
  refine gf_X9_19 dX9_restore_33 rfl rfl ?_
  refine gf_X9_260 dX9_restore_36 rfl rfl ?_
  exact aw_iret dX9_restore_39 rfl (⟨rfl, rfl⟩)
theorem c_count_out (ik : Nat) (rd : Int32) (pl : Nat) (pc : Nat → Nat) (ra up f0 su nn : Nat) (wk : Int32) (ki we ow fr of : Nat → Nat) (t1 t2 : tw_T) (oc : Nat) (oa ob os : Nat → Nat) (o1 : of_T) (x : sc_T) (w : Int32) (hw : w.toInt < 0 ∨ 10 < w.toInt) : AM 8 yX9_count cX9_count 2 (some .int) [.ref 0, .int w] (cw_C (ik, rd) (pl, pc) (ra, up, f0, su, nn, wk, ki, we, ow, fr, of) t1 t2 (oc, oa, ob, os) o1 x) (ac_R (some (.int (-102))) (cw_C (ik, rd) (pl, pc) (ra, up, f0, su, nn, wk, ki, we, ow, fr, of) t1 t2 (oc, oa, ob, os) o1 x)) := by
  refine AM.of (loc := [.ref 0, .int w]) RX9 rfl (by decide +kernel) (Nat.le_of_ble_eq_true rfl) rfl ?_
  refine aw_iload_1 dX9_count_0 ?_
  refine aw_tableOut 160 dX9_count_1 (hw) (by decide) ?_
  refine ak_bipush_m102 dX9_count_160 ?_
  exact aw_iret dX9_count_162 rfl (⟨rfl, rfl⟩)
/-- what count() tells -/
def ct_I (rd : Int32) (pl ra up f0 su nn : Nat) (wk : Int32) (we ow : Nat → Nat) (oc : Nat) : Nat → Int32
  | 0 => nI ra
  | 1 => nI up
  | 2 => nI f0
  | 3 => nI su
  | 4 => nI nn
  | 5 => ru_I nn we ow
  | 6 => wk
  | 7 => nI oc
  | 8 => nI (al_N nn ow)
  | 9 => nI pl
  | _ => rd
theorem c_count_ok (ik : Nat) (rd : Int32) (pl : Nat) (pc : Nat → Nat) (ra up f0 su nn : Nat) (wk : Int32) (ki we ow fr of : Nat → Nat) (t1 t2 : tw_T) (oc : Nat) (oa ob os : Nat → Nat) (o1 : of_T) (x : sc_T) (w : Nat) (hn : nn ≤ 5) (hu : up ≤ 1) (hw : w < 11) : AM 8 yX9_count cX9_count 2 (some .int) [.ref 0, .int (nI w)] (cw_C (ik, rd) (pl, pc) (ra, up, f0, su, nn, wk, ki, we, ow, fr, of) t1 t2 (oc, oa, ob, os) o1 x) (ac_R (some (.int (ct_I rd pl ra up f0 su nn wk we ow oc w))) (cw_C (ik, rd) (pl, pc) (ra, up, f0, su, nn, wk, ki, we, ow, fr, of) t1 t2 (oc, oa, ob, os) o1 x)) := by
  refine AM.of (loc := [.ref 0, .int (nI w)]) RX9 rfl (by decide +kernel) (Nat.le_of_ble_eq_true rfl) rfl ?_
  refine aw_iload_1 dX9_count_0 ?_
  match w, hw with
  | 0, _ =>
    refine aw_tableIn (off := 59) 60 dX9_count_1 (by decide) (by decide) (by decide +kernel) (by decide) ?_
    refine aw_aload_0 dX9_count_60 ?_
    refine gf_X9_19 dX9_count_61 rfl rfl ?_
    refine gf_X9_91 dX9_count_64 rfl rfl ?_
    refine gf_X9_263 dX9_count_67 rfl rfl ?_
    exact aw_iret dX9_count_70 rfl (⟨rfl, rfl⟩)
  | 1, _ =>
    have e : nI up = bI (up = 1) := by
      match up, hu with
      | 0, _ => rfl
      | 1, _ => rfl
    refine aw_tableIn (off := 70) 71 dX9_count_1 (by decide) (by decide) (by decide +kernel) (by decide) ?_
    refine aw_aload_0 dX9_count_71 ?_
    refine gf_X9_19 dX9_count_72 rfl rfl ?_
    refine gf_X9_91 dX9_count_75 rfl rfl ?_
    refine gf_X9_266 dX9_count_78 rfl rfl ?_
    refine aw_topi e ?_
    refine ce_X9_137 dX9_count_81 (k_X9_oneIf _ _) ?_
    exact aw_iret dX9_count_84 rfl (⟨by rw [← e]; rfl, rfl⟩)
  | 2, _ =>
    refine aw_tableIn (off := 84) 85 dX9_count_1 (by decide) (by decide) (by decide +kernel) (by decide) ?_
    refine aw_aload_0 dX9_count_85 ?_
    refine gf_X9_19 dX9_count_86 rfl rfl ?_
    refine gf_X9_91 dX9_count_89 rfl rfl ?_
    refine gf_X9_232 dX9_count_92 rfl rfl ?_
    exact aw_iret dX9_count_95 rfl (⟨rfl, rfl⟩)
  | 3, _ =>
    refine aw_tableIn (off := 95) 96 dX9_count_1 (by decide) (by decide) (by decide +kernel) (by decide) ?_
    refine aw_aload_0 dX9_count_96 ?_
    refine gf_X9_19 dX9_count_97 rfl rfl ?_
    refine gf_X9_91 dX9_count_100 rfl rfl ?_
    refine gf_X9_269 dX9_count_103 rfl rfl ?_
    exact aw_iret dX9_count_106 rfl (⟨rfl, rfl⟩)
  | 4, _ =>
    refine aw_tableIn (off := 106) 107 dX9_count_1 (by decide) (by decide) (by decide +kernel) (by decide) ?_
    refine aw_aload_0 dX9_count_107 ?_
    refine gf_X9_19 dX9_count_108 rfl rfl ?_
    refine gf_X9_108 dX9_count_111 rfl rfl ?_
    exact aw_iret dX9_count_114 rfl (⟨rfl, rfl⟩)
  | 5, _ =>
    refine aw_tableIn (off := 114) 115 dX9_count_1 (by decide) (by decide) (by decide +kernel) (by decide) ?_
    refine aw_aload_0 dX9_count_115 ?_
    refine gf_X9_19 dX9_count_116 rfl rfl ?_
    refine ce_X9_251 dX9_count_119 rfl (k_X8_ruinedOnes_0 (ik, rd) (pl, pc) t1 t2 (oc, oa, ob, os) o1 x ra up f0 su nn wk ki we ow fr of hn) ?_
    exact aw_iret dX9_count_122 rfl (⟨rfl, rfl⟩)
  | 6, _ =>
    refine aw_tableIn (off := 122) 123 dX9_count_1 (by decide) (by decide) (by decide +kernel) (by decide) ?_
    refine aw_aload_0 dX9_count_123 ?_
    refine gf_X9_19 dX9_count_124 rfl rfl ?_
    refine gf_X9_260 dX9_count_127 rfl rfl ?_
    exact aw_iret dX9_count_130 rfl (⟨rfl, rfl⟩)
  | 7, _ =>
    refine aw_tableIn (off := 130) 131 dX9_count_1 (by decide) (by decide) (by decide +kernel) (by decide) ?_
    refine aw_aload_0 dX9_count_131 ?_
    refine gf_X9_26 dX9_count_132 rfl rfl ?_
    refine gf_X9_214 dX9_count_135 rfl rfl ?_
    exact aw_iret dX9_count_138 rfl (⟨rfl, rfl⟩)
  | 8, _ =>
    refine aw_tableIn (off := 138) 139 dX9_count_1 (by decide) (by decide) (by decide +kernel) (by decide) ?_
    refine aw_aload_0 dX9_count_139 ?_
    refine gf_X9_19 dX9_count_140 rfl rfl ?_
    refine ce_X9_248 dX9_count_143 rfl (k_X8_allOwed_0 (ik, rd) (pl, pc) t1 t2 (oc, oa, ob, os) o1 x ra up f0 su nn wk ki we ow fr of hn) ?_
    exact aw_iret dX9_count_146 rfl (⟨rfl, rfl⟩)
  | 9, _ =>
    refine aw_tableIn (off := 146) 147 dX9_count_1 (by decide) (by decide) (by decide +kernel) (by decide) ?_
    refine aw_aload_0 dX9_count_147 ?_
    refine gf_X9_12 dX9_count_148 rfl rfl ?_
    refine gf_X9_75 dX9_count_151 rfl rfl ?_
    exact aw_iret dX9_count_154 rfl (⟨rfl, rfl⟩)
  | 10, _ =>
    refine aw_tableIn (off := 154) 155 dX9_count_1 (by decide) (by decide) (by decide +kernel) (by decide) ?_
    refine aw_aload_0 dX9_count_155 ?_
    refine gf_X9_101 dX9_count_156 rfl rfl ?_
    exact aw_iret dX9_count_159 rfl (⟨rfl, rfl⟩)
