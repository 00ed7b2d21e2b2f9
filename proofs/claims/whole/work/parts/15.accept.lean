/-! ===== accepting ===== -/
/-- what one owes another behind some weeks, if he thanks for some offers -/
def od_N (ra up f0 : Nat) (ki ow fr : Nat → Nat) (oc : Nat) (oa os : Nat → Nat) (p c wks q : Nat) : Nat := ig_N up (tn_N ra (ki p) (ki q)) (wks - (if 0 < sf_N oa os q c oc then max (fr (5 * p + q)) f0 else fr (5 * p + q))) (min 9999 (ow (5 * p + q) + sf_N oa os q c oc))
theorem od_le (ra up f0 : Nat) (ki ow fr : Nat → Nat) (oc : Nat) (oa os : Nat → Nat) (p c wks q : Nat) : od_N ra up f0 ki ow fr oc oa os p c wks q ≤ 9999 := ig_le _ (Nat.min_le_left _ _)
def vl_N (ra up f0 nn : Nat) (ki ow fr : Nat → Nat) (oc : Nat) (oa ob os : Nat → Nat) (p need wks c : Nat) : Option Nat := if c &&& bf_N ob p oc = c ∧ need ≤ sz_N os c oc then some (fb_sm (od_N ra up f0 ki ow fr oc oa os p c wks) nn) else none
def af_N (val : Nat → Option Nat) : Nat → Option (Nat × Nat)
  | 0 => none
  | j + 1 => match val j with
    | none => af_N val j
    | some v => wg_O (af_N val j) j v
theorem k_X0_owedBehind (g : Nat × Int32) (P : pg_T) (ta tb : tw_T) (o1 : of_T) (x : sc_T) (ra up f0 su nn : Nat) (wk : Int32) (ki we ow fr of : Nat → Nat) (oc : Nat) (oa ob os : Nat → Nat) (p c wks : Nat) (hok : ok_T (ra, up, f0, su, nn, wk, ki, we, ow, fr, of)) (hoO : ok_O (oc, oa, ob, os)) (hp : p < 5) (hc : c < 64) (hw : wks ≤ 1000) : AM 3 yX0_owedBehind cX0_owedBehind 13 (some .int) [.ref 38, .ref 3, .ref 10, .int (nI p), .int (nI c), .int (nI wks)] (cw_C g P (ra, up, f0, su, nn, wk, ki, we, ow, fr, of) ta tb (oc, oa, ob, os) o1 x) (ac_R (some (.int (nI (fb_sm (od_N ra up f0 ki ow fr oc oa os p c wks) nn)))) (cw_C g P (ra, up, f0, su, nn, wk, ki, we, ow, fr, of) ta tb (oc, oa, ob, os) o1 x)) := by
  obtain ⟨hra, hu, hf0, hsu, hn, hki, hwe, how, hfr, hof⟩ := hok
  refine AM.of (loc := [.ref 38, .ref 3, .ref 10, .int (nI p), .int (nI c), .int (nI wks), .null, .null, .null, .null, .null, .null, .null]) RX0 rfl (by decide +kernel) (Nat.le_of_ble_eq_true rfl) rfl ?_
  refine akN_iconst_0 dX0_owedBehind_0 ?_
  refine aw_istore_6 dX0_owedBehind_1 rfl (Nat.le_of_ble_eq_true rfl) ?_
  refine akN_iconst_0 dX0_owedBehind_3 ?_
  refine aw_istore_7 dX0_owedBehind_4 rfl (Nat.le_of_ble_eq_true rfl) ?_
  have loop : ∀ k i, i + k = nn → ∀ j8 j9 j10 j11 j12 : Value, AW 3 RX0 cX0_owedBehind 13 (some .int) 41 (ac_R (some (.int (nI (fb_sm (od_N ra up f0 ki ow fr oc oa os p c wks) nn)))) (cw_C g P (ra, up, f0, su, nn, wk, ki, we, ow, fr, of) ta tb (oc, oa, ob, os) o1 x)) 6 [.ref 38, .ref 3, .ref 10, .int (nI p), .int (nI c), .int (nI wks), .int (nI (fb_sm (od_N ra up f0 ki ow fr oc oa os p c wks) i)), .int (nI i), j8, j9, j10, j11, j12] [] (cw_C g P (ra, up, f0, su, nn, wk, ki, we, ow, fr, of) ta tb (oc, oa, ob, os) o1 x) := by
    intro k
    induction k with
    | zero =>
      intro i hi j8 j9 j10 j11 j12
      obtain rfl : i = nn := by omega
      refine aw_iload_7 dX0_owedBehind_6 ?_
      refine aw_aload_1 dX0_owedBehind_8 ?_
      refine gf_X0_40 dX0_owedBehind_9 rfl rfl ?_
      refine aw_icmp_geN 131 dX0_owedBehind_12 (by decide) (by omega) (by omega) (fun _ => ?_) (fun hh => absurd hh (by omega))
      refine aw_iload_6 dX0_owedBehind_131 ?_
      exact aw_iret dX0_owedBehind_133 rfl (⟨rfl, rfl⟩)
    | succ k ih =>
      intro i hi j8 j9 j10 j11 j12
      have hO := how (5 * p + i)
      have hF := hfr (5 * p + i)
      have hS := sf_le (oa := oa) hoO.2.2.2 i c oc
      have hoc := hoO.1
      have hS6 : oc * 99 ≤ 6 * 99 := Nat.mul_le_mul_right 99 hoc
      refine aw_iload_7 dX0_owedBehind_6 ?_
      refine aw_aload_1 dX0_owedBehind_8 ?_
      refine gf_X0_40 dX0_owedBehind_9 rfl rfl ?_
      refine aw_icmp_geN 131 dX0_owedBehind_12 (by decide) (by omega) (by omega) (fun hh => absurd hh (by omega)) (fun _ => ?_)
      refine aw_iload_3 dX0_owedBehind_15 ?_
      refine aw_iload_7 dX0_owedBehind_16 ?_
      refine ce_X0_45 dX0_owedBehind_18 (k_X9_pairOf _ p i) ?_
      refine aw_istore_8 dX0_owedBehind_21 rfl (Nat.le_of_ble_eq_true rfl) ?_
      refine aw_aload_2 dX0_owedBehind_23 ?_
      refine aw_iload_7 dX0_owedBehind_24 ?_
      refine aw_iload_4 dX0_owedBehind_26 ?_
      refine ce_X0_49 dX0_owedBehind_28 rfl (k_X4_sizeFrom g P _ ta tb o1 x oc oa ob os i c hoO (by omega) hc) ?_
      refine aw_istore_9 dX0_owedBehind_31 rfl (Nat.le_of_ble_eq_true rfl) ?_
      refine akN_sipush_9999 dX0_owedBehind_33 ?_
      refine aw_aload_1 dX0_owedBehind_36 ?_
      refine gf_X0_52 dX0_owedBehind_37 rfl rfl ?_
      refine aw_iload_8 dX0_owedBehind_40 ?_
      refine aw_ialdN dX0_owedBehind_42 rfl (by omega) ?_
      refine aw_iload_9 dX0_owedBehind_43 ?_
      refine aw_iaddN dX0_owedBehind_45 ?_
      refine aw_minN gq_578 dX0_owedBehind_46 (Nat.le_of_ble_eq_true rfl) (by decide) (by omega) (by omega) ?_
      refine aw_istore_10 dX0_owedBehind_49 rfl (Nat.le_of_ble_eq_true rfl) ?_
      refine aw_iload_9 dX0_owedBehind_51 ?_
      have tail : ∀ F : Nat, F ≤ 9 → F = (if 0 < sf_N oa os i c oc then max (fr (5 * p + i)) f0 else fr (5 * p + i)) → AW 3 RX0 cX0_owedBehind 13 (some .int) 41 (ac_R (some (.int (nI (fb_sm (od_N ra up f0 ki ow fr oc oa os p c wks) nn)))) (cw_C g P (ra, up, f0, su, nn, wk, ki, we, ow, fr, of) ta tb (oc, oa, ob, os) o1 x)) 83 [.ref 38, .ref 3, .ref 10, .int (nI p), .int (nI c), .int (nI wks), .int (nI (fb_sm (od_N ra up f0 ki ow fr oc oa os p c wks) i)), .int (nI i), .int (nI (5 * p + i)), .int (nI (sf_N oa os i c oc)), .int (nI (min 9999 (ow (5 * p + i) + sf_N oa os i c oc))), j11, j12] [.int (nI F)] (cw_C g P (ra, up, f0, su, nn, wk, ki, we, ow, fr, of) ta tb (oc, oa, ob, os) o1 x) := by
        intro F hF9 hFe
        refine aw_istore_11 dX0_owedBehind_83 rfl (Nat.le_of_ble_eq_true rfl) ?_
        refine aw_aload_1 dX0_owedBehind_85 ?_
        refine gf_X0_64 dX0_owedBehind_86 rfl rfl ?_
        refine aw_aload_1 dX0_owedBehind_89 ?_
        refine aw_iload_3 dX0_owedBehind_90 ?_
        refine ce_X0_75 dX0_owedBehind_91 rfl (k_X8_kindOf_0 g P ta tb (oc, oa, ob, os) o1 x ra up f0 su nn wk ki we ow fr of p hp (hki p)) ?_
        refine aw_aload_1 dX0_owedBehind_94 ?_
        refine aw_iload_7 dX0_owedBehind_95 ?_
        refine ce_X0_75 dX0_owedBehind_97 rfl (k_X8_kindOf_0 g P ta tb (oc, oa, ob, os) o1 x ra up f0 su nn wk ki we ow fr of i (by omega) (hki i)) ?_
        refine ce_X0_79 dX0_owedBehind_100 rfl (k_X3_tenths_0 g P ta tb (oc, oa, ob, os) o1 x ra up f0 su nn wk ki we ow fr of (ki p) (ki i) (Nat.lt_succ_of_le (hki p)) (Nat.lt_succ_of_le (hki i))) ?_
        refine aw_istore_12 dX0_owedBehind_103 rfl (Nat.le_of_ble_eq_true rfl) ?_
        refine aw_iload_6 dX0_owedBehind_105 ?_
        refine aw_aload_1 dX0_owedBehind_107 ?_
        refine gf_X0_64 dX0_owedBehind_108 rfl rfl ?_
        refine aw_iload_10 dX0_owedBehind_111 ?_
        refine aw_iload_11 dX0_owedBehind_113 ?_
        refine aw_iload_5 dX0_owedBehind_115 ?_
        refine aw_iload_12 dX0_owedBehind_117 ?_
        refine ce_X0_83 dX0_owedBehind_119 rfl (k_X3_owedAfter_0 g P ta tb (oc, oa, ob, os) o1 x ra up f0 su nn wk ki we ow fr of (min 9999 (ow (5 * p + i) + sf_N oa os i c oc)) F wks (tn_N ra (ki p) (ki i)) hu (Nat.min_le_left _ _) (tn_le hra) (by omega) hw) ?_
        have e : ig_N up (tn_N ra (ki p) (ki i)) (wks - F) (min 9999 (ow (5 * p + i) + sf_N oa os i c oc)) = od_N ra up f0 ki ow fr oc oa os p c wks i := by rw [hFe]; rfl
        rw [e]
        refine aw_iaddN dX0_owedBehind_122 ?_
        refine aw_istore_6 dX0_owedBehind_123 rfl (Nat.le_of_ble_eq_true rfl) ?_
        refine aw_iincN_7 dX0_owedBehind_125 rfl (Nat.le_of_ble_eq_true rfl) ?_
        refine aw_goto 6 dX0_owedBehind_128 (by decide) ?_
        exact ih (i + 1) (by omega) _ _ _ _ _
      refine aw_if_leN 76 dX0_owedBehind_53 (by decide) (by omega) (fun h1 => ?_) (fun h1 => ?_)
      · refine aw_aload_1 dX0_owedBehind_76 ?_
        refine gf_X0_61 dX0_owedBehind_77 rfl rfl ?_
        refine aw_iload_8 dX0_owedBehind_80 ?_
        refine aw_ialdN dX0_owedBehind_82 rfl (by omega) ?_
        exact tail _ hF (if_neg (by omega)).symm
      refine aw_aload_1 dX0_owedBehind_56 ?_
      refine gf_X0_61 dX0_owedBehind_57 rfl rfl ?_
      refine aw_iload_8 dX0_owedBehind_60 ?_
      refine aw_ialdN dX0_owedBehind_62 rfl (by omega) ?_
      refine aw_aload_1 dX0_owedBehind_63 ?_
      refine gf_X0_64 dX0_owedBehind_64 rfl rfl ?_
      refine gf_X0_68 dX0_owedBehind_67 rfl rfl ?_
      refine aw_maxN gq_579 dX0_owedBehind_70 (Nat.le_of_ble_eq_true rfl) (by decide) (by omega) (by omega) ?_
      refine aw_goto 83 dX0_owedBehind_73 (by decide) ?_
      exact tail _ (by omega) (if_pos h1).symm
  exact loop nn 0 (by omega) _ _ _ _ _
theorem k_X0_search (g : Nat × Int32) (P : pg_T) (ta tb : tw_T) (o1 : of_T) (xr : (Nat → Int32) × (Nat → Int32) × Int32 × Int32) (xs : (Nat → Int32) × (Nat → Int32)) (ab ao sd : Int32) (rk : Nat → Int32) (ra up f0 su nn : Nat) (wk : Int32) (ki we ow fr of : Nat → Nat) (oc : Nat) (oa ob os : Nat → Nat) (p need wks : Nat) (hok : ok_T (ra, up, f0, su, nn, wk, ki, we, ow, fr, of)) (hoO : ok_O (oc, oa, ob, os)) (hp : p < 5) (hne : 1 ≤ need) (hne2 : need ≤ 500) (hw : wks ≤ 1000) : AM 4 yX0_search cX0_search 8 none [.ref 38, .ref 3, .ref 10, .int (nI p), .int (nI need), .int (nI wks)] (cw_C g P (ra, up, f0, su, nn, wk, ki, we, ow, fr, of) ta tb (oc, oa, ob, os) o1 (xr, xs, (ab, ao), sd, rk)) (ac_R none (cw_C g P (ra, up, f0, su, nn, wk, ki, we, ow, fr, of) ta tb (oc, oa, ob, os) o1 (xr, xs, en_I (af_N (vl_N ra up f0 nn ki ow fr oc oa ob os p need wks) (bf_N ob p oc + 1)), sd, rk))) := by
  have hoc : oc ≤ 6 := hoO.1
  have hn : nn ≤ 5 := hok.2.2.2.2.1
  have hbf : bf_N ob p oc < 64 := Nat.lt_of_lt_of_le (bf_lt ob p oc) (Nat.pow_le_pow_right (by decide) hoc)
  refine AM.of (loc := [.ref 38, .ref 3, .ref 10, .int (nI p), .int (nI need), .int (nI wks), .null, .null]) RX0 rfl (by decide +kernel) (Nat.le_of_ble_eq_true rfl) rfl ?_
  refine aw_aload_0 dX0_search_0 ?_
  refine ak_iconst_m1 dX0_search_1 ?_
  refine pf_X0_9 dX0_search_2 rfl (Nat.le_of_ble_eq_true rfl) ?_
  refine aw_w cs_38_0 ?_
  refine aw_aload_0 dX0_search_5 ?_
  refine ak_iconst_m1 dX0_search_6 ?_
  refine pf_X0_15 dX0_search_7 rfl (Nat.le_of_ble_eq_true rfl) ?_
  refine aw_w cs_38_1 ?_
  refine aw_aload_2 dX0_search_10 ?_
  refine aw_iload_3 dX0_search_11 ?_
  refine ce_X0_18 dX0_search_12 rfl (k_X4_bitsFor g P _ ta tb o1 _ oc oa ob os p hoO hp) ?_
  refine aw_istore_6 dX0_search_15 rfl (Nat.le_of_ble_eq_true rfl) ?_
  refine akN_iconst_1 dX0_search_17 ?_
  refine aw_istore_7 dX0_search_18 rfl (Nat.le_of_ble_eq_true rfl) ?_
  have loop : ∀ k c, c + k = bf_N ob p oc + 1 → 1 ≤ c → ok_B (af_N (vl_N ra up f0 nn ki ow fr oc oa ob os p need wks) c) → AW 4 RX0 cX0_search 8 none 41 (ac_R none (cw_C g P (ra, up, f0, su, nn, wk, ki, we, ow, fr, of) ta tb (oc, oa, ob, os) o1 (xr, xs, en_I (af_N (vl_N ra up f0 nn ki ow fr oc oa ob os p need wks) (bf_N ob p oc + 1)), sd, rk))) 20 [.ref 38, .ref 3, .ref 10, .int (nI p), .int (nI need), .int (nI wks), .int (nI (bf_N ob p oc)), .int (nI c)] [] (cw_C g P (ra, up, f0, su, nn, wk, ki, we, ow, fr, of) ta tb (oc, oa, ob, os) o1 (xr, xs, en_I (af_N (vl_N ra up f0 nn ki ow fr oc oa ob os p need wks) c), sd, rk)) := by
    intro k
    induction k with
    | zero =>
      intro c hc h1 hB
      obtain rfl : c = bf_N ob p oc + 1 := by omega
      refine aw_iload_7 dX0_search_20 ?_
      refine aw_iload_6 dX0_search_22 ?_
      refine aw_icmp_gtN 71 dX0_search_24 (by decide) (by omega) (by omega) (fun _ => ?_) (fun hh => absurd hh (by omega))
      exact aw_vret dX0_search_71 rfl (⟨rfl, rfl⟩)
    | succ k ih =>
      intro c hc h1 hB
      have hand : c &&& bf_N ob p oc ≤ c := Nat.and_le_left
      have hS := sz_le hoO.2.2.2 c oc
      have hS6 : oc * 99 ≤ 6 * 99 := Nat.mul_le_mul_right 99 hoc
      refine aw_iload_7 dX0_search_20 ?_
      refine aw_iload_6 dX0_search_22 ?_
      refine aw_icmp_gtN 71 dX0_search_24 (by decide) (by omega) (by omega) (fun hh => absurd hh (by omega)) (fun _ => ?_)
      refine aw_iload_7 dX0_search_27 ?_
      refine aw_iload_6 dX0_search_29 ?_
      refine aw_iand dX0_search_31 ?_
      refine aw_topi (fa_and c (bf_N ob p oc)) ?_
      refine aw_iload_7 dX0_search_32 ?_
      refine aw_icmp_neN 65 dX0_search_34 (by decide) (by omega) (by omega) (fun h2 => ?_) (fun h2 => ?_)
      · have e : af_N (vl_N ra up f0 nn ki ow fr oc oa ob os p need wks) (c + 1) = af_N (vl_N ra up f0 nn ki ow fr oc oa ob os p need wks) c := by
          rw [af_N, show vl_N ra up f0 nn ki ow fr oc oa ob os p need wks c = none from if_neg (fun q => h2 q.1)]
        refine aw_iincN_7 dX0_search_65 rfl (Nat.le_of_ble_eq_true rfl) ?_
        refine aw_goto 20 dX0_search_68 (by decide) ?_
        rw [← e]
        exact ih (c + 1) (by omega) (by omega) (by rw [e]; exact hB)
      refine aw_aload_2 dX0_search_37 ?_
      refine aw_iload_7 dX0_search_38 ?_
      refine ce_X0_24 dX0_search_40 rfl (k_X4_sizeOf g P _ ta tb o1 _ oc oa ob os c hoO (by omega)) ?_
      refine aw_iload_4 dX0_search_43 ?_
      refine aw_icmp_ltN 65 dX0_search_45 (by decide) (by omega) (by omega) (fun h3 => ?_) (fun h3 => ?_)
      · have e : af_N (vl_N ra up f0 nn ki ow fr oc oa ob os p need wks) (c + 1) = af_N (vl_N ra up f0 nn ki ow fr oc oa ob os p need wks) c := by
          rw [af_N, show vl_N ra up f0 nn ki ow fr oc oa ob os p need wks c = none from if_neg (fun q => by omega)]
        refine aw_iincN_7 dX0_search_65 rfl (Nat.le_of_ble_eq_true rfl) ?_
        refine aw_goto 20 dX0_search_68 (by decide) ?_
        rw [← e]
        exact ih (c + 1) (by omega) (by omega) (by rw [e]; exact hB)
      have e : af_N (vl_N ra up f0 nn ki ow fr oc oa ob os p need wks) (c + 1) = wg_O (af_N (vl_N ra up f0 nn ki ow fr oc oa ob os p need wks) c) c (fb_sm (od_N ra up f0 ki ow fr oc oa os p c wks) nn) := by
        rw [af_N, show vl_N ra up f0 nn ki ow fr oc oa ob os p need wks c = some _ from if_pos ⟨h2, h3⟩]
      have hv : fb_sm (od_N ra up f0 ki ow fr oc oa os p c wks) nn ≤ nn * 9999 := sm_le (fun q => od_le _ _ _ _ _ _ _ _ _ _ _ _ q) nn
      have hv5 : nn * 9999 ≤ 5 * 9999 := Nat.mul_le_mul_right _ hn
      refine aw_aload_0 dX0_search_48 ?_
      refine aw_iload_7 dX0_search_49 ?_
      refine aw_aload_0 dX0_search_51 ?_
      refine aw_aload_1 dX0_search_52 ?_
      refine aw_aload_2 dX0_search_53 ?_
      refine aw_iload_3 dX0_search_54 ?_
      refine aw_iload_7 dX0_search_55 ?_
      refine aw_iload_5 dX0_search_57 ?_
      refine ce_X0_27 dX0_search_59 rfl (k_X0_owedBehind g P ta tb o1 _ ra up f0 su nn wk ki we ow fr of oc oa ob os p c wks hok hoO hp (by omega) hw) ?_
      refine ce_X0_31 dX0_search_62 rfl (k_X0_weigh g P _ ta tb _ o1 xr xs sd rk _ c _ hB (by omega) (by omega)) ?_
      rw [← e]
      refine aw_iincN_7 dX0_search_65 rfl (Nat.le_of_ble_eq_true rfl) ?_
      refine aw_goto 20 dX0_search_68 (by decide) ?_
      exact ih (c + 1) (by omega) (by omega) (by rw [e]; exact ok_wg hB (by omega) (by omega))
  have e0 : af_N (vl_N ra up f0 nn ki ow fr oc oa ob os p need wks) 1 = none := by
    have hz : sz_N os 0 oc = 0 := by
      unfold sz_N
      rw [fb_sm_cong (g := fun _ => 0) (fun k _ => if_neg (by show ¬ 0 / 2 ^ k % 2 = 1; rw [Nat.zero_div]; decide)), fb_sm_const]
      rfl
    rw [af_N, show vl_N ra up f0 nn ki ow fr oc oa ob os p need wks 0 = none from if_neg (fun q => by have := q.2; omega)]
    rfl
  have h := loop (bf_N ob p oc) 1 (by omega) (by omega) (by rw [e0]; trivial)
  rw [e0] at h
  exact h
