/-! ===== the reference: counts, images, accepting ===== -/
theorem k_X10_owedAll (rd : Int32) (pl : Nat) (pc : Nat → Nat) (ra up f0 su nn : Nat) (wk : Int32) (ki we ow fr of : Nat → Nat) (oc : Nat) (oa ob os : Nat → Nat) (K : mk_T) (x : ms_T) (hn : nn ≤ 5) : AM 2 yX10_owedAll cX10_owedAll 3 (some .int) [.ref 0] (mw_M (rd, (pl, pc), (ra, up, f0, su, nn, wk), ki, (we, ow, fr, of), (oc, oa, ob, os)) K x) (ac_R (some (.int (nI (al_N nn ow)))) (mw_M (rd, (pl, pc), (ra, up, f0, su, nn, wk), ki, (we, ow, fr, of), (oc, oa, ob, os)) K x)) := by
  refine AM.of (loc := [.ref 0, .null, .null]) RX10 rfl (by decide +kernel) (Nat.le_of_ble_eq_true rfl) rfl ?_
  refine akN_iconst_0 dX10_owedAll_0 ?_
  refine aw_istore_1 dX10_owedAll_1 rfl (Nat.le_of_ble_eq_true rfl) ?_
  refine akN_iconst_0 dX10_owedAll_2 ?_
  refine aw_istore_2 dX10_owedAll_3 rfl (Nat.le_of_ble_eq_true rfl) ?_
  have loop : ∀ k i, i + k = nn → AW 2 RX10 cX10_owedAll 3 (some .int) 18 (ac_R (some (.int (nI (al_N nn ow)))) (mw_M (rd, (pl, pc), (ra, up, f0, su, nn, wk), ki, (we, ow, fr, of), (oc, oa, ob, os)) K x)) 4 [.ref 0, .int (nI (fb_sm (fun p => fb_sm (fun q => ow (5 * p + q)) nn) i)), .int (nI i)] [] (mw_M (rd, (pl, pc), (ra, up, f0, su, nn, wk), ki, (we, ow, fr, of), (oc, oa, ob, os)) K x) := by
    intro k
    induction k with
    | zero =>
      intro i hi
      obtain rfl : i = nn := by omega
      refine aw_iload_2 dX10_owedAll_4 ?_
      refine aw_aload_0 dX10_owedAll_5 ?_
      refine gf_X10_93 dX10_owedAll_6 rfl rfl ?_
      refine aw_icmp_geN 27 dX10_owedAll_9 (by decide) (by omega) (by omega) (fun _ => ?_) (fun hh => absurd hh (by omega))
      refine aw_iload_1 dX10_owedAll_27 ?_
      exact aw_iret dX10_owedAll_28 rfl (⟨rfl, rfl⟩)
    | succ k ih =>
      intro i hi
      have hA := k_X10_owesAll rd pl pc ra up f0 su nn wk ki we ow fr of oc oa ob os K x 0 i (by omega) (by omega) hn
      rw [sh_0] at hA
      refine aw_iload_2 dX10_owedAll_4 ?_
      refine aw_aload_0 dX10_owedAll_5 ?_
      refine gf_X10_93 dX10_owedAll_6 rfl rfl ?_
      refine aw_icmp_geN 27 dX10_owedAll_9 (by decide) (by omega) (by omega) (fun hh => absurd hh (by omega)) (fun _ => ?_)
      refine aw_iload_1 dX10_owedAll_12 ?_
      refine aw_aload_0 dX10_owedAll_13 ?_
      refine akN_iconst_0 dX10_owedAll_14 ?_
      refine aw_iload_2 dX10_owedAll_15 ?_
      refine ce_X10_107 dX10_owedAll_16 rfl (hA) ?_
      refine aw_iaddN dX10_owedAll_19 ?_
      refine aw_istore_1 dX10_owedAll_20 rfl (Nat.le_of_ble_eq_true rfl) ?_
      refine aw_iincN_2 dX10_owedAll_21 rfl (Nat.le_of_ble_eq_true rfl) ?_
      refine aw_goto 4 dX10_owedAll_24 (by decide) ?_
      exact ih (i + 1) (by omega)
  exact loop nn 0 (by omega)
theorem k_X10_ruinedMany (rd : Int32) (pl : Nat) (pc : Nat → Nat) (ra up f0 su nn : Nat) (wk : Int32) (ki we ow fr of : Nat → Nat) (oc : Nat) (oa ob os : Nat → Nat) (K : mk_T) (x : ms_T) (hn : nn ≤ 5) : AM 3 yX10_ruinedMany cX10_ruinedMany 3 (some .int) [.ref 0] (mw_M (rd, (pl, pc), (ra, up, f0, su, nn, wk), ki, (we, ow, fr, of), (oc, oa, ob, os)) K x) (ac_R (some (.int (ru_I nn we ow))) (mw_M (rd, (pl, pc), (ra, up, f0, su, nn, wk), ki, (we, ow, fr, of), (oc, oa, ob, os)) K x)) := by
  refine AM.of (loc := [.ref 0, .null, .null]) RX10 rfl (by decide +kernel) (Nat.le_of_ble_eq_true rfl) rfl ?_
  refine ak_iconst_0 dX10_ruinedMany_0 ?_
  refine aw_istore_1 dX10_ruinedMany_1 rfl (Nat.le_of_ble_eq_true rfl) ?_
  refine akN_iconst_0 dX10_ruinedMany_2 ?_
  refine aw_istore_2 dX10_ruinedMany_3 rfl (Nat.le_of_ble_eq_true rfl) ?_
  have loop : ∀ k i, i + k = nn → AW 3 RX10 cX10_ruinedMany 3 (some .int) 18 (ac_R (some (.int (ru_I nn we ow))) (mw_M (rd, (pl, pc), (ra, up, f0, su, nn, wk), ki, (we, ow, fr, of), (oc, oa, ob, os)) K x)) 4 [.ref 0, .int (si_I (fun p => bI (nt_I nn we ow p < 0)) i), .int (nI i)] [] (mw_M (rd, (pl, pc), (ra, up, f0, su, nn, wk), ki, (we, ow, fr, of), (oc, oa, ob, os)) K x) := by
    intro k
    induction k with
    | zero =>
      intro i hi
      obtain rfl : i = nn := by omega
      refine aw_iload_2 dX10_ruinedMany_4 ?_
      refine aw_aload_0 dX10_ruinedMany_5 ?_
      refine gf_X10_93 dX10_ruinedMany_6 rfl rfl ?_
      refine aw_icmp_geN 35 dX10_ruinedMany_9 (by decide) (by omega) (by omega) (fun _ => ?_) (fun hh => absurd hh (by omega))
      refine aw_iload_1 dX10_ruinedMany_35 ?_
      exact aw_iret dX10_ruinedMany_36 rfl (⟨rfl, rfl⟩)
    | succ k ih =>
      intro i hi
      have hN := k_X10_net rd pl pc ra up f0 su nn wk ki we ow fr of oc oa ob os K x 0 i (by omega) (by omega) hn
      rw [show 5 * 0 = 0 from rfl, sh_0, sh_0] at hN
      refine aw_iload_2 dX10_ruinedMany_4 ?_
      refine aw_aload_0 dX10_ruinedMany_5 ?_
      refine gf_X10_93 dX10_ruinedMany_6 rfl rfl ?_
      refine aw_icmp_geN 35 dX10_ruinedMany_9 (by decide) (by omega) (by omega) (fun hh => absurd hh (by omega)) (fun _ => ?_)
      refine aw_iload_1 dX10_ruinedMany_12 ?_
      refine aw_aload_0 dX10_ruinedMany_13 ?_
      refine akN_iconst_0 dX10_ruinedMany_14 ?_
      refine aw_iload_2 dX10_ruinedMany_15 ?_
      refine ce_X10_110 dX10_ruinedMany_16 rfl (hN) ?_
      refine aw_if_ge 26 dX10_ruinedMany_19 (by decide) (fun q => ?_) (fun q => ?_)
      · refine ak_iconst_0 dX10_ruinedMany_26 ?_
        refine aw_iadd dX10_ruinedMany_27 ?_
        refine aw_topi (show _ + (0 : Int32) = si_I (fun p => bI (nt_I nn we ow p < 0)) (i + 1) by
          show _ = _ + bI _
          rw [bI_f (fun z => by rw [fa_lt] at z; rw [fa_le] at q; omega)]) ?_
        refine aw_istore_1 dX10_ruinedMany_28 rfl (Nat.le_of_ble_eq_true rfl) ?_
        refine aw_iincN_2 dX10_ruinedMany_29 rfl (Nat.le_of_ble_eq_true rfl) ?_
        refine aw_goto 4 dX10_ruinedMany_32 (by decide) ?_
        exact ih (i + 1) (by omega)
      · refine ak_iconst_1 dX10_ruinedMany_22 ?_
        refine aw_goto 27 dX10_ruinedMany_23 (by decide) ?_
        refine aw_iadd dX10_ruinedMany_27 ?_
        refine aw_topi (show _ + (1 : Int32) = si_I (fun p => bI (nt_I nn we ow p < 0)) (i + 1) by
          show _ = _ + bI _
          rw [bI_t (by rw [fa_lt]; rw [fa_le] at q; omega)]) ?_
        refine aw_istore_1 dX10_ruinedMany_28 rfl (Nat.le_of_ble_eq_true rfl) ?_
        refine aw_iincN_2 dX10_ruinedMany_29 rfl (Nat.le_of_ble_eq_true rfl) ?_
        refine aw_goto 4 dX10_ruinedMany_32 (by decide) ?_
        exact ih (i + 1) (by omega)
  exact loop nn 0 (by omega)
theorem k_X10_howMany (rd : Int32) (pl : Nat) (pc : Nat → Nat) (ra up f0 su nn : Nat) (wk : Int32) (ki we ow fr of : Nat → Nat) (oc : Nat) (oa ob os : Nat → Nat) (K : mk_T) (x : ms_T) (w : Nat) (hn : nn ≤ 5) (hw : w < 11) : AM 4 yX10_howMany cX10_howMany 2 (some .int) [.ref 0, .int (nI w)] (mw_M (rd, (pl, pc), (ra, up, f0, su, nn, wk), ki, (we, ow, fr, of), (oc, oa, ob, os)) K x) (ac_R (some (.int (ct_I rd pl ra up f0 su nn wk we ow oc w))) (mw_M (rd, (pl, pc), (ra, up, f0, su, nn, wk), ki, (we, ow, fr, of), (oc, oa, ob, os)) K x)) := by
  refine AM.of (loc := [.ref 0, .int (nI w)]) RX10 rfl (by decide +kernel) (Nat.le_of_ble_eq_true rfl) rfl ?_
  refine aw_iload_1 dX10_howMany_0 ?_
  match w, hw with
  | 0, _ =>
    refine aw_tableIn (off := 59) 60 dX10_howMany_1 (by decide) (by decide) (by decide +kernel) (by decide) ?_
    refine aw_aload_0 dX10_howMany_60 ?_
    refine gf_X10_7 dX10_howMany_61 rfl rfl ?_
    exact aw_iret dX10_howMany_64 rfl (⟨rfl, rfl⟩)
  | 1, _ =>
    refine aw_tableIn (off := 64) 65 dX10_howMany_1 (by decide) (by decide) (by decide +kernel) (by decide) ?_
    refine aw_aload_0 dX10_howMany_65 ?_
    refine gf_X10_13 dX10_howMany_66 rfl rfl ?_
    exact aw_iret dX10_howMany_69 rfl (⟨rfl, rfl⟩)
  | 2, _ =>
    refine aw_tableIn (off := 69) 70 dX10_howMany_1 (by decide) (by decide) (by decide +kernel) (by decide) ?_
    refine aw_aload_0 dX10_howMany_70 ?_
    refine gf_X10_84 dX10_howMany_71 rfl rfl ?_
    exact aw_iret dX10_howMany_74 rfl (⟨rfl, rfl⟩)
  | 3, _ =>
    refine aw_tableIn (off := 74) 75 dX10_howMany_1 (by decide) (by decide) (by decide +kernel) (by decide) ?_
    refine aw_aload_0 dX10_howMany_75 ?_
    refine gf_X10_87 dX10_howMany_76 rfl rfl ?_
    exact aw_iret dX10_howMany_79 rfl (⟨rfl, rfl⟩)
  | 4, _ =>
    refine aw_tableIn (off := 79) 80 dX10_howMany_1 (by decide) (by decide) (by decide +kernel) (by decide) ?_
    refine aw_aload_0 dX10_howMany_80 ?_
    refine gf_X10_93 dX10_howMany_81 rfl rfl ?_
    exact aw_iret dX10_howMany_84 rfl (⟨rfl, rfl⟩)
  | 5, _ =>
    refine aw_tableIn (off := 84) 85 dX10_howMany_1 (by decide) (by decide) (by decide +kernel) (by decide) ?_
    refine aw_aload_0 dX10_howMany_85 ?_
    refine ce_X10_234 dX10_howMany_86 rfl (k_X10_ruinedMany rd pl pc ra up f0 su nn wk ki we ow fr of oc oa ob os K x hn) ?_
    exact aw_iret dX10_howMany_89 rfl (⟨rfl, rfl⟩)
  | 6, _ =>
    refine aw_tableIn (off := 89) 90 dX10_howMany_1 (by decide) (by decide) (by decide +kernel) (by decide) ?_
    refine aw_aload_0 dX10_howMany_90 ?_
    refine gf_X10_144 dX10_howMany_91 rfl rfl ?_
    exact aw_iret dX10_howMany_94 rfl (⟨rfl, rfl⟩)
  | 7, _ =>
    refine aw_tableIn (off := 94) 95 dX10_howMany_1 (by decide) (by decide) (by decide +kernel) (by decide) ?_
    refine aw_aload_0 dX10_howMany_95 ?_
    refine gf_X10_174 dX10_howMany_96 rfl rfl ?_
    exact aw_iret dX10_howMany_99 rfl (⟨rfl, rfl⟩)
  | 8, _ =>
    refine aw_tableIn (off := 99) 100 dX10_howMany_1 (by decide) (by decide) (by decide +kernel) (by decide) ?_
    refine aw_aload_0 dX10_howMany_100 ?_
    refine ce_X10_237 dX10_howMany_101 rfl (k_X10_owedAll rd pl pc ra up f0 su nn wk ki we ow fr of oc oa ob os K x hn) ?_
    exact aw_iret dX10_howMany_104 rfl (⟨rfl, rfl⟩)
  | 9, _ =>
    refine aw_tableIn (off := 104) 105 dX10_howMany_1 (by decide) (by decide) (by decide +kernel) (by decide) ?_
    refine aw_aload_0 dX10_howMany_105 ?_
    refine gf_X10_73 dX10_howMany_106 rfl rfl ?_
    exact aw_iret dX10_howMany_109 rfl (⟨rfl, rfl⟩)
  | 10, _ =>
    refine aw_tableIn (off := 109) 110 dX10_howMany_1 (by decide) (by decide) (by decide +kernel) (by decide) ?_
    refine aw_aload_0 dX10_howMany_110 ?_
    refine gf_X10_90 dX10_howMany_111 rfl rfl ?_
    exact aw_iret dX10_howMany_114 rfl (⟨rfl, rfl⟩)
theorem k_X10_howMany_out (rd : Int32) (pl : Nat) (pc : Nat → Nat) (ra up f0 su nn : Nat) (wk : Int32) (ki we ow fr of : Nat → Nat) (oc : Nat) (oa ob os : Nat → Nat) (K : mk_T) (x : ms_T) (w : Int32) (hw : w.toInt < 0 ∨ 10 < w.toInt) : AM 4 yX10_howMany cX10_howMany 2 (some .int) [.ref 0, .int w] (mw_M (rd, (pl, pc), (ra, up, f0, su, nn, wk), ki, (we, ow, fr, of), (oc, oa, ob, os)) K x) (ac_R (some (.int (-102))) (mw_M (rd, (pl, pc), (ra, up, f0, su, nn, wk), ki, (we, ow, fr, of), (oc, oa, ob, os)) K x)) := by
  refine AM.of (loc := [.ref 0, .int w]) RX10 rfl (by decide +kernel) (Nat.le_of_ble_eq_true rfl) rfl ?_
  refine aw_iload_1 dX10_howMany_0 ?_
  refine aw_tableOut 115 dX10_howMany_1 (hw) (by decide) ?_
  refine ak_bipush_m102 dX10_howMany_115 ?_
  exact aw_iret dX10_howMany_117 rfl (⟨rfl, rfl⟩)
theorem m_count_ok (rd : Int32) (pl : Nat) (pc : Nat → Nat) (ra up f0 su nn : Nat) (wk : Int32) (ki we ow fr of : Nat → Nat) (oc : Nat) (oa ob os : Nat → Nat) (K : mk_T) (x : ms_T) (w : Nat) (hn : nn ≤ 5) (hw : w < 11) : AM 8 yX10_count cX10_count 2 (some .int) [.ref 0, .int (nI w)] (mw_M (rd, (pl, pc), (ra, up, f0, su, nn, wk), ki, (we, ow, fr, of), (oc, oa, ob, os)) K x) (ac_R (some (.int (ct_I rd pl ra up f0 su nn wk we ow oc w))) (mw_M (rd, (pl, pc), (ra, up, f0, su, nn, wk), ki, (we, ow, fr, of), (oc, oa, ob, os)) K x)) := by
  refine AM.of (loc := [.ref 0, .int (nI w)]) RX10 rfl (by decide +kernel) (Nat.le_of_ble_eq_true rfl) rfl ?_
  refine aw_aload_0 dX10_count_0 ?_
  refine aw_iload_1 dX10_count_1 ?_
  refine ce_X10_240 dX10_count_2 rfl (k_X10_howMany rd pl pc ra up f0 su nn wk ki we ow fr of oc oa ob os K x w hn hw) ?_
  exact aw_iret dX10_count_5 rfl (⟨rfl, rfl⟩)
theorem m_count_out (rd : Int32) (pl : Nat) (pc : Nat → Nat) (ra up f0 su nn : Nat) (wk : Int32) (ki we ow fr of : Nat → Nat) (oc : Nat) (oa ob os : Nat → Nat) (K : mk_T) (x : ms_T) (w : Int32) (hw : w.toInt < 0 ∨ 10 < w.toInt) : AM 8 yX10_count cX10_count 2 (some .int) [.ref 0, .int w] (mw_M (rd, (pl, pc), (ra, up, f0, su, nn, wk), ki, (we, ow, fr, of), (oc, oa, ob, os)) K x) (ac_R (some (.int (-102))) (mw_M (rd, (pl, pc), (ra, up, f0, su, nn, wk), ki, (we, ow, fr, of), (oc, oa, ob, os)) K x)) := by
  refine AM.of (loc := [.ref 0, .int w]) RX10 rfl (by decide +kernel) (Nat.le_of_ble_eq_true rfl) rfl ?_
  refine aw_aload_0 dX10_count_0 ?_
  refine aw_iload_1 dX10_count_1 ?_
  refine ce_X10_240 dX10_count_2 rfl (k_X10_howMany_out rd pl pc ra up f0 su nn wk ki we ow fr of oc oa ob os K x w hw) ?_
  exact aw_iret dX10_count_5 rfl (⟨rfl, rfl⟩)
/-- offers in a row -/
def kq_N (oa ob os : Nat → Nat) (k : Nat) : Nat := if k % 3 = 0 then oa (k / 3) else if k % 3 = 1 then ob (k / 3) else os (k / 3)
theorem m_image (rd : Int32) (pl : Nat) (pc : Nat → Nat) (ra up f0 su nn : Nat) (wk : Int32) (ki we ow fr of : Nat → Nat) (oc : Nat) (oa ob os : Nat → Nat) (K : mk_T) (x : ms_T) (w2 o2 f2 x2 : Nat → Nat) : AM 8 yX10_image cX10_image 2 (some .int) [.ref 0] (mw_M (rd, (pl, pc), (ra, up, f0, su, nn, wk), ki, (jn_N 5 we w2, jn_N 25 ow o2, jn_N 25 fr f2, jn_N 25 of x2), (oc, oa, ob, os)) K x) (ac_R (some (.int wk)) (mw_M (rd, (pl, pc), (ra, up, f0, su, nn, wk), ki, (jn_N 5 we w2, jn_N 25 ow o2, jn_N 25 fr f2, jn_N 25 of x2), (oc, oa, ob, os)) (1, (ra, up, f0, su, nn, wk, oc), (we, ow, fr, of), kq_N oa ob os) x)) := by
  obtain ⟨ik, ⟨kra, kup, kf0, ksu, knn, kwk, koc⟩, ⟨kw, ko, kf, kx⟩, kq⟩ := K
  refine AM.of (loc := [.ref 0, .null]) RX10 rfl (by decide +kernel) (Nat.le_of_ble_eq_true rfl) rfl ?_
  refine aw_aload_0 dX10_image_0 ?_
  refine akN_iconst_1 dX10_image_1 ?_
  refine pf_X10_209 dX10_image_2 rfl (Nat.le_of_ble_eq_true rfl) (nn_b1 (Nat.le_refl 1)) ?_
  refine aw_w cm_0_22 ?_
  refine aw_aload_0 dX10_image_5 ?_
  refine aw_aload_0 dX10_image_6 ?_
  refine gf_X10_7 dX10_image_7 rfl rfl ?_
  refine pf_X10_213 dX10_image_10 rfl (Nat.le_of_ble_eq_true rfl) ?_
  refine aw_w cm_0_23 ?_
  refine aw_aload_0 dX10_image_13 ?_
  refine aw_aload_0 dX10_image_14 ?_
  refine gf_X10_13 dX10_image_15 rfl rfl ?_
  refine pf_X10_216 dX10_image_18 rfl (Nat.le_of_ble_eq_true rfl) ?_
  refine aw_w cm_0_24 ?_
  refine aw_aload_0 dX10_image_21 ?_
  refine aw_aload_0 dX10_image_22 ?_
  refine gf_X10_84 dX10_image_23 rfl rfl ?_
  refine pf_X10_219 dX10_image_26 rfl (Nat.le_of_ble_eq_true rfl) ?_
  refine aw_w cm_0_25 ?_
  refine aw_aload_0 dX10_image_29 ?_
  refine aw_aload_0 dX10_image_30 ?_
  refine gf_X10_87 dX10_image_31 rfl rfl ?_
  refine pf_X10_222 dX10_image_34 rfl (Nat.le_of_ble_eq_true rfl) ?_
  refine aw_w cm_0_26 ?_
  refine aw_aload_0 dX10_image_37 ?_
  refine aw_aload_0 dX10_image_38 ?_
  refine gf_X10_93 dX10_image_39 rfl rfl ?_
  refine pf_X10_225 dX10_image_42 rfl (Nat.le_of_ble_eq_true rfl) ?_
  refine aw_w cm_0_27 ?_
  refine aw_aload_0 dX10_image_45 ?_
  refine aw_aload_0 dX10_image_46 ?_
  refine gf_X10_144 dX10_image_47 rfl rfl ?_
  refine pf_X10_228 dX10_image_50 rfl (Nat.le_of_ble_eq_true rfl) ?_
  refine aw_w cm_0_28 ?_
  refine aw_aload_0 dX10_image_53 ?_
  refine aw_aload_0 dX10_image_54 ?_
  refine gf_X10_174 dX10_image_55 rfl rfl ?_
  refine pf_X10_231 dX10_image_58 rfl (Nat.le_of_ble_eq_true rfl) ?_
  refine aw_w cm_0_29 ?_
  refine akN_iconst_0 dX10_image_61 ?_
  refine aw_istore_1 dX10_image_62 rfl (Nat.le_of_ble_eq_true rfl) ?_
  have loop3 : ∀ m j, j + m = 6 → ∀ kq : Nat → Nat, (∀ k, k < 3 * j → kq k = kq_N oa ob os k) → AW 8 RX10 cX10_image 2 (some .int) 18 (ac_R (some (.int wk)) (mw_M (rd, (pl, pc), (ra, up, f0, su, nn, wk), ki, (jn_N 5 we w2, jn_N 25 ow o2, jn_N 25 fr f2, jn_N 25 of x2), (oc, oa, ob, os)) (1, (ra, up, f0, su, nn, wk, oc), (we, ow, fr, of), kq_N oa ob os) x)) 138 [.ref 0, .int (nI j)] [] (mw_M (rd, (pl, pc), (ra, up, f0, su, nn, wk), ki, (jn_N 5 we w2, jn_N 25 ow o2, jn_N 25 fr f2, jn_N 25 of x2), (oc, oa, ob, os)) (1, (ra, up, f0, su, nn, wk, oc), (we, ow, fr, of), kq) x) := by
    intro m
    induction m with
    | zero =>
      intro j hj kq hq
      obtain rfl : j = 6 := by omega
      refine aw_iload_1 dX10_image_138 ?_
      refine akN_bipush_6 dX10_image_139 ?_
      refine aw_icmp_geN 196 dX10_image_141 (by decide) (by omega) (by omega) (fun _ => ?_) (fun hh => absurd hh (by omega))
      refine aw_arr (id := 17) (g := fun k => nI (kq_N oa ob os k)) rfl (fun k hk => congrArg nI (hq k (by omega))) ?_
      refine aw_w cm_17 ?_
      refine aw_aload_0 dX10_image_196 ?_
      refine gf_X10_144 dX10_image_197 rfl rfl ?_
      exact aw_iret dX10_image_200 rfl (⟨rfl, rfl⟩)
    | succ m ih =>
      intro j hj kq hq
      refine aw_iload_1 dX10_image_138 ?_
      refine akN_bipush_6 dX10_image_139 ?_
      refine aw_icmp_geN 196 dX10_image_141 (by decide) (by omega) (by omega) (fun hh => absurd hh (by omega)) (fun _ => ?_)
      refine aw_aload_0 dX10_image_144 ?_
      refine gf_X10_66 dX10_image_145 rfl rfl ?_
      refine akN_iconst_3 dX10_image_148 ?_
      refine aw_iload_1 dX10_image_149 ?_
      refine aw_imulN dX10_image_150 ?_
      refine aw_aload_0 dX10_image_151 ?_
      refine gf_X10_32 dX10_image_152 rfl rfl ?_
      refine aw_iload_1 dX10_image_155 ?_
      refine aw_ialdN dX10_image_156 rfl (by omega) ?_
      refine aw_iastN dX10_image_157 rfl (by omega) ?_
      refine aw_w cm_17 ?_
      refine aw_aload_0 dX10_image_158 ?_
      refine gf_X10_66 dX10_image_159 rfl rfl ?_
      refine akN_iconst_3 dX10_image_162 ?_
      refine aw_iload_1 dX10_image_163 ?_
      refine aw_imulN dX10_image_164 ?_
      refine akN_iconst_1 dX10_image_165 ?_
      refine aw_iaddN dX10_image_166 ?_
      refine aw_aload_0 dX10_image_167 ?_
      refine gf_X10_35 dX10_image_168 rfl rfl ?_
      refine aw_iload_1 dX10_image_171 ?_
      refine aw_ialdN dX10_image_172 rfl (by omega) ?_
      refine aw_iastN dX10_image_173 rfl (by omega) ?_
      refine aw_w cm_17 ?_
      refine aw_aload_0 dX10_image_174 ?_
      refine gf_X10_66 dX10_image_175 rfl rfl ?_
      refine akN_iconst_3 dX10_image_178 ?_
      refine aw_iload_1 dX10_image_179 ?_
      refine aw_imulN dX10_image_180 ?_
      refine akN_iconst_2 dX10_image_181 ?_
      refine aw_iaddN dX10_image_182 ?_
      refine aw_aload_0 dX10_image_183 ?_
      refine gf_X10_38 dX10_image_184 rfl rfl ?_
      refine aw_iload_1 dX10_image_187 ?_
      refine aw_ialdN dX10_image_188 rfl (by omega) ?_
      refine aw_iastN dX10_image_189 rfl (by omega) ?_
      refine aw_w cm_17 ?_
      refine aw_iincN_1 dX10_image_190 rfl (Nat.le_of_ble_eq_true rfl) ?_
      refine aw_goto 138 dX10_image_193 (by decide) ?_
      refine ih (j + 1) (by omega) _ (fun k hk => ?_)
      by_cases e2 : k = 3 * j + 2
      · subst e2
        rw [up_at]
        unfold kq_N
        rw [if_neg (by omega), if_neg (by omega), show (3 * j + 2) / 3 = j by omega]
      · rw [up_ne e2]
        by_cases e1 : k = 3 * j + 1
        · subst e1
          rw [up_at]
          unfold kq_N
          rw [if_neg (by omega), if_pos (by omega), show (3 * j + 1) / 3 = j by omega]
        · rw [up_ne e1]
          by_cases e0 : k = 3 * j
          · subst e0
            rw [up_at]
            unfold kq_N
            rw [if_pos (by omega), show (3 * j) / 3 = j by omega]
          · rw [up_ne e0]
            exact hq k (by omega)
  have loop2 : ∀ m j, j + m = 25 → ∀ ko kf kx kq : Nat → Nat, (∀ k, k < j → ko k = ow k) → (∀ k, k < j → kf k = fr k) → (∀ k, k < j → kx k = of k) → AW 8 RX10 cX10_image 2 (some .int) 18 (ac_R (some (.int wk)) (mw_M (rd, (pl, pc), (ra, up, f0, su, nn, wk), ki, (jn_N 5 we w2, jn_N 25 ow o2, jn_N 25 fr f2, jn_N 25 of x2), (oc, oa, ob, os)) (1, (ra, up, f0, su, nn, wk, oc), (we, ow, fr, of), kq_N oa ob os) x)) 88 [.ref 0, .int (nI j)] [] (mw_M (rd, (pl, pc), (ra, up, f0, su, nn, wk), ki, (jn_N 5 we w2, jn_N 25 ow o2, jn_N 25 fr f2, jn_N 25 of x2), (oc, oa, ob, os)) (1, (ra, up, f0, su, nn, wk, oc), (we, ko, kf, kx), kq) x) := by
    intro m
    induction m with
    | zero =>
      intro j hj ko kf kx kq h1 h2 h3
      obtain rfl : j = 25 := by omega
      refine aw_iload_1 dX10_image_88 ?_
      refine akN_bipush_25 dX10_image_89 ?_
      refine aw_icmp_geN 136 dX10_image_91 (by decide) (by omega) (by omega) (fun _ => ?_) (fun hh => absurd hh (by omega))
      refine aw_arr (id := 14) (g := fun k => nI (ow k)) rfl (fun k hk => congrArg nI (h1 k hk)) ?_
      refine aw_w cm_14 ?_
      refine aw_arr (id := 15) (g := fun k => nI (fr k)) rfl (fun k hk => congrArg nI (h2 k hk)) ?_
      refine aw_w cm_15 ?_
      refine aw_arr (id := 16) (g := fun k => nI (of k)) rfl (fun k hk => congrArg nI (h3 k hk)) ?_
      refine aw_w cm_16 ?_
      refine akN_iconst_0 dX10_image_136 ?_
      refine aw_istore_1 dX10_image_137 rfl (Nat.le_of_ble_eq_true rfl) ?_
      exact loop3 6 0 (by omega) kq (fun k hk => absurd hk (by omega))
    | succ m ih =>
      intro j hj ko kf kx kq h1 h2 h3
      have step : ∀ (A B C : Nat → Nat), (∀ k, k < j → A k = B k) → ∀ k, k < j + 1 → va_up A j (jn_N 25 B C j) k = B k := by
        intro A B C q k hk
        by_cases e : k = j
        · subst e; rw [up_at]; exact jn_lo _ _ (by omega)
        · rw [up_ne e]; exact q k (by omega)
      refine aw_iload_1 dX10_image_88 ?_
      refine akN_bipush_25 dX10_image_89 ?_
      refine aw_icmp_geN 136 dX10_image_91 (by decide) (by omega) (by omega) (fun hh => absurd hh (by omega)) (fun _ => ?_)
      refine aw_aload_0 dX10_image_94 ?_
      refine gf_X10_57 dX10_image_95 rfl rfl ?_
      refine aw_iload_1 dX10_image_98 ?_
      refine aw_aload_0 dX10_image_99 ?_
      refine gf_X10_23 dX10_image_100 rfl rfl ?_
      refine aw_iload_1 dX10_image_103 ?_
      refine aw_ialdN dX10_image_104 rfl (by omega) ?_
      refine aw_iastN dX10_image_105 rfl (by omega) ?_
      refine aw_w cm_14 ?_
      refine aw_aload_0 dX10_image_106 ?_
      refine gf_X10_60 dX10_image_107 rfl rfl ?_
      refine aw_iload_1 dX10_image_110 ?_
      refine aw_aload_0 dX10_image_111 ?_
      refine gf_X10_26 dX10_image_112 rfl rfl ?_
      refine aw_iload_1 dX10_image_115 ?_
      refine aw_ialdN dX10_image_116 rfl (by omega) ?_
      refine aw_iastN dX10_image_117 rfl (by omega) ?_
      refine aw_w cm_15 ?_
      refine aw_aload_0 dX10_image_118 ?_
      refine gf_X10_63 dX10_image_119 rfl rfl ?_
      refine aw_iload_1 dX10_image_122 ?_
      refine aw_aload_0 dX10_image_123 ?_
      refine gf_X10_29 dX10_image_124 rfl rfl ?_
      refine aw_iload_1 dX10_image_127 ?_
      refine aw_ialdN dX10_image_128 rfl (by omega) ?_
      refine aw_iastN dX10_image_129 rfl (by omega) ?_
      refine aw_w cm_16 ?_
      refine aw_iincN_1 dX10_image_130 rfl (Nat.le_of_ble_eq_true rfl) ?_
      refine aw_goto 88 dX10_image_133 (by decide) ?_
      exact ih (j + 1) (by omega) _ _ _ kq (step ko ow o2 h1) (step kf fr f2 h2) (step kx of x2 h3)
  have loop1 : ∀ m j, j + m = 5 → ∀ kw : Nat → Nat, (∀ k, k < j → kw k = we k) → AW 8 RX10 cX10_image 2 (some .int) 18 (ac_R (some (.int wk)) (mw_M (rd, (pl, pc), (ra, up, f0, su, nn, wk), ki, (jn_N 5 we w2, jn_N 25 ow o2, jn_N 25 fr f2, jn_N 25 of x2), (oc, oa, ob, os)) (1, (ra, up, f0, su, nn, wk, oc), (we, ow, fr, of), kq_N oa ob os) x)) 63 [.ref 0, .int (nI j)] [] (mw_M (rd, (pl, pc), (ra, up, f0, su, nn, wk), ki, (jn_N 5 we w2, jn_N 25 ow o2, jn_N 25 fr f2, jn_N 25 of x2), (oc, oa, ob, os)) (1, (ra, up, f0, su, nn, wk, oc), (kw, ko, kf, kx), kq) x) := by
    intro m
    induction m with
    | zero =>
      intro j hj kw h1
      obtain rfl : j = 5 := by omega
      refine aw_iload_1 dX10_image_63 ?_
      refine akN_iconst_5 dX10_image_64 ?_
      refine aw_icmp_geN 86 dX10_image_65 (by decide) (by omega) (by omega) (fun _ => ?_) (fun hh => absurd hh (by omega))
      refine aw_arr (id := 13) (g := fun k => nI (we k)) rfl (fun k hk => congrArg nI (h1 k hk)) ?_
      refine aw_w cm_13 ?_
      refine akN_iconst_0 dX10_image_86 ?_
      refine aw_istore_1 dX10_image_87 rfl (Nat.le_of_ble_eq_true rfl) ?_
      exact loop2 25 0 (by omega) ko kf kx kq (fun k hk => absurd hk (by omega)) (fun k hk => absurd hk (by omega)) (fun k hk => absurd hk (by omega))
    | succ m ih =>
      intro j hj kw h1
      refine aw_iload_1 dX10_image_63 ?_
      refine akN_iconst_5 dX10_image_64 ?_
      refine aw_icmp_geN 86 dX10_image_65 (by decide) (by omega) (by omega) (fun hh => absurd hh (by omega)) (fun _ => ?_)
      refine aw_aload_0 dX10_image_68 ?_
      refine gf_X10_54 dX10_image_69 rfl rfl ?_
      refine aw_iload_1 dX10_image_72 ?_
      refine aw_aload_0 dX10_image_73 ?_
      refine gf_X10_20 dX10_image_74 rfl rfl ?_
      refine aw_iload_1 dX10_image_77 ?_
      refine aw_ialdN dX10_image_78 rfl (by omega) ?_
      refine aw_iastN dX10_image_79 rfl (by omega) ?_
      refine aw_w cm_13 ?_
      refine aw_iincN_1 dX10_image_80 rfl (Nat.le_of_ble_eq_true rfl) ?_
      refine aw_goto 63 dX10_image_83 (by decide) ?_
      refine ih (j + 1) (by omega) _ (fun k hk => ?_)
      by_cases e : k = j
      · subst e; rw [up_at]; exact jn_lo _ _ (by omega)
      · rw [up_ne e]; exact h1 k (by omega)
  exact loop1 5 0 (by omega) kw (fun k hk => absurd hk (by omega))
theorem m_restore_no (rd : Int32) (pl : Nat) (pc : Nat → Nat) (ra up f0 su nn : Nat) (wk : Int32) (ki we ow fr of : Nat → Nat) (oc : Nat) (oa ob os : Nat → Nat) (K : mk_T) (x : ms_T) (h : K.1 = 0) : AM 8 yX10_restore cX10_restore 2 (some .int) [.ref 0] (mw_M (rd, (pl, pc), (ra, up, f0, su, nn, wk), ki, (we, ow, fr, of), (oc, oa, ob, os)) K x) (ac_R (some (.int (-103))) (mw_M (rd, (pl, pc), (ra, up, f0, su, nn, wk), ki, (we, ow, fr, of), (oc, oa, ob, os)) K x)) := by
  obtain ⟨ik, ⟨kra, kup, kf0, ksu, knn, kwk, koc⟩, ⟨kw, ko, kf, kx⟩, kq⟩ := K
  have h : ik = 0 := h
  refine AM.of (loc := [.ref 0, .null]) RX10 rfl (by decide +kernel) (Nat.le_of_ble_eq_true rfl) rfl ?_
  refine aw_aload_0 dX10_restore_0 ?_
  refine gf_X10_209 dX10_restore_1 rfl rfl ?_
  refine aw_if_neN 10 dX10_restore_4 (by decide) (by omega) (fun hh => absurd hh (by omega)) (fun _ => ?_)
  refine ak_bipush_m103 dX10_restore_7 ?_
  exact aw_iret dX10_restore_9 rfl (⟨rfl, rfl⟩)
theorem m_restore_ok (rd : Int32) (pl : Nat) (pc : Nat → Nat) (ra up f0 su nn : Nat) (wk : Int32) (ki we ow fr of : Nat → Nat) (oc : Nat) (oa ob os : Nat → Nat) (K : mk_T) (x : ms_T) (kra kup kf0 ksu knn : Nat) (kwk : Int32) (koc : Nat) (kw ko kf kx kq : Nat → Nat) : AM 8 yX10_restore cX10_restore 2 (some .int) [.ref 0] (mw_M (rd, (pl, pc), (ra, up, f0, su, nn, wk), ki, (we, ow, fr, of), (oc, oa, ob, os)) (1, (kra, kup, kf0, ksu, knn, kwk, koc), (kw, ko, kf, kx), kq) x) (ac_R (some (.int kwk)) (mw_M (rd, (pl, pc), (kra, kup, kf0, ksu, knn, kwk), ki, (pb_N 0 5 we kw, pb_N 0 25 ow ko, pb_N 0 25 fr kf, pb_N 0 25 of kx), (koc, (fun k => kq (3 * k)), (fun k => kq (3 * k + 1)), (fun k => kq (3 * k + 2)))) (1, (kra, kup, kf0, ksu, knn, kwk, koc), (kw, ko, kf, kx), kq) x)) := by
  have up0 : ∀ (f g : Nat → Nat) (j : Nat), va_up (pb_N 0 j f g) j (g j) = pb_N 0 (j + 1) f g := fun f g j => by
    have := pb_up 0 j f g (g j) rfl
    rw [Nat.zero_add] at this
    exact this
  refine AM.of (loc := [.ref 0, .null]) RX10 rfl (by decide +kernel) (Nat.le_of_ble_eq_true rfl) rfl ?_
  refine aw_aload_0 dX10_restore_0 ?_
  refine gf_X10_209 dX10_restore_1 rfl rfl ?_
  refine aw_if_neN 10 dX10_restore_4 (by decide) (by omega) (fun _ => ?_) (fun hh => absurd hh (by omega))
  refine aw_aload_0 dX10_restore_10 ?_
  refine aw_aload_0 dX10_restore_11 ?_
  refine gf_X10_213 dX10_restore_12 rfl rfl ?_
  refine pf_X10_7 dX10_restore_15 rfl (Nat.le_of_ble_eq_true rfl) ?_
  refine aw_w cm_0_1 ?_
  refine aw_aload_0 dX10_restore_18 ?_
  refine aw_aload_0 dX10_restore_19 ?_
  refine gf_X10_216 dX10_restore_20 rfl rfl ?_
  refine pf_X10_13 dX10_restore_23 rfl (Nat.le_of_ble_eq_true rfl) ?_
  refine aw_w cm_0_2 ?_
  refine aw_aload_0 dX10_restore_26 ?_
  refine aw_aload_0 dX10_restore_27 ?_
  refine gf_X10_219 dX10_restore_28 rfl rfl ?_
  refine pf_X10_84 dX10_restore_31 rfl (Nat.le_of_ble_eq_true rfl) ?_
  refine aw_w cm_0_3 ?_
  refine aw_aload_0 dX10_restore_34 ?_
  refine aw_aload_0 dX10_restore_35 ?_
  refine gf_X10_222 dX10_restore_36 rfl rfl ?_
  refine pf_X10_87 dX10_restore_39 rfl (Nat.le_of_ble_eq_true rfl) ?_
  refine aw_w cm_0_4 ?_
  refine aw_aload_0 dX10_restore_42 ?_
  refine aw_aload_0 dX10_restore_43 ?_
  refine gf_X10_225 dX10_restore_44 rfl rfl ?_
  refine pf_X10_93 dX10_restore_47 rfl (Nat.le_of_ble_eq_true rfl) ?_
  refine aw_w cm_0_5 ?_
  refine aw_aload_0 dX10_restore_50 ?_
  refine aw_aload_0 dX10_restore_51 ?_
  refine gf_X10_228 dX10_restore_52 rfl rfl ?_
  refine pf_X10_144 dX10_restore_55 rfl (Nat.le_of_ble_eq_true rfl) ?_
  refine aw_w cm_0_11 ?_
  refine aw_aload_0 dX10_restore_58 ?_
  refine aw_aload_0 dX10_restore_59 ?_
  refine gf_X10_231 dX10_restore_60 rfl rfl ?_
  refine pf_X10_174 dX10_restore_63 rfl (Nat.le_of_ble_eq_true rfl) ?_
  refine aw_w cm_0_12 ?_
  refine akN_iconst_0 dX10_restore_66 ?_
  refine aw_istore_1 dX10_restore_67 rfl (Nat.le_of_ble_eq_true rfl) ?_
  have loop3 : ∀ m j, j + m = 6 → ∀ oa ob os : Nat → Nat, (∀ k, k < j → oa k = kq (3 * k)) → (∀ k, k < j → ob k = kq (3 * k + 1)) → (∀ k, k < j → os k = kq (3 * k + 2)) → AW 8 RX10 cX10_restore 2 (some .int) 18 (ac_R (some (.int kwk)) (mw_M (rd, (pl, pc), (kra, kup, kf0, ksu, knn, kwk), ki, (pb_N 0 5 we kw, pb_N 0 25 ow ko, pb_N 0 25 fr kf, pb_N 0 25 of kx), (koc, (fun k => kq (3 * k)), (fun k => kq (3 * k + 1)), (fun k => kq (3 * k + 2)))) (1, (kra, kup, kf0, ksu, knn, kwk, koc), (kw, ko, kf, kx), kq) x)) 143 [.ref 0, .int (nI j)] [] (mw_M (rd, (pl, pc), (kra, kup, kf0, ksu, knn, kwk), ki, (pb_N 0 5 we kw, pb_N 0 25 ow ko, pb_N 0 25 fr kf, pb_N 0 25 of kx), (koc, oa, ob, os)) (1, (kra, kup, kf0, ksu, knn, kwk, koc), (kw, ko, kf, kx), kq) x) := by
    intro m
    induction m with
    | zero =>
      intro j hj oa ob os h1 h2 h3
      obtain rfl : j = 6 := by omega
      refine aw_iload_1 dX10_restore_143 ?_
      refine akN_bipush_6 dX10_restore_144 ?_
      refine aw_icmp_geN 201 dX10_restore_146 (by decide) (by omega) (by omega) (fun _ => ?_) (fun hh => absurd hh (by omega))
      refine aw_arr (id := 6) (g := fun k => nI (kq (3 * k))) rfl (fun k hk => congrArg nI (h1 k hk)) ?_
      refine aw_w cm_6 ?_
      refine aw_arr (id := 7) (g := fun k => nI (kq (3 * k + 1))) rfl (fun k hk => congrArg nI (h2 k hk)) ?_
      refine aw_w cm_7 ?_
      refine aw_arr (id := 8) (g := fun k => nI (kq (3 * k + 2))) rfl (fun k hk => congrArg nI (h3 k hk)) ?_
      refine aw_w cm_8 ?_
      refine aw_aload_0 dX10_restore_201 ?_
      refine gf_X10_144 dX10_restore_202 rfl rfl ?_
      exact aw_iret dX10_restore_205 rfl (⟨rfl, rfl⟩)
    | succ m ih =>
      intro j hj oa ob os h1 h2 h3
      have step : ∀ (A B : Nat → Nat), (∀ k, k < j → A k = B k) → ∀ k, k < j + 1 → va_up A j (B j) k = B k := by
        intro A B q k hk
        by_cases e : k = j
        · subst e; exact up_at
        · rw [up_ne e]; exact q k (by omega)
      refine aw_iload_1 dX10_restore_143 ?_
      refine akN_bipush_6 dX10_restore_144 ?_
      refine aw_icmp_geN 201 dX10_restore_146 (by decide) (by omega) (by omega) (fun hh => absurd hh (by omega)) (fun _ => ?_)
      refine aw_aload_0 dX10_restore_149 ?_
      refine gf_X10_32 dX10_restore_150 rfl rfl ?_
      refine aw_iload_1 dX10_restore_153 ?_
      refine aw_aload_0 dX10_restore_154 ?_
      refine gf_X10_66 dX10_restore_155 rfl rfl ?_
      refine akN_iconst_3 dX10_restore_158 ?_
      refine aw_iload_1 dX10_restore_159 ?_
      refine aw_imulN dX10_restore_160 ?_
      refine aw_ialdN dX10_restore_161 rfl (by omega) ?_
      refine aw_iastN dX10_restore_162 rfl (by omega) ?_
      refine aw_w cm_6 ?_
      refine aw_aload_0 dX10_restore_163 ?_
      refine gf_X10_35 dX10_restore_164 rfl rfl ?_
      refine aw_iload_1 dX10_restore_167 ?_
      refine aw_aload_0 dX10_restore_168 ?_
      refine gf_X10_66 dX10_restore_169 rfl rfl ?_
      refine akN_iconst_3 dX10_restore_172 ?_
      refine aw_iload_1 dX10_restore_173 ?_
      refine aw_imulN dX10_restore_174 ?_
      refine akN_iconst_1 dX10_restore_175 ?_
      refine aw_iaddN dX10_restore_176 ?_
      refine aw_ialdN dX10_restore_177 rfl (by omega) ?_
      refine aw_iastN dX10_restore_178 rfl (by omega) ?_
      refine aw_w cm_7 ?_
      refine aw_aload_0 dX10_restore_179 ?_
      refine gf_X10_38 dX10_restore_180 rfl rfl ?_
      refine aw_iload_1 dX10_restore_183 ?_
      refine aw_aload_0 dX10_restore_184 ?_
      refine gf_X10_66 dX10_restore_185 rfl rfl ?_
      refine akN_iconst_3 dX10_restore_188 ?_
      refine aw_iload_1 dX10_restore_189 ?_
      refine aw_imulN dX10_restore_190 ?_
      refine akN_iconst_2 dX10_restore_191 ?_
      refine aw_iaddN dX10_restore_192 ?_
      refine aw_ialdN dX10_restore_193 rfl (by omega) ?_
      refine aw_iastN dX10_restore_194 rfl (by omega) ?_
      refine aw_w cm_8 ?_
      refine aw_iincN_1 dX10_restore_195 rfl (Nat.le_of_ble_eq_true rfl) ?_
      refine aw_goto 143 dX10_restore_198 (by decide) ?_
      exact ih (j + 1) (by omega) _ _ _ (step oa (fun k => kq (3 * k)) h1) (step ob (fun k => kq (3 * k + 1)) h2) (step os (fun k => kq (3 * k + 2)) h3)
  have loop2 : ∀ m j, j + m = 25 → AW 8 RX10 cX10_restore 2 (some .int) 18 (ac_R (some (.int kwk)) (mw_M (rd, (pl, pc), (kra, kup, kf0, ksu, knn, kwk), ki, (pb_N 0 5 we kw, pb_N 0 25 ow ko, pb_N 0 25 fr kf, pb_N 0 25 of kx), (koc, (fun k => kq (3 * k)), (fun k => kq (3 * k + 1)), (fun k => kq (3 * k + 2)))) (1, (kra, kup, kf0, ksu, knn, kwk, koc), (kw, ko, kf, kx), kq) x)) 93 [.ref 0, .int (nI j)] [] (mw_M (rd, (pl, pc), (kra, kup, kf0, ksu, knn, kwk), ki, (pb_N 0 5 we kw, pb_N 0 j ow ko, pb_N 0 j fr kf, pb_N 0 j of kx), (koc, oa, ob, os)) (1, (kra, kup, kf0, ksu, knn, kwk, koc), (kw, ko, kf, kx), kq) x) := by
    intro m
    induction m with
    | zero =>
      intro j hj
      obtain rfl : j = 25 := by omega
      refine aw_iload_1 dX10_restore_93 ?_
      refine akN_bipush_25 dX10_restore_94 ?_
      refine aw_icmp_geN 141 dX10_restore_96 (by decide) (by omega) (by omega) (fun _ => ?_) (fun hh => absurd hh (by omega))
      refine akN_iconst_0 dX10_restore_141 ?_
      refine aw_istore_1 dX10_restore_142 rfl (Nat.le_of_ble_eq_true rfl) ?_
      exact loop3 6 0 (by omega) oa ob os (fun k hk => absurd hk (by omega)) (fun k hk => absurd hk (by omega)) (fun k hk => absurd hk (by omega))
    | succ m ih =>
      intro j hj
      refine aw_iload_1 dX10_restore_93 ?_
      refine akN_bipush_25 dX10_restore_94 ?_
      refine aw_icmp_geN 141 dX10_restore_96 (by decide) (by omega) (by omega) (fun hh => absurd hh (by omega)) (fun _ => ?_)
      refine aw_aload_0 dX10_restore_99 ?_
      refine gf_X10_23 dX10_restore_100 rfl rfl ?_
      refine aw_iload_1 dX10_restore_103 ?_
      refine aw_aload_0 dX10_restore_104 ?_
      refine gf_X10_57 dX10_restore_105 rfl rfl ?_
      refine aw_iload_1 dX10_restore_108 ?_
      refine aw_ialdN dX10_restore_109 rfl (by omega) ?_
      refine aw_iastN dX10_restore_110 rfl (by omega) ?_
      refine aw_w cm_3 ?_
      refine aw_aload_0 dX10_restore_111 ?_
      refine gf_X10_26 dX10_restore_112 rfl rfl ?_
      refine aw_iload_1 dX10_restore_115 ?_
      refine aw_aload_0 dX10_restore_116 ?_
      refine gf_X10_60 dX10_restore_117 rfl rfl ?_
      refine aw_iload_1 dX10_restore_120 ?_
      refine aw_ialdN dX10_restore_121 rfl (by omega) ?_
      refine aw_iastN dX10_restore_122 rfl (by omega) ?_
      refine aw_w cm_4 ?_
      refine aw_aload_0 dX10_restore_123 ?_
      refine gf_X10_29 dX10_restore_124 rfl rfl ?_
      refine aw_iload_1 dX10_restore_127 ?_
      refine aw_aload_0 dX10_restore_128 ?_
      refine gf_X10_63 dX10_restore_129 rfl rfl ?_
      refine aw_iload_1 dX10_restore_132 ?_
      refine aw_ialdN dX10_restore_133 rfl (by omega) ?_
      refine aw_iastN dX10_restore_134 rfl (by omega) ?_
      refine aw_w cm_5 ?_
      refine aw_iincN_1 dX10_restore_135 rfl (Nat.le_of_ble_eq_true rfl) ?_
      refine aw_goto 93 dX10_restore_138 (by decide) ?_
      rw [up0, up0, up0]
      exact ih (j + 1) (by omega)
  have loop1 : ∀ m j, j + m = 5 → AW 8 RX10 cX10_restore 2 (some .int) 18 (ac_R (some (.int kwk)) (mw_M (rd, (pl, pc), (kra, kup, kf0, ksu, knn, kwk), ki, (pb_N 0 5 we kw, pb_N 0 25 ow ko, pb_N 0 25 fr kf, pb_N 0 25 of kx), (koc, (fun k => kq (3 * k)), (fun k => kq (3 * k + 1)), (fun k => kq (3 * k + 2)))) (1, (kra, kup, kf0, ksu, knn, kwk, koc), (kw, ko, kf, kx), kq) x)) 68 [.ref 0, .int (nI j)] [] (mw_M (rd, (pl, pc), (kra, kup, kf0, ksu, knn, kwk), ki, (pb_N 0 j we kw, ow, fr, of), (koc, oa, ob, os)) (1, (kra, kup, kf0, ksu, knn, kwk, koc), (kw, ko, kf, kx), kq) x) := by
    intro m
    induction m with
    | zero =>
      intro j hj
      obtain rfl : j = 5 := by omega
      refine aw_iload_1 dX10_restore_68 ?_
      refine akN_iconst_5 dX10_restore_69 ?_
      refine aw_icmp_geN 91 dX10_restore_70 (by decide) (by omega) (by omega) (fun _ => ?_) (fun hh => absurd hh (by omega))
      refine akN_iconst_0 dX10_restore_91 ?_
      refine aw_istore_1 dX10_restore_92 rfl (Nat.le_of_ble_eq_true rfl) ?_
      have h := loop2 25 0 (by omega)
      rw [pb_0, pb_0, pb_0] at h
      exact h
    | succ m ih =>
      intro j hj
      refine aw_iload_1 dX10_restore_68 ?_
      refine akN_iconst_5 dX10_restore_69 ?_
      refine aw_icmp_geN 91 dX10_restore_70 (by decide) (by omega) (by omega) (fun hh => absurd hh (by omega)) (fun _ => ?_)
      refine aw_aload_0 dX10_restore_73 ?_
      refine gf_X10_20 dX10_restore_74 rfl rfl ?_
      refine aw_iload_1 dX10_restore_77 ?_
      refine aw_aload_0 dX10_restore_78 ?_
      refine gf_X10_54 dX10_restore_79 rfl rfl ?_
      refine aw_iload_1 dX10_restore_82 ?_
      refine aw_ialdN dX10_restore_83 rfl (by omega) ?_
      refine aw_iastN dX10_restore_84 rfl (by omega) ?_
      refine aw_w cm_2 ?_
      refine aw_iincN_1 dX10_restore_85 rfl (Nat.le_of_ble_eq_true rfl) ?_
      refine aw_goto 68 dX10_restore_88 (by decide) ?_
      rw [up0]
      exact ih (j + 1) (by omega)
  have h := loop1 5 0 (by omega)
  rw [pb_0] at h
  exact h
/-- thanked for so many of the offers that are chosen -/
def tf_T (t : tw_T) (oa ob os : Nat → Nat) (c : Nat) : Nat → tw_T
  | 0 => t
  | j + 1 => if bt_P c j then th_T (tf_T t oa ob os c j) (oa j) (ob j) (os j) else tf_T t oa ob os c j
def iv_B (ob : Nat → Nat) (p c : Nat) : Nat → Bool
  | 0 => true
  | j + 1 => iv_B ob p c j && (!decide (bt_P c j) || decide (ob j = p))
theorem ok_tf {t : tw_T} (h : ok_T t) (oa ob os : Nat → Nat) (c : Nat) : ∀ j, ok_T (tf_T t oa ob os c j)
  | 0 => h
  | j + 1 => by
    have ih := ok_tf h oa ob os c j
    unfold tf_T
    split
    · exact ok_th ih _ _ _
    · exact ih
theorem tf_A (ra up f0 su nn : Nat) (wk : Int32) (ki we ow fr of oa ob os : Nat → Nat) (c : Nat) : ∀ j, ∃ O F : Nat → Nat, tf_T (ra, up, f0, su, nn, wk, ki, we, ow, fr, of) oa ob os c j = (ra, up, f0, su, nn, wk, ki, we, O, F, of)
  | 0 => ⟨_, _, rfl⟩
  | j + 1 => by
    obtain ⟨O, F, h⟩ := tf_A ra up f0 su nn wk ki we ow fr of oa ob os c j
    unfold tf_T
    rw [h]
    split
    · exact ⟨_, _, rfl⟩
    · exact ⟨_, _, rfl⟩
def ow_T (t : tw_T) : Nat → Nat := t.2.2.2.2.2.2.2.2.1
/-- what one owes all behind it, if the choice is one -/
def vm_N (t : tw_T) (oc : Nat) (oa ob os : Nat → Nat) (p need wks c : Nat) : Option Nat := if iv_B ob p c oc = true ∧ need ≤ sz_N os c oc then some (fb_sm (fun q => ow_T (it_T (tf_T t oa ob os c oc) wks) (5 * p + q)) (nn_T t)) else none
def fa_N : Option Nat → Nat
  | none => 268435456
  | some v => v
theorem k_X10_owesBy (rd : Int32) (pl : Nat) (pc : Nat → Nat) (ra up f0 su nn : Nat) (wk : Int32) (ki we ow fr of : Nat → Nat) (oc : Nat) (oa ob os : Nat → Nat) (K : mk_T) (x : ms_T) (w2 o2 f2 x2 : Nat → Nat) (p c need wks : Nat) (hok : ok_T (ra, up, f0, su, nn, wk, ki, we, ow, fr, of)) (hoO : ok_O (oc, oa, ob, os)) (hp : p < 5) (hc : c < 64) (hne : need ≤ 500) (hw : wks ≤ 20) : AM 4 yX10_owesBy cX10_owesBy 8 (some .int) [.ref 0, .int (nI p), .int (nI c), .int (nI need), .int (nI wks)] (mw_M (rd, (pl, pc), (ra, up, f0, su, nn, wk), ki, (jn_N 5 we w2, jn_N 25 ow o2, jn_N 25 fr f2, jn_N 25 of x2), (oc, oa, ob, os)) K x) (fun r w' => r = some (.int (nI (fa_N (vm_N (ra, up, f0, su, nn, wk, ki, we, ow, fr, of) oc oa ob os p need wks c)))) ∧ ∃ w2 o2 f2 x2 : Nat → Nat, w' = (mw_M (rd, (pl, pc), (ra, up, f0, su, nn, wk), ki, (jn_N 5 we w2, jn_N 25 ow o2, jn_N 25 fr f2, jn_N 25 of x2), (oc, oa, ob, os)) K x)) := by
  have hn : nn ≤ 5 := hok.2.2.2.2.1
  have hf0 : f0 ≤ 9 := hok.2.2.1
  obtain ⟨g1, g2, g3, g4⟩ := hoO
  have hoc6 : oc * 99 ≤ 6 * 99 := Nat.mul_le_mul_right _ g1
  refine AM.of (loc := [.ref 0, .int (nI p), .int (nI c), .int (nI need), .int (nI wks), .null, .null, .null]) RX10 rfl (by decide +kernel) (Nat.le_of_ble_eq_true rfl) rfl ?_
  refine aw_aload_0 dX10_owesBy_0 ?_
  refine ce_X10_151 dX10_owesBy_1 rfl (k_X10_copy rd pl pc ra up f0 su nn wk ki we ow fr of oc oa ob os K x w2 o2 f2 x2) ?_
  refine akN_iconst_0 dX10_owesBy_4 ?_
  refine aw_istore_5 dX10_owesBy_5 rfl (Nat.le_of_ble_eq_true rfl) ?_
  refine ak_iconst_1 dX10_owesBy_7 ?_
  refine aw_istore_6 dX10_owesBy_8 rfl (Nat.le_of_ble_eq_true rfl) ?_
  refine akN_iconst_0 dX10_owesBy_10 ?_
  refine aw_istore_7 dX10_owesBy_11 rfl (Nat.le_of_ble_eq_true rfl) ?_
  have weeks : ∀ (O F : Nat → Nat) (z5 z6 : Int32), tf_T (ra, up, f0, su, nn, wk, ki, we, ow, fr, of) oa ob os c oc = (ra, up, f0, su, nn, wk, ki, we, O, F, of) → vm_N (ra, up, f0, su, nn, wk, ki, we, ow, fr, of) oc oa ob os p need wks c = some (fb_sm (fun q => ow_T (it_T (tf_T (ra, up, f0, su, nn, wk, ki, we, ow, fr, of) oa ob os c oc) wks) (5 * p + q)) nn) → ∀ k m, m + k = wks → AW 4 RX10 cX10_owesBy 8 (some .int) 18 (fun r w' => r = some (.int (nI (fa_N (vm_N (ra, up, f0, su, nn, wk, ki, we, ow, fr, of) oc oa ob os p need wks c)))) ∧ ∃ w2 o2 f2 x2 : Nat → Nat, w' = (mw_M (rd, (pl, pc), (ra, up, f0, su, nn, wk), ki, (jn_N 5 we w2, jn_N 25 ow o2, jn_N 25 fr f2, jn_N 25 of x2), (oc, oa, ob, os)) K x)) 117 [.ref 0, .int (nI p), .int (nI c), .int (nI need), .int (nI wks), (.int z5), (.int z6), .int (nI m)] [] (mw_M (rd, (pl, pc), (ra, up, f0, su, nn, wk), ki, (jn_N 5 we we, jn_N 25 ow (ai_A nn ra up ki (O, F, of) m).1, jn_N 25 fr (ai_A nn ra up ki (O, F, of) m).2.1, jn_N 25 of (ai_A nn ra up ki (O, F, of) m).2.2), (oc, oa, ob, os)) K x) := by
    intro O F z5 z6 htf hv k
    have hokt := ok_tf hok oa ob os c oc
    rw [htf] at hokt
    induction k with
    | zero =>
      intro m hm
      obtain rfl : m = wks := by omega
      obtain ⟨wz, hz⟩ := it_A ra up f0 su nn wk ki we O F of m
      have hA := k_X10_owesAll rd pl pc ra up f0 su nn wk ki (jn_N 5 we we) (jn_N 25 ow (ai_A nn ra up ki (O, F, of) m).1) (jn_N 25 fr (ai_A nn ra up ki (O, F, of) m).2.1) (jn_N 25 of (ai_A nn ra up ki (O, F, of) m).2.2) oc oa ob os K x 25 p (by omega) hp hn
      rw [sh_jn] at hA
      refine aw_iload_7 dX10_owesBy_117 ?_
      refine aw_iload_4 dX10_owesBy_119 ?_
      refine aw_icmp_geN 137 dX10_owesBy_121 (by decide) (by omega) (by omega) (fun _ => ?_) (fun hh => absurd hh (by omega))
      refine aw_aload_0 dX10_owesBy_137 ?_
      refine akN_bipush_25 dX10_owesBy_138 ?_
      refine aw_iload_1 dX10_owesBy_140 ?_
      refine ce_X10_107 dX10_owesBy_141 rfl (hA) ?_
      exact aw_iret dX10_owesBy_144 rfl (⟨by rw [hv, htf, hz]; rfl, _, _, _, _, rfl⟩)
    | succ k ih =>
      intro m hm
      obtain ⟨wz, hz⟩ := it_A ra up f0 su nn wk ki we O F of m
      have hokm := ok_it hokt m
      rw [hz] at hokm
      refine aw_iload_7 dX10_owesBy_117 ?_
      refine aw_iload_4 dX10_owesBy_119 ?_
      refine aw_icmp_geN 137 dX10_owesBy_121 (by decide) (by omega) (by omega) (fun hh => absurd hh (by omega)) (fun _ => ?_)
      refine aw_aload_0 dX10_owesBy_124 ?_
      refine akN_bipush_25 dX10_owesBy_125 ?_
      refine ca_X10_147 dX10_owesBy_127 rfl (k_goWeek_2 rd pl pc ra up f0 su nn wk ki we ow fr of oc oa ob os K x _ _ _ _ wz hokm) (fun r w1 hc => ?_)
      obtain ⟨⟨v, rfl⟩, rfl⟩ := hc
      refine aw_pop dX10_owesBy_130 rfl ?_
      refine aw_iincN_7 dX10_owesBy_131 rfl (Nat.le_of_ble_eq_true rfl) ?_
      refine aw_goto 117 dX10_owesBy_134 (by decide) ?_
      exact ih (m + 1) (by omega)
  have loop : ∀ k j, j + k = oc → ∀ O F : Nat → Nat, tf_T (ra, up, f0, su, nn, wk, ki, we, ow, fr, of) oa ob os c j = (ra, up, f0, su, nn, wk, ki, we, O, F, of) → AW 4 RX10 cX10_owesBy 8 (some .int) 18 (fun r w' => r = some (.int (nI (fa_N (vm_N (ra, up, f0, su, nn, wk, ki, we, ow, fr, of) oc oa ob os p need wks c)))) ∧ ∃ w2 o2 f2 x2 : Nat → Nat, w' = (mw_M (rd, (pl, pc), (ra, up, f0, su, nn, wk), ki, (jn_N 5 we w2, jn_N 25 ow o2, jn_N 25 fr f2, jn_N 25 of x2), (oc, oa, ob, os)) K x)) 13 [.ref 0, .int (nI p), .int (nI c), .int (nI need), .int (nI wks), .int (nI (sz_N os c j)), .int (bI (iv_B ob p c j = true)), .int (nI j)] [] (mw_M (rd, (pl, pc), (ra, up, f0, su, nn, wk), ki, (jn_N 5 we we, jn_N 25 ow O, jn_N 25 fr F, jn_N 25 of of), (oc, oa, ob, os)) K x) := by
    intro k
    induction k with
    | zero =>
      intro j hj O F htf
      obtain rfl : j = oc := by omega
      have hsz := sz_le g4 c j
      refine aw_iload_7 dX10_owesBy_13 ?_
      refine aw_aload_0 dX10_owesBy_15 ?_
      refine gf_X10_174 dX10_owesBy_16 rfl rfl ?_
      refine aw_icmp_geN 100 dX10_owesBy_19 (by decide) (by omega) (by omega) (fun _ => ?_) (fun hh => absurd hh (by omega))
      refine aw_iload_6 dX10_owesBy_100 ?_
      by_cases q : iv_B ob p c j = true
      · refine aw_if_eq 111 dX10_owesBy_102 (by decide) (fun hh => absurd hh (bI_n q)) (fun _ => ?_)
        refine aw_iload_5 dX10_owesBy_105 ?_
        refine aw_iload_3 dX10_owesBy_107 ?_
        refine aw_icmp_geN 114 dX10_owesBy_108 (by decide) (by omega) (by omega) (fun r => ?_) (fun r => ?_)
        · refine akN_iconst_0 dX10_owesBy_114 ?_
          refine aw_istore_7 dX10_owesBy_115 rfl (Nat.le_of_ble_eq_true rfl) ?_
          exact weeks O F _ _ htf (if_pos ⟨q, r⟩) wks 0 (by omega)
        refine aw_ldc gq_947 dX10_owesBy_111 ?_
        exact aw_iret dX10_owesBy_113 rfl (⟨by rw [show vm_N (ra, up, f0, su, nn, wk, ki, we, ow, fr, of) j oa ob os p need wks c = none from if_neg (fun z => by omega)]; rfl, _, _, _, _, rfl⟩)
      refine aw_if_eq 111 dX10_owesBy_102 (by decide) (fun _ => ?_) (fun hh => absurd (bI_f q) hh)
      refine aw_ldc gq_947 dX10_owesBy_111 ?_
      exact aw_iret dX10_owesBy_113 rfl (⟨by rw [show vm_N (ra, up, f0, su, nn, wk, ki, we, ow, fr, of) j oa ob os p need wks c = none from if_neg (fun z => q z.1)]; rfl, _, _, _, _, rfl⟩)
    | succ k ih =>
      intro j hj O F htf
      have hokj := ok_tf hok oa ob os c j
      rw [htf] at hokj
      have hob := g3 j
      have hoa := g2 j
      have hos := g4 j
      have hsz := sz_le g4 c j
      have hdv : c / 2 ^ j ≤ c := Nat.div_le_self _ _
      have hm2 : c / 2 ^ j % 2 ^ 1 < 2 := Nat.mod_lt _ (by decide)
      refine aw_iload_7 dX10_owesBy_13 ?_
      refine aw_aload_0 dX10_owesBy_15 ?_
      refine gf_X10_174 dX10_owesBy_16 rfl rfl ?_
      refine aw_icmp_geN 100 dX10_owesBy_19 (by decide) (by omega) (by omega) (fun hh => absurd hh (by omega)) (fun _ => ?_)
      refine aw_iload_2 dX10_owesBy_22 ?_
      refine aw_iload_7 dX10_owesBy_23 ?_
      refine aw_ishr dX10_owesBy_25 ?_
      refine aw_topi (sh_shr (by omega) (by omega)) ?_
      refine ak_iconst_1 dX10_owesBy_26 ?_
      refine aw_iand dX10_owesBy_27 ?_
      refine aw_topi (pk_andN (by omega) 1 rfl : nI (c / 2 ^ j) &&& 1 = nI (c / 2 ^ j % 2 ^ 1)) ?_
      refine akN_iconst_1 dX10_owesBy_28 ?_
      refine aw_icmp_neN 94 dX10_owesBy_29 (by decide) (by omega) (by omega) (fun q => ?_) (fun q => ?_)
      · have q : ¬ bt_P c j := q
        refine aw_iincN_7 dX10_owesBy_94 rfl (Nat.le_of_ble_eq_true rfl) ?_
        refine aw_goto 13 dX10_owesBy_97 (by decide) ?_
        have e1 : sz_N os c (j + 1) = sz_N os c j := by show sz_N os c j + (if bt_P c j then os j else 0) = _; rw [if_neg q]; rfl
        have e2 : iv_B ob p c (j + 1) = iv_B ob p c j := by show (iv_B ob p c j && (!decide (bt_P c j) || decide (ob j = p))) = iv_B ob p c j; rw [decide_eq_false q]; simp
        have h := ih (j + 1) (by omega) O F (by rw [tf_T, if_neg q]; exact htf)
        rw [e1] at h
        simp only [e2] at h
        exact h
      have q : bt_P c j := q
      have e1 : sz_N os c (j + 1) = sz_N os c j + os j := by show sz_N os c j + (if bt_P c j then os j else 0) = _; rw [if_pos q]
      have hT := k_X10_thank rd pl pc ra up f0 su nn wk ki (jn_N 5 we we) (jn_N 25 ow O) (jn_N 25 fr F) (jn_N 25 of of) oc oa ob os K x 25 (ob j) (oa j) (os j) (by omega) (by omega) (by omega) (by omega) (by rw [jn_hi]; exact hokj.2.2.2.2.2.2.2.1 _) (by rw [jn_hi]; exact hokj.2.2.2.2.2.2.2.2.1 _) hf0
      rw [jn_up2, jn_up2, jn_hi, jn_hi] at hT
      have tail : ∀ b : Int32, b = bI (iv_B ob p c (j + 1) = true) → AW 4 RX10 cX10_owesBy 8 (some .int) 18 (fun r w' => r = some (.int (nI (fa_N (vm_N (ra, up, f0, su, nn, wk, ki, we, ow, fr, of) oc oa ob os p need wks c)))) ∧ ∃ w2 o2 f2 x2 : Nat → Nat, w' = (mw_M (rd, (pl, pc), (ra, up, f0, su, nn, wk), ki, (jn_N 5 we w2, jn_N 25 ow o2, jn_N 25 fr f2, jn_N 25 of x2), (oc, oa, ob, os)) K x)) 53 [.ref 0, .int (nI p), .int (nI c), .int (nI need), .int (nI wks), .int (nI (sz_N os c j)), .int (bI (iv_B ob p c j = true)), .int (nI j)] [.int b] (mw_M (rd, (pl, pc), (ra, up, f0, su, nn, wk), ki, (jn_N 5 we we, jn_N 25 ow O, jn_N 25 fr F, jn_N 25 of of), (oc, oa, ob, os)) K x) := by
        intro b hb
        refine aw_istore_6 dX10_owesBy_53 rfl (Nat.le_of_ble_eq_true rfl) ?_
        refine aw_iload_5 dX10_owesBy_55 ?_
        refine aw_aload_0 dX10_owesBy_57 ?_
        refine gf_X10_38 dX10_owesBy_58 rfl rfl ?_
        refine aw_iload_7 dX10_owesBy_61 ?_
        refine aw_ialdN dX10_owesBy_63 rfl (by omega) ?_
        refine aw_iaddN dX10_owesBy_64 ?_
        refine aw_istore_5 dX10_owesBy_65 rfl (Nat.le_of_ble_eq_true rfl) ?_
        refine aw_aload_0 dX10_owesBy_67 ?_
        refine akN_bipush_25 dX10_owesBy_68 ?_
        refine aw_aload_0 dX10_owesBy_70 ?_
        refine gf_X10_35 dX10_owesBy_71 rfl rfl ?_
        refine aw_iload_7 dX10_owesBy_74 ?_
        refine aw_ialdN dX10_owesBy_76 rfl (by omega) ?_
        refine aw_aload_0 dX10_owesBy_77 ?_
        refine gf_X10_32 dX10_owesBy_78 rfl rfl ?_
        refine aw_iload_7 dX10_owesBy_81 ?_
        refine aw_ialdN dX10_owesBy_83 rfl (by omega) ?_
        refine aw_aload_0 dX10_owesBy_84 ?_
        refine gf_X10_38 dX10_owesBy_85 rfl rfl ?_
        refine aw_iload_7 dX10_owesBy_88 ?_
        refine aw_ialdN dX10_owesBy_90 rfl (by omega) ?_
        refine ce_X10_133 dX10_owesBy_91 rfl (hT) ?_
        rw [← e1, hb]
        refine aw_iincN_7 dX10_owesBy_94 rfl (Nat.le_of_ble_eq_true rfl) ?_
        refine aw_goto 13 dX10_owesBy_97 (by decide) ?_
        exact ih (j + 1) (by omega) _ _ (by rw [tf_T, if_pos q, htf]; rfl)
      by_cases r : iv_B ob p c j = true
      · refine aw_iload_6 dX10_owesBy_32 ?_
        refine aw_if_eq 52 dX10_owesBy_34 (by decide) (fun hh => absurd hh (bI_n r)) (fun _ => ?_)
        refine aw_aload_0 dX10_owesBy_37 ?_
        refine gf_X10_35 dX10_owesBy_38 rfl rfl ?_
        refine aw_iload_7 dX10_owesBy_41 ?_
        refine aw_ialdN dX10_owesBy_43 rfl (by omega) ?_
        refine aw_iload_1 dX10_owesBy_44 ?_
        refine aw_icmp_neN 52 dX10_owesBy_45 (by decide) (by omega) (by omega) (fun u => ?_) (fun u => ?_)
        · refine ak_iconst_0 dX10_owesBy_52 ?_
          exact tail 0 (bI_f (by show ¬ (iv_B ob p c j && (!decide (bt_P c j) || decide (ob j = p))) = true; rw [decide_eq_true q, decide_eq_false u]; simp)).symm
        refine ak_iconst_1 dX10_owesBy_48 ?_
        refine aw_goto 53 dX10_owesBy_49 (by decide) ?_
        exact tail 1 (bI_t (by show (iv_B ob p c j && (!decide (bt_P c j) || decide (ob j = p))) = true; rw [r, decide_eq_true u]; simp)).symm
      refine aw_iload_6 dX10_owesBy_32 ?_
      refine aw_if_eq 52 dX10_owesBy_34 (by decide) (fun _ => ?_) (fun hh => absurd (bI_f r) hh)
      refine ak_iconst_0 dX10_owesBy_52 ?_
      exact tail 0 (bI_f (by show ¬ (iv_B ob p c j && (!decide (bt_P c j) || decide (ob j = p))) = true; rw [show iv_B ob p c j = false by simpa using r]; simp)).symm
  exact loop oc 0 (by omega) ow fr rfl
