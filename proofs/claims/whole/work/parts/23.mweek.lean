/-! ===== the reference: debts and weeks ===== -/
/-- a row from a place on -/
def sh_N (b : Nat) (f : Nat → Nat) : Nat → Nat := fun k => f (b + k)
theorem sh_0 (f : Nat → Nat) : sh_N 0 f = f := funext fun k => congrArg f (Nat.zero_add k)
theorem k_X10_owesAll (rd : Int32) (pl : Nat) (pc : Nat → Nat) (ra up f0 su nn : Nat) (wk : Int32) (ki we ow fr of : Nat → Nat) (oc : Nat) (oa ob os : Nat → Nat) (K : mk_T) (x : ms_T) (b p : Nat) (hb : b ≤ 25) (hp : p < 5) (hn : nn ≤ 5) : AM 1 yX10_owesAll cX10_owesAll 5 (some .int) [.ref 0, .int (nI b), .int (nI p)] (mw_M (rd, (pl, pc), (ra, up, f0, su, nn, wk), ki, (we, ow, fr, of), (oc, oa, ob, os)) K x) (ac_R (some (.int (nI (fb_sm (fun q => sh_N b ow (5 * p + q)) nn)))) (mw_M (rd, (pl, pc), (ra, up, f0, su, nn, wk), ki, (we, ow, fr, of), (oc, oa, ob, os)) K x)) := by
  refine AM.of (loc := [.ref 0, .int (nI b), .int (nI p), .null, .null]) RX10 rfl (by decide +kernel) (Nat.le_of_ble_eq_true rfl) rfl ?_
  refine akN_iconst_0 dX10_owesAll_0 ?_
  refine aw_istore_3 dX10_owesAll_1 rfl (Nat.le_of_ble_eq_true rfl) ?_
  refine akN_iconst_0 dX10_owesAll_2 ?_
  refine aw_istore_4 dX10_owesAll_3 rfl (Nat.le_of_ble_eq_true rfl) ?_
  have loop : ∀ k i, i + k = nn → AW 1 RX10 cX10_owesAll 5 (some .int) 18 (ac_R (some (.int (nI (fb_sm (fun q => sh_N b ow (5 * p + q)) nn)))) (mw_M (rd, (pl, pc), (ra, up, f0, su, nn, wk), ki, (we, ow, fr, of), (oc, oa, ob, os)) K x)) 5 [.ref 0, .int (nI b), .int (nI p), .int (nI (fb_sm (fun q => sh_N b ow (5 * p + q)) i)), .int (nI i)] [] (mw_M (rd, (pl, pc), (ra, up, f0, su, nn, wk), ki, (we, ow, fr, of), (oc, oa, ob, os)) K x) := by
    intro k
    induction k with
    | zero =>
      intro i hi
      obtain rfl : i = nn := by omega
      refine aw_iload_4 dX10_owesAll_5 ?_
      refine aw_aload_0 dX10_owesAll_7 ?_
      refine gf_X10_93 dX10_owesAll_8 rfl rfl ?_
      refine aw_icmp_geN 36 dX10_owesAll_11 (by decide) (by omega) (by omega) (fun _ => ?_) (fun hh => absurd hh (by omega))
      refine aw_iload_3 dX10_owesAll_36 ?_
      exact aw_iret dX10_owesAll_37 rfl (⟨rfl, rfl⟩)
    | succ k ih =>
      intro i hi
      refine aw_iload_4 dX10_owesAll_5 ?_
      refine aw_aload_0 dX10_owesAll_7 ?_
      refine gf_X10_93 dX10_owesAll_8 rfl rfl ?_
      refine aw_icmp_geN 36 dX10_owesAll_11 (by decide) (by omega) (by omega) (fun hh => absurd hh (by omega)) (fun _ => ?_)
      refine aw_iload_3 dX10_owesAll_14 ?_
      refine aw_aload_0 dX10_owesAll_15 ?_
      refine gf_X10_23 dX10_owesAll_16 rfl rfl ?_
      refine aw_iload_1 dX10_owesAll_19 ?_
      refine akN_iconst_5 dX10_owesAll_20 ?_
      refine aw_iload_2 dX10_owesAll_21 ?_
      refine aw_imulN dX10_owesAll_22 ?_
      refine aw_iaddN dX10_owesAll_23 ?_
      refine aw_iload_4 dX10_owesAll_24 ?_
      refine aw_iaddN dX10_owesAll_26 ?_
      refine aw_topi (congrArg nI (Nat.add_assoc b (5 * p) i)) ?_
      refine aw_ialdN dX10_owesAll_27 rfl (by omega) ?_
      refine aw_iaddN dX10_owesAll_28 ?_
      refine aw_istore_3 dX10_owesAll_29 rfl (Nat.le_of_ble_eq_true rfl) ?_
      refine aw_iincN_4 dX10_owesAll_30 rfl (Nat.le_of_ble_eq_true rfl) ?_
      refine aw_goto 5 dX10_owesAll_33 (by decide) ?_
      exact ih (i + 1) (by omega)
  exact loop nn 0 (by omega)
theorem k_X10_owedBy (rd : Int32) (pl : Nat) (pc : Nat → Nat) (ra up f0 su nn : Nat) (wk : Int32) (ki we ow fr of : Nat → Nat) (oc : Nat) (oa ob os : Nat → Nat) (K : mk_T) (x : ms_T) (b p : Nat) (hb : b ≤ 25) (hp : p < 5) (hn : nn ≤ 5) : AM 1 yX10_owedBy cX10_owedBy 5 (some .int) [.ref 0, .int (nI b), .int (nI p)] (mw_M (rd, (pl, pc), (ra, up, f0, su, nn, wk), ki, (we, ow, fr, of), (oc, oa, ob, os)) K x) (ac_R (some (.int (nI (fb_sm (fun q => sh_N b ow (5 * q + p)) nn)))) (mw_M (rd, (pl, pc), (ra, up, f0, su, nn, wk), ki, (we, ow, fr, of), (oc, oa, ob, os)) K x)) := by
  refine AM.of (loc := [.ref 0, .int (nI b), .int (nI p), .null, .null]) RX10 rfl (by decide +kernel) (Nat.le_of_ble_eq_true rfl) rfl ?_
  refine akN_iconst_0 dX10_owedBy_0 ?_
  refine aw_istore_3 dX10_owedBy_1 rfl (Nat.le_of_ble_eq_true rfl) ?_
  refine akN_iconst_0 dX10_owedBy_2 ?_
  refine aw_istore_4 dX10_owedBy_3 rfl (Nat.le_of_ble_eq_true rfl) ?_
  have loop : ∀ k i, i + k = nn → AW 1 RX10 cX10_owedBy 5 (some .int) 18 (ac_R (some (.int (nI (fb_sm (fun q => sh_N b ow (5 * q + p)) nn)))) (mw_M (rd, (pl, pc), (ra, up, f0, su, nn, wk), ki, (we, ow, fr, of), (oc, oa, ob, os)) K x)) 5 [.ref 0, .int (nI b), .int (nI p), .int (nI (fb_sm (fun q => sh_N b ow (5 * q + p)) i)), .int (nI i)] [] (mw_M (rd, (pl, pc), (ra, up, f0, su, nn, wk), ki, (we, ow, fr, of), (oc, oa, ob, os)) K x) := by
    intro k
    induction k with
    | zero =>
      intro i hi
      obtain rfl : i = nn := by omega
      refine aw_iload_4 dX10_owedBy_5 ?_
      refine aw_aload_0 dX10_owedBy_7 ?_
      refine gf_X10_93 dX10_owedBy_8 rfl rfl ?_
      refine aw_icmp_geN 36 dX10_owedBy_11 (by decide) (by omega) (by omega) (fun _ => ?_) (fun hh => absurd hh (by omega))
      refine aw_iload_3 dX10_owedBy_36 ?_
      exact aw_iret dX10_owedBy_37 rfl (⟨rfl, rfl⟩)
    | succ k ih =>
      intro i hi
      refine aw_iload_4 dX10_owedBy_5 ?_
      refine aw_aload_0 dX10_owedBy_7 ?_
      refine gf_X10_93 dX10_owedBy_8 rfl rfl ?_
      refine aw_icmp_geN 36 dX10_owedBy_11 (by decide) (by omega) (by omega) (fun hh => absurd hh (by omega)) (fun _ => ?_)
      refine aw_iload_3 dX10_owedBy_14 ?_
      refine aw_aload_0 dX10_owedBy_15 ?_
      refine gf_X10_23 dX10_owedBy_16 rfl rfl ?_
      refine aw_iload_1 dX10_owedBy_19 ?_
      refine akN_iconst_5 dX10_owedBy_20 ?_
      refine aw_iload_4 dX10_owedBy_21 ?_
      refine aw_imulN dX10_owedBy_23 ?_
      refine aw_iaddN dX10_owedBy_24 ?_
      refine aw_iload_2 dX10_owedBy_25 ?_
      refine aw_iaddN dX10_owedBy_26 ?_
      refine aw_topi (congrArg nI (Nat.add_assoc b (5 * i) p)) ?_
      refine aw_ialdN dX10_owedBy_27 rfl (by omega) ?_
      refine aw_iaddN dX10_owedBy_28 ?_
      refine aw_istore_3 dX10_owedBy_29 rfl (Nat.le_of_ble_eq_true rfl) ?_
      refine aw_iincN_4 dX10_owedBy_30 rfl (Nat.le_of_ble_eq_true rfl) ?_
      refine aw_goto 5 dX10_owedBy_33 (by decide) ?_
      exact ih (i + 1) (by omega)
  exact loop nn 0 (by omega)
theorem k_X10_net (rd : Int32) (pl : Nat) (pc : Nat → Nat) (ra up f0 su nn : Nat) (wk : Int32) (ki we ow fr of : Nat → Nat) (oc : Nat) (oa ob os : Nat → Nat) (K : mk_T) (x : ms_T) (s p : Nat) (hs : s ≤ 1) (hp : p < 5) (hn : nn ≤ 5) : AM 2 yX10_net cX10_net 3 (some .int) [.ref 0, .int (nI s), .int (nI p)] (mw_M (rd, (pl, pc), (ra, up, f0, su, nn, wk), ki, (we, ow, fr, of), (oc, oa, ob, os)) K x) (ac_R (some (.int (nt_I nn (sh_N (5 * s) we) (sh_N (25 * s) ow) p))) (mw_M (rd, (pl, pc), (ra, up, f0, su, nn, wk), ki, (we, ow, fr, of), (oc, oa, ob, os)) K x)) := by
  refine AM.of (loc := [.ref 0, .int (nI s), .int (nI p)]) RX10 rfl (by decide +kernel) (Nat.le_of_ble_eq_true rfl) rfl ?_
  refine aw_aload_0 dX10_net_0 ?_
  refine gf_X10_20 dX10_net_1 rfl rfl ?_
  refine akN_iconst_5 dX10_net_4 ?_
  refine aw_iload_1 dX10_net_5 ?_
  refine aw_imulN dX10_net_6 ?_
  refine aw_iload_2 dX10_net_7 ?_
  refine aw_iaddN dX10_net_8 ?_
  refine aw_ialdN dX10_net_9 rfl (by omega) ?_
  refine aw_aload_0 dX10_net_10 ?_
  refine akN_bipush_25 dX10_net_11 ?_
  refine aw_iload_1 dX10_net_13 ?_
  refine aw_imulN dX10_net_14 ?_
  refine aw_iload_2 dX10_net_15 ?_
  refine ce_X10_103 dX10_net_16 rfl (k_X10_owedBy rd pl pc ra up f0 su nn wk ki we ow fr of oc oa ob os K x (25 * s) p (by omega) hp hn) ?_
  refine aw_iadd dX10_net_19 ?_
  refine aw_aload_0 dX10_net_20 ?_
  refine akN_bipush_25 dX10_net_21 ?_
  refine aw_iload_1 dX10_net_23 ?_
  refine aw_imulN dX10_net_24 ?_
  refine aw_iload_2 dX10_net_25 ?_
  refine ce_X10_107 dX10_net_26 rfl (k_X10_owesAll rd pl pc ra up f0 su nn wk ki we ow fr of oc oa ob os K x (25 * s) p (by omega) hp hn) ?_
  refine aw_isub dX10_net_29 ?_
  exact aw_iret dX10_net_30 rfl (⟨rfl, rfl⟩)
theorem k_X10_personNow (rd : Int32) (pl : Nat) (pc : Nat → Nat) (ra up f0 su nn : Nat) (wk : Int32) (ki we ow fr of : Nat → Nat) (oc : Nat) (oa ob os : Nat → Nat) (K : mk_T) (x : ms_T) (p w : Nat) (hp : p < 5) (hn : nn ≤ 5) (hw : w < 6) : AM 3 yX10_personNow cX10_personNow 3 (some .int) [.ref 0, .int (nI p), .int (nI w)] (mw_M (rd, (pl, pc), (ra, up, f0, su, nn, wk), ki, (we, ow, fr, of), (oc, oa, ob, os)) K x) (ac_R (some (.int (ab_I nn ki we ow p w))) (mw_M (rd, (pl, pc), (ra, up, f0, su, nn, wk), ki, (we, ow, fr, of), (oc, oa, ob, os)) K x)) := by
  have e0 : sh_N (5 * 0) we = we := sh_0 we
  have e1 : sh_N (25 * 0) ow = ow := sh_0 ow
  refine AM.of (loc := [.ref 0, .int (nI p), .int (nI w)]) RX10 rfl (by decide +kernel) (Nat.le_of_ble_eq_true rfl) rfl ?_
  refine aw_iload_2 dX10_personNow_0 ?_
  match w, hw with
  | 0, _ =>
    refine aw_tableIn (off := 35) 36 dX10_personNow_1 (by decide) (by decide) (by decide +kernel) (by decide) ?_
    refine aw_aload_0 dX10_personNow_36 ?_
    refine gf_X10_16 dX10_personNow_37 rfl rfl ?_
    refine aw_iload_1 dX10_personNow_40 ?_
    refine aw_ialdN dX10_personNow_41 rfl hp ?_
    exact aw_iret dX10_personNow_42 rfl (⟨rfl, rfl⟩)
  | 1, _ =>
    refine aw_tableIn (off := 42) 43 dX10_personNow_1 (by decide) (by decide) (by decide +kernel) (by decide) ?_
    refine aw_aload_0 dX10_personNow_43 ?_
    refine gf_X10_20 dX10_personNow_44 rfl rfl ?_
    refine aw_iload_1 dX10_personNow_47 ?_
    refine aw_ialdN dX10_personNow_48 rfl (by omega) ?_
    exact aw_iret dX10_personNow_49 rfl (⟨rfl, rfl⟩)
  | 2, _ =>
    refine aw_tableIn (off := 49) 50 dX10_personNow_1 (by decide) (by decide) (by decide +kernel) (by decide) ?_
    refine aw_aload_0 dX10_personNow_50 ?_
    refine akN_iconst_0 dX10_personNow_51 ?_
    refine aw_iload_1 dX10_personNow_52 ?_
    refine ce_X10_107 dX10_personNow_53 rfl (k_X10_owesAll rd pl pc ra up f0 su nn wk ki we ow fr of oc oa ob os K x 0 p (by omega) hp hn) ?_
    exact aw_iret dX10_personNow_56 rfl (⟨by rw [sh_0]; rfl, rfl⟩)
  | 3, _ =>
    refine aw_tableIn (off := 56) 57 dX10_personNow_1 (by decide) (by decide) (by decide +kernel) (by decide) ?_
    refine aw_aload_0 dX10_personNow_57 ?_
    refine akN_iconst_0 dX10_personNow_58 ?_
    refine aw_iload_1 dX10_personNow_59 ?_
    refine ce_X10_103 dX10_personNow_60 rfl (k_X10_owedBy rd pl pc ra up f0 su nn wk ki we ow fr of oc oa ob os K x 0 p (by omega) hp hn) ?_
    exact aw_iret dX10_personNow_63 rfl (⟨by rw [sh_0]; rfl, rfl⟩)
  | 4, _ =>
    refine aw_tableIn (off := 63) 64 dX10_personNow_1 (by decide) (by decide) (by decide +kernel) (by decide) ?_
    refine aw_aload_0 dX10_personNow_64 ?_
    refine akN_iconst_0 dX10_personNow_65 ?_
    refine aw_iload_1 dX10_personNow_66 ?_
    refine ce_X10_110 dX10_personNow_67 rfl (k_X10_net rd pl pc ra up f0 su nn wk ki we ow fr of oc oa ob os K x 0 p (by omega) hp hn) ?_
    exact aw_iret dX10_personNow_70 rfl (⟨by rw [e0, e1]; rfl, rfl⟩)
  | 5, _ =>
    refine aw_tableOut 71 dX10_personNow_1 (Or.inr (by decide)) (by decide) ?_
    refine aw_aload_0 dX10_personNow_71 ?_
    refine akN_iconst_0 dX10_personNow_72 ?_
    refine aw_iload_1 dX10_personNow_73 ?_
    refine ce_X10_110 dX10_personNow_74 rfl (k_X10_net rd pl pc ra up f0 su nn wk ki we ow fr of oc oa ob os K x 0 p (by omega) hp hn) ?_
    rw [e0, e1]
    refine aw_if_ge 84 dX10_personNow_77 (by decide) (fun h1 => ?_) (fun h1 => ?_)
    · refine ak_iconst_0 dX10_personNow_84 ?_
      exact aw_iret dX10_personNow_85 rfl (⟨by rw [ab_I, bI_f (fun q => by rw [fa_lt] at q; rw [fa_le] at h1; omega)]; all_goals (intro; omega), rfl⟩)
    refine ak_iconst_1 dX10_personNow_80 ?_
    refine aw_goto 85 dX10_personNow_81 (by decide) ?_
    exact aw_iret dX10_personNow_85 rfl (⟨by rw [ab_I, bI_t (by rw [fa_lt]; rw [fa_le] at h1; omega)]; all_goals (intro; omega), rfl⟩)
theorem m_about_no (rd : Int32) (pl : Nat) (pc : Nat → Nat) (ra up f0 su nn : Nat) (wk : Int32) (ki we ow fr of : Nat → Nat) (oc : Nat) (oa ob os : Nat → Nat) (K : mk_T) (x : ms_T) (a w : Int32) (hn : nn ≤ 5) (h : ¬ hs_P nn a) : AM 8 yX10_about cX10_about 3 (some .int) [.ref 0, .int a, .int w] (mw_M (rd, (pl, pc), (ra, up, f0, su, nn, wk), ki, (we, ow, fr, of), (oc, oa, ob, os)) K x) (ac_R (some (.int (-101))) (mw_M (rd, (pl, pc), (ra, up, f0, su, nn, wk), ki, (we, ow, fr, of), (oc, oa, ob, os)) K x)) := by
  refine AM.of (loc := [.ref 0, .int a, .int w]) RX10 rfl (by decide +kernel) (Nat.le_of_ble_eq_true rfl) rfl ?_
  refine aw_aload_0 dX10_about_0 ?_
  refine aw_iload_1 dX10_about_1 ?_
  refine ce_X10_96 dX10_about_2 rfl (k_X10_isPerson rd pl pc ra up f0 su nn wk ki we ow fr of oc oa ob os K x a hn) ?_
  refine aw_if_ne 13 dX10_about_5 (by decide) (fun hh => absurd (bI_f h) hh) (fun _ => ?_)
  refine ak_bipush_m101 dX10_about_8 ?_
  refine aw_goto 33 dX10_about_10 (by decide) ?_
  exact aw_iret dX10_about_33 rfl (⟨rfl, rfl⟩)
theorem m_about_out (rd : Int32) (pl : Nat) (pc : Nat → Nat) (ra up f0 su nn : Nat) (wk : Int32) (ki we ow fr of : Nat → Nat) (oc : Nat) (oa ob os : Nat → Nat) (K : mk_T) (x : ms_T) (a w : Int32) (hn : nn ≤ 5) (h : hs_P nn a) (hw : ¬ (0 ≤ w ∧ w ≤ 5)) : AM 8 yX10_about cX10_about 3 (some .int) [.ref 0, .int a, .int w] (mw_M (rd, (pl, pc), (ra, up, f0, su, nn, wk), ki, (we, ow, fr, of), (oc, oa, ob, os)) K x) (ac_R (some (.int (-102))) (mw_M (rd, (pl, pc), (ra, up, f0, su, nn, wk), ki, (we, ow, fr, of), (oc, oa, ob, os)) K x)) := by
  refine AM.of (loc := [.ref 0, .int a, .int w]) RX10 rfl (by decide +kernel) (Nat.le_of_ble_eq_true rfl) rfl ?_
  refine aw_aload_0 dX10_about_0 ?_
  refine aw_iload_1 dX10_about_1 ?_
  refine ce_X10_96 dX10_about_2 rfl (k_X10_isPerson rd pl pc ra up f0 su nn wk ki we ow fr of oc oa ob os K x a hn) ?_
  refine aw_if_ne 13 dX10_about_5 (by decide) (fun _ => ?_) (fun hh => absurd hh (bI_n h))
  refine aw_iload_2 dX10_about_13 ?_
  refine ak_iconst_0 dX10_about_14 ?_
  refine ak_iconst_5 dX10_about_15 ?_
  refine ce_X10_69 dX10_about_16 (k_X10_within _ w 0 5) ?_
  refine aw_if_eq 31 dX10_about_19 (by decide) (fun _ => ?_) (fun hh => absurd (bI_f hw) hh)
  refine ak_bipush_m102 dX10_about_31 ?_
  exact aw_iret dX10_about_33 rfl (⟨rfl, rfl⟩)
theorem m_about_ok (rd : Int32) (pl : Nat) (pc : Nat → Nat) (ra up f0 su nn : Nat) (wk : Int32) (ki we ow fr of : Nat → Nat) (oc : Nat) (oa ob os : Nat → Nat) (K : mk_T) (x : ms_T) (p w : Nat) (hn : nn ≤ 5) (hp : p < nn) (hw : w < 6) : AM 8 yX10_about cX10_about 3 (some .int) [.ref 0, .int (nI p), .int (nI w)] (mw_M (rd, (pl, pc), (ra, up, f0, su, nn, wk), ki, (we, ow, fr, of), (oc, oa, ob, os)) K x) (ac_R (some (.int (ab_I nn ki we ow p w))) (mw_M (rd, (pl, pc), (ra, up, f0, su, nn, wk), ki, (we, ow, fr, of), (oc, oa, ob, os)) K x)) := by
  have hw2 : (0 : Int32) ≤ nI w ∧ nI w ≤ 5 := ⟨nI_pos' (show w < 2 ^ 31 by omega), (nI_leI (by omega) (by decide : (5 : Nat) < 2147483648)).mpr (by omega)⟩
  refine AM.of (loc := [.ref 0, .int (nI p), .int (nI w)]) RX10 rfl (by decide +kernel) (Nat.le_of_ble_eq_true rfl) rfl ?_
  refine aw_aload_0 dX10_about_0 ?_
  refine aw_iload_1 dX10_about_1 ?_
  refine ce_X10_96 dX10_about_2 rfl (k_X10_isPerson rd pl pc ra up f0 su nn wk ki we ow fr of oc oa ob os K x (nI p) hn) ?_
  refine aw_if_ne 13 dX10_about_5 (by decide) (fun _ => ?_) (fun hh => absurd hh (bI_n (hs_of hp (by omega))))
  refine aw_iload_2 dX10_about_13 ?_
  refine ak_iconst_0 dX10_about_14 ?_
  refine ak_iconst_5 dX10_about_15 ?_
  refine ce_X10_69 dX10_about_16 (k_X10_within _ (nI w) 0 5) ?_
  refine aw_if_eq 31 dX10_about_19 (by decide) (fun hh => absurd hh (bI_n hw2)) (fun _ => ?_)
  refine aw_aload_0 dX10_about_22 ?_
  refine aw_iload_1 dX10_about_23 ?_
  refine aw_iload_2 dX10_about_24 ?_
  refine ce_X10_113 dX10_about_25 rfl (k_X10_personNow rd pl pc ra up f0 su nn wk ki we ow fr of oc oa ob os K x p w (by omega) hn hw) ?_
  refine aw_goto 33 dX10_about_28 (by decide) ?_
  exact aw_iret dX10_about_33 rfl (⟨rfl, rfl⟩)
theorem m_as_no (rd : Int32) (pl : Nat) (pc : Nat → Nat) (ra up f0 su nn : Nat) (wk : Int32) (ki we ow fr of : Nat → Nat) (oc : Nat) (oa ob os : Nat → Nat) (K : mk_T) (x : ms_T) (a k : Int32) (hn : nn ≤ 5) (h : ¬ hs_P nn a) : AM 8 yX10_as cX10_as 4 (some .int) [.ref 0, .int a, .int k] (mw_M (rd, (pl, pc), (ra, up, f0, su, nn, wk), ki, (we, ow, fr, of), (oc, oa, ob, os)) K x) (ac_R (some (.int (-101))) (mw_M (rd, (pl, pc), (ra, up, f0, su, nn, wk), ki, (we, ow, fr, of), (oc, oa, ob, os)) K x)) := by
  refine AM.of (loc := [.ref 0, .int a, .int k, .null]) RX10 rfl (by decide +kernel) (Nat.le_of_ble_eq_true rfl) rfl ?_
  refine aw_aload_0 dX10_as_0 ?_
  refine aw_iload_1 dX10_as_1 ?_
  refine ce_X10_96 dX10_as_2 rfl (k_X10_isPerson rd pl pc ra up f0 su nn wk ki we ow fr of oc oa ob os K x a hn) ?_
  refine aw_if_ne 11 dX10_as_5 (by decide) (fun hh => absurd (bI_f h) hh) (fun _ => ?_)
  refine ak_bipush_m101 dX10_as_8 ?_
  exact aw_iret dX10_as_10 rfl (⟨rfl, rfl⟩)
theorem m_as_out (rd : Int32) (pl : Nat) (pc : Nat → Nat) (ra up f0 su nn : Nat) (wk : Int32) (ki we ow fr of : Nat → Nat) (oc : Nat) (oa ob os : Nat → Nat) (K : mk_T) (x : ms_T) (a k : Int32) (hn : nn ≤ 5) (h : hs_P nn a) (hk : ¬ (0 ≤ k ∧ k ≤ 4)) : AM 8 yX10_as cX10_as 4 (some .int) [.ref 0, .int a, .int k] (mw_M (rd, (pl, pc), (ra, up, f0, su, nn, wk), ki, (we, ow, fr, of), (oc, oa, ob, os)) K x) (ac_R (some (.int (-102))) (mw_M (rd, (pl, pc), (ra, up, f0, su, nn, wk), ki, (we, ow, fr, of), (oc, oa, ob, os)) K x)) := by
  refine AM.of (loc := [.ref 0, .int a, .int k, .null]) RX10 rfl (by decide +kernel) (Nat.le_of_ble_eq_true rfl) rfl ?_
  refine aw_aload_0 dX10_as_0 ?_
  refine aw_iload_1 dX10_as_1 ?_
  refine ce_X10_96 dX10_as_2 rfl (k_X10_isPerson rd pl pc ra up f0 su nn wk ki we ow fr of oc oa ob os K x a hn) ?_
  refine aw_if_ne 11 dX10_as_5 (by decide) (fun _ => ?_) (fun hh => absurd hh (bI_n h))
  refine aw_iload_2 dX10_as_11 ?_
  refine ak_iconst_0 dX10_as_12 ?_
  refine ak_iconst_4 dX10_as_13 ?_
  refine ce_X10_69 dX10_as_14 (k_X10_within _ k 0 4) ?_
  refine aw_if_ne 23 dX10_as_17 (by decide) (fun hh => absurd (bI_f hk) hh) (fun _ => ?_)
  refine ak_bipush_m102 dX10_as_20 ?_
  exact aw_iret dX10_as_22 rfl (⟨rfl, rfl⟩)
theorem m_as_ok (rd : Int32) (pl : Nat) (pc : Nat → Nat) (ra up f0 su nn : Nat) (wk : Int32) (ki we ow fr of : Nat → Nat) (oc : Nat) (oa ob os : Nat → Nat) (K : mk_T) (x : ms_T) (p k : Nat) (hn : nn ≤ 5) (hp : p < nn) (hki : ki p ≤ 4) (hk : k < 5) : AM 8 yX10_as cX10_as 4 (some .int) [.ref 0, .int (nI p), .int (nI k)] (mw_M (rd, (pl, pc), (ra, up, f0, su, nn, wk), ki, (we, ow, fr, of), (oc, oa, ob, os)) K x) (ac_R (some (.int (if k = ki p ∨ k = 0 ∨ (ki p = 4 ∧ k = 3) then nI p else -1))) (mw_M (rd, (pl, pc), (ra, up, f0, su, nn, wk), ki, (we, ow, fr, of), (oc, oa, ob, os)) K x)) := by
  have hk2 : (0 : Int32) ≤ nI k ∧ nI k ≤ 4 := ⟨nI_pos' (show k < 2 ^ 31 by omega), (nI_leI (by omega) (by decide : (4 : Nat) < 2147483648)).mpr (by omega)⟩
  refine AM.of (loc := [.ref 0, .int (nI p), .int (nI k), .null]) RX10 rfl (by decide +kernel) (Nat.le_of_ble_eq_true rfl) rfl ?_
  refine aw_aload_0 dX10_as_0 ?_
  refine aw_iload_1 dX10_as_1 ?_
  refine ce_X10_96 dX10_as_2 rfl (k_X10_isPerson rd pl pc ra up f0 su nn wk ki we ow fr of oc oa ob os K x (nI p) hn) ?_
  refine aw_if_ne 11 dX10_as_5 (by decide) (fun _ => ?_) (fun hh => absurd hh (bI_n (hs_of hp (by omega))))
  refine aw_iload_2 dX10_as_11 ?_
  refine ak_iconst_0 dX10_as_12 ?_
  refine ak_iconst_4 dX10_as_13 ?_
  refine ce_X10_69 dX10_as_14 (k_X10_within _ (nI k) 0 4) ?_
  refine aw_if_ne 23 dX10_as_17 (by decide) (fun _ => ?_) (fun hh => absurd hh (bI_n hk2))
  refine aw_aload_0 dX10_as_23 ?_
  refine gf_X10_16 dX10_as_24 rfl rfl ?_
  refine aw_iload_1 dX10_as_27 ?_
  refine aw_ialdN dX10_as_28 rfl (by omega) ?_
  refine aw_istore_3 dX10_as_29 rfl (Nat.le_of_ble_eq_true rfl) ?_
  refine aw_iload_2 dX10_as_30 ?_
  refine aw_if_eqN 49 dX10_as_31 (by decide) (by omega) (fun q0 => ?_) (fun q0 => ?_)
  · rw [if_pos (Or.inr (Or.inl q0))]
    refine aw_iload_1 dX10_as_49 ?_
    refine aw_goto 54 dX10_as_50 (by decide) ?_
    exact aw_iret dX10_as_54 rfl (⟨rfl, rfl⟩)
  refine aw_iload_3 dX10_as_34 ?_
  refine aw_iload_2 dX10_as_35 ?_
  refine aw_icmp_eqN 49 dX10_as_36 (by decide) (by omega) (by omega) (fun q1 => ?_) (fun q1 => ?_)
  · rw [if_pos (Or.inl q1.symm)]
    refine aw_iload_1 dX10_as_49 ?_
    refine aw_goto 54 dX10_as_50 (by decide) ?_
    exact aw_iret dX10_as_54 rfl (⟨rfl, rfl⟩)
  refine aw_iload_2 dX10_as_39 ?_
  refine akN_iconst_3 dX10_as_40 ?_
  refine aw_icmp_neN 53 dX10_as_41 (by decide) (by omega) (by omega) (fun q2 => ?_) (fun q2 => ?_)
  · rw [if_neg (by omega)]
    refine ak_iconst_m1 dX10_as_53 ?_
    exact aw_iret dX10_as_54 rfl (⟨rfl, rfl⟩)
  refine aw_iload_3 dX10_as_44 ?_
  refine akN_iconst_4 dX10_as_45 ?_
  refine aw_icmp_neN 53 dX10_as_46 (by decide) (by omega) (by omega) (fun q3 => ?_) (fun q3 => ?_)
  · rw [if_neg (by omega)]
    refine ak_iconst_m1 dX10_as_53 ?_
    exact aw_iret dX10_as_54 rfl (⟨rfl, rfl⟩)
  rw [if_pos (Or.inr (Or.inr ⟨q3, q2⟩))]
  refine aw_iload_1 dX10_as_49 ?_
  refine aw_goto 54 dX10_as_50 (by decide) ?_
  exact aw_iret dX10_as_54 rfl (⟨rfl, rfl⟩)
theorem k_X10_betweenNow (rd : Int32) (pl : Nat) (pc : Nat → Nat) (ra up f0 su nn : Nat) (wk : Int32) (ki we ow fr of : Nat → Nat) (oc : Nat) (oa ob os : Nat → Nat) (K : mk_T) (x : ms_T) (p q w : Nat) (hp : p < 5) (hq : q < 5) (hw : w < 3) : AM 1 yX10_betweenNow cX10_betweenNow 5 (some .int) [.ref 0, .int (nI p), .int (nI q), .int (nI w)] (mw_M (rd, (pl, pc), (ra, up, f0, su, nn, wk), ki, (we, ow, fr, of), (oc, oa, ob, os)) K x) (ac_R (some (.int (bw_I ow fr of (5 * p + q) w))) (mw_M (rd, (pl, pc), (ra, up, f0, su, nn, wk), ki, (we, ow, fr, of), (oc, oa, ob, os)) K x)) := by
  refine AM.of (loc := [.ref 0, .int (nI p), .int (nI q), .int (nI w), .null]) RX10 rfl (by decide +kernel) (Nat.le_of_ble_eq_true rfl) rfl ?_
  refine akN_iconst_5 dX10_betweenNow_0 ?_
  refine aw_iload_1 dX10_betweenNow_1 ?_
  refine aw_imulN dX10_betweenNow_2 ?_
  refine aw_iload_2 dX10_betweenNow_3 ?_
  refine aw_iaddN dX10_betweenNow_4 ?_
  refine aw_istore_4 dX10_betweenNow_5 rfl (Nat.le_of_ble_eq_true rfl) ?_
  refine aw_iload_3 dX10_betweenNow_7 ?_
  match w, hw with
  | 0, _ =>
    refine aw_if_neN 21 dX10_betweenNow_8 (by decide) (by omega) (fun hh => absurd hh (by omega)) (fun _ => ?_)
    refine aw_aload_0 dX10_betweenNow_11 ?_
    refine gf_X10_23 dX10_betweenNow_12 rfl rfl ?_
    refine aw_iload_4 dX10_betweenNow_15 ?_
    refine aw_ialdN dX10_betweenNow_17 rfl (by omega) ?_
    refine aw_goto 43 dX10_betweenNow_18 (by decide) ?_
    exact aw_iret dX10_betweenNow_43 rfl (⟨rfl, rfl⟩)
  | 1, _ =>
    refine aw_if_neN 21 dX10_betweenNow_8 (by decide) (by omega) (fun _ => ?_) (fun hh => absurd hh (by omega))
    refine aw_iload_3 dX10_betweenNow_21 ?_
    refine akN_iconst_1 dX10_betweenNow_22 ?_
    refine aw_icmp_neN 36 dX10_betweenNow_23 (by decide) (by omega) (by omega) (fun hh => absurd hh (by omega)) (fun _ => ?_)
    refine aw_aload_0 dX10_betweenNow_26 ?_
    refine gf_X10_26 dX10_betweenNow_27 rfl rfl ?_
    refine aw_iload_4 dX10_betweenNow_30 ?_
    refine aw_ialdN dX10_betweenNow_32 rfl (by omega) ?_
    refine aw_goto 43 dX10_betweenNow_33 (by decide) ?_
    exact aw_iret dX10_betweenNow_43 rfl (⟨rfl, rfl⟩)
  | 2, _ =>
    refine aw_if_neN 21 dX10_betweenNow_8 (by decide) (by omega) (fun _ => ?_) (fun hh => absurd hh (by omega))
    refine aw_iload_3 dX10_betweenNow_21 ?_
    refine akN_iconst_1 dX10_betweenNow_22 ?_
    refine aw_icmp_neN 36 dX10_betweenNow_23 (by decide) (by omega) (by omega) (fun _ => ?_) (fun hh => absurd hh (by omega))
    refine aw_aload_0 dX10_betweenNow_36 ?_
    refine gf_X10_29 dX10_betweenNow_37 rfl rfl ?_
    refine aw_iload_4 dX10_betweenNow_40 ?_
    refine aw_ialdN dX10_betweenNow_42 rfl (by omega) ?_
    exact aw_iret dX10_betweenNow_43 rfl (⟨rfl, rfl⟩)
theorem m_between_no (rd : Int32) (pl : Nat) (pc : Nat → Nat) (ra up f0 su nn : Nat) (wk : Int32) (ki we ow fr of : Nat → Nat) (oc : Nat) (oa ob os : Nat → Nat) (K : mk_T) (x : ms_T) (a b w : Int32) (hn : nn ≤ 5) (h : ¬ hb_P nn a b) : AM 8 yX10_between cX10_between 4 (some .int) [.ref 0, .int a, .int b, .int w] (mw_M (rd, (pl, pc), (ra, up, f0, su, nn, wk), ki, (we, ow, fr, of), (oc, oa, ob, os)) K x) (ac_R (some (.int (-101))) (mw_M (rd, (pl, pc), (ra, up, f0, su, nn, wk), ki, (we, ow, fr, of), (oc, oa, ob, os)) K x)) := by
  refine AM.of (loc := [.ref 0, .int a, .int b, .int w]) RX10 rfl (by decide +kernel) (Nat.le_of_ble_eq_true rfl) rfl ?_
  refine aw_aload_0 dX10_between_0 ?_
  refine aw_iload_1 dX10_between_1 ?_
  refine aw_iload_2 dX10_between_2 ?_
  refine ce_X10_116 dX10_between_3 rfl (k_X10_areTwo rd pl pc ra up f0 su nn wk ki we ow fr of oc oa ob os K x a b hn) ?_
  refine aw_if_ne 12 dX10_between_6 (by decide) (fun hh => absurd (bI_f h) hh) (fun _ => ?_)
  refine ak_bipush_m101 dX10_between_9 ?_
  exact aw_iret dX10_between_11 rfl (⟨rfl, rfl⟩)
theorem m_between_out (rd : Int32) (pl : Nat) (pc : Nat → Nat) (ra up f0 su nn : Nat) (wk : Int32) (ki we ow fr of : Nat → Nat) (oc : Nat) (oa ob os : Nat → Nat) (K : mk_T) (x : ms_T) (a b w : Int32) (hn : nn ≤ 5) (h : hb_P nn a b) (hw : ¬ (0 ≤ w ∧ w ≤ 2)) : AM 8 yX10_between cX10_between 4 (some .int) [.ref 0, .int a, .int b, .int w] (mw_M (rd, (pl, pc), (ra, up, f0, su, nn, wk), ki, (we, ow, fr, of), (oc, oa, ob, os)) K x) (ac_R (some (.int (-102))) (mw_M (rd, (pl, pc), (ra, up, f0, su, nn, wk), ki, (we, ow, fr, of), (oc, oa, ob, os)) K x)) := by
  refine AM.of (loc := [.ref 0, .int a, .int b, .int w]) RX10 rfl (by decide +kernel) (Nat.le_of_ble_eq_true rfl) rfl ?_
  refine aw_aload_0 dX10_between_0 ?_
  refine aw_iload_1 dX10_between_1 ?_
  refine aw_iload_2 dX10_between_2 ?_
  refine ce_X10_116 dX10_between_3 rfl (k_X10_areTwo rd pl pc ra up f0 su nn wk ki we ow fr of oc oa ob os K x a b hn) ?_
  refine aw_if_ne 12 dX10_between_6 (by decide) (fun _ => ?_) (fun hh => absurd hh (bI_n h))
  refine aw_iload_3 dX10_between_12 ?_
  refine ak_iconst_0 dX10_between_13 ?_
  refine ak_iconst_2 dX10_between_14 ?_
  refine ce_X10_69 dX10_between_15 (k_X10_within _ w 0 2) ?_
  refine aw_if_eq 31 dX10_between_18 (by decide) (fun _ => ?_) (fun hh => absurd (bI_f hw) hh)
  refine ak_bipush_m102 dX10_between_31 ?_
  exact aw_iret dX10_between_33 rfl (⟨rfl, rfl⟩)
theorem m_between_ok (rd : Int32) (pl : Nat) (pc : Nat → Nat) (ra up f0 su nn : Nat) (wk : Int32) (ki we ow fr of : Nat → Nat) (oc : Nat) (oa ob os : Nat → Nat) (K : mk_T) (x : ms_T) (p q w : Nat) (hn : nn ≤ 5) (hp : p < 5) (hq : q < 5) (h : hb_P nn (nI p) (nI q)) (hw : w < 3) : AM 8 yX10_between cX10_between 4 (some .int) [.ref 0, .int (nI p), .int (nI q), .int (nI w)] (mw_M (rd, (pl, pc), (ra, up, f0, su, nn, wk), ki, (we, ow, fr, of), (oc, oa, ob, os)) K x) (ac_R (some (.int (bw_I ow fr of (5 * p + q) w))) (mw_M (rd, (pl, pc), (ra, up, f0, su, nn, wk), ki, (we, ow, fr, of), (oc, oa, ob, os)) K x)) := by
  have hw2 : (0 : Int32) ≤ nI w ∧ nI w ≤ 2 := ⟨nI_pos' (show w < 2 ^ 31 by omega), (nI_leI (by omega) (by decide : (2 : Nat) < 2147483648)).mpr (by omega)⟩
  refine AM.of (loc := [.ref 0, .int (nI p), .int (nI q), .int (nI w)]) RX10 rfl (by decide +kernel) (Nat.le_of_ble_eq_true rfl) rfl ?_
  refine aw_aload_0 dX10_between_0 ?_
  refine aw_iload_1 dX10_between_1 ?_
  refine aw_iload_2 dX10_between_2 ?_
  refine ce_X10_116 dX10_between_3 rfl (k_X10_areTwo rd pl pc ra up f0 su nn wk ki we ow fr of oc oa ob os K x (nI p) (nI q) hn) ?_
  refine aw_if_ne 12 dX10_between_6 (by decide) (fun _ => ?_) (fun hh => absurd hh (bI_n h))
  refine aw_iload_3 dX10_between_12 ?_
  refine ak_iconst_0 dX10_between_13 ?_
  refine ak_iconst_2 dX10_between_14 ?_
  refine ce_X10_69 dX10_between_15 (k_X10_within _ (nI w) 0 2) ?_
  refine aw_if_eq 31 dX10_between_18 (by decide) (fun hh => absurd hh (bI_n hw2)) (fun _ => ?_)
  refine aw_aload_0 dX10_between_21 ?_
  refine aw_iload_1 dX10_between_22 ?_
  refine aw_iload_2 dX10_between_23 ?_
  refine aw_iload_3 dX10_between_24 ?_
  refine ce_X10_120 dX10_between_25 rfl (k_X10_betweenNow rd pl pc ra up f0 su nn wk ki we ow fr of oc oa ob os K x p q w hp hq hw) ?_
  refine aw_goto 33 dX10_between_28 (by decide) ?_
  exact aw_iret dX10_between_33 rfl (⟨rfl, rfl⟩)
theorem k_X10_neverThanks (rd : Int32) (pl : Nat) (pc : Nat → Nat) (ra up f0 su nn : Nat) (wk : Int32) (ki we ow fr of : Nat → Nat) (oc : Nat) (oa ob os : Nat → Nat) (K : mk_T) (x : ms_T) (p : Nat) (hp : p < 5) (hk : ki p ≤ 4) : AM 1 yX10_neverThanks cX10_neverThanks 2 (some .boolean) [.ref 0, .int (nI p)] (mw_M (rd, (pl, pc), (ra, up, f0, su, nn, wk), ki, (we, ow, fr, of), (oc, oa, ob, os)) K x) (ac_R (some (.int (bI (3 ≤ ki p)))) (mw_M (rd, (pl, pc), (ra, up, f0, su, nn, wk), ki, (we, ow, fr, of), (oc, oa, ob, os)) K x)) := by
  refine AM.of (loc := [.ref 0, .int (nI p)]) RX10 rfl (by decide +kernel) (Nat.le_of_ble_eq_true rfl) rfl ?_
  refine aw_aload_0 dX10_neverThanks_0 ?_
  refine gf_X10_16 dX10_neverThanks_1 rfl rfl ?_
  refine aw_iload_1 dX10_neverThanks_4 ?_
  refine aw_ialdN dX10_neverThanks_5 rfl hp ?_
  refine akN_iconst_3 dX10_neverThanks_6 ?_
  refine aw_icmp_eqN 20 dX10_neverThanks_7 (by decide) (by omega) (by omega) (fun q => ?_) (fun q => ?_)
  · refine ak_iconst_1 dX10_neverThanks_20 ?_
    refine aw_goto 25 dX10_neverThanks_21 (by decide) ?_
    exact aw_zret dX10_neverThanks_25 rfl (rfl) (⟨by rw [bI_t (by omega)], rfl⟩)
  refine aw_aload_0 dX10_neverThanks_10 ?_
  refine gf_X10_16 dX10_neverThanks_11 rfl rfl ?_
  refine aw_iload_1 dX10_neverThanks_14 ?_
  refine aw_ialdN dX10_neverThanks_15 rfl hp ?_
  refine akN_iconst_4 dX10_neverThanks_16 ?_
  refine aw_icmp_neN 24 dX10_neverThanks_17 (by decide) (by omega) (by omega) (fun q2 => ?_) (fun q2 => ?_)
  · refine ak_iconst_0 dX10_neverThanks_24 ?_
    exact aw_zret dX10_neverThanks_25 rfl (rfl) (⟨by rw [bI_f (by omega)], rfl⟩)
  refine ak_iconst_1 dX10_neverThanks_20 ?_
  refine aw_goto 25 dX10_neverThanks_21 (by decide) ?_
  exact aw_zret dX10_neverThanks_25 rfl (rfl) (⟨by rw [bI_t (by omega)], rfl⟩)
theorem k_X10_thank (rd : Int32) (pl : Nat) (pc : Nat → Nat) (ra up f0 su nn : Nat) (wk : Int32) (ki we ow fr of : Nat → Nat) (oc : Nat) (oa ob os : Nat → Nat) (K : mk_T) (x : ms_T) (b p q z : Nat) (hb : b ≤ 25) (hp : p < 5) (hq : q < 5) (hz : z ≤ 999) (ho : ow (b + (5 * p + q)) ≤ 9999) (hf : fr (b + (5 * p + q)) ≤ 9) (hf0 : f0 ≤ 9) : AM 2 yX10_thank cX10_thank 6 none [.ref 0, .int (nI b), .int (nI p), .int (nI q), .int (nI z)] (mw_M (rd, (pl, pc), (ra, up, f0, su, nn, wk), ki, (we, ow, fr, of), (oc, oa, ob, os)) K x) (ac_R none (mw_M (rd, (pl, pc), (ra, up, f0, su, nn, wk), ki, (we, va_up ow (b + (5 * p + q)) (min 9999 (ow (b + (5 * p + q)) + z)), va_up fr (b + (5 * p + q)) (max (fr (b + (5 * p + q))) f0), of), (oc, oa, ob, os)) K x)) := by
  refine AM.of (loc := [.ref 0, .int (nI b), .int (nI p), .int (nI q), .int (nI z), .null]) RX10 rfl (by decide +kernel) (Nat.le_of_ble_eq_true rfl) rfl ?_
  refine aw_iload_1 dX10_thank_0 ?_
  refine akN_iconst_5 dX10_thank_1 ?_
  refine aw_iload_2 dX10_thank_2 ?_
  refine aw_imulN dX10_thank_3 ?_
  refine aw_iaddN dX10_thank_4 ?_
  refine aw_iload_3 dX10_thank_5 ?_
  refine aw_iaddN dX10_thank_6 ?_
  refine aw_topi (congrArg nI (Nat.add_assoc b (5 * p) q)) ?_
  refine aw_istore_5 dX10_thank_7 rfl (Nat.le_of_ble_eq_true rfl) ?_
  refine aw_aload_0 dX10_thank_9 ?_
  refine gf_X10_23 dX10_thank_10 rfl rfl ?_
  refine aw_iload_5 dX10_thank_13 ?_
  refine aw_aload_0 dX10_thank_15 ?_
  refine gf_X10_23 dX10_thank_16 rfl rfl ?_
  refine aw_iload_5 dX10_thank_19 ?_
  refine aw_ialdN dX10_thank_21 rfl (by omega) ?_
  refine aw_iload_4 dX10_thank_22 ?_
  refine aw_iaddN dX10_thank_24 ?_
  refine akN_sipush_9999 dX10_thank_25 ?_
  refine ce_X10_124 dX10_thank_28 (k_X10_less _ (ow (b + (5 * p + q)) + z) 9999 (by omega) (by omega)) ?_
  rw [Nat.min_comm (ow (b + (5 * p + q)) + z) 9999]
  refine aw_iastN dX10_thank_31 rfl (by omega) ?_
  refine aw_w cm_3 ?_
  refine aw_aload_0 dX10_thank_32 ?_
  refine gf_X10_26 dX10_thank_33 rfl rfl ?_
  refine aw_iload_5 dX10_thank_36 ?_
  refine aw_aload_0 dX10_thank_38 ?_
  refine gf_X10_26 dX10_thank_39 rfl rfl ?_
  refine aw_iload_5 dX10_thank_42 ?_
  refine aw_ialdN dX10_thank_44 rfl (by omega) ?_
  refine aw_aload_0 dX10_thank_45 ?_
  refine gf_X10_84 dX10_thank_46 rfl rfl ?_
  refine ce_X10_127 dX10_thank_49 (k_X10_more _ (fr (b + (5 * p + q))) f0 (by omega) (by omega)) ?_
  refine aw_iastN dX10_thank_52 rfl (by omega) ?_
  refine aw_w cm_4 ?_
  exact aw_vret dX10_thank_53 rfl (⟨rfl, rfl⟩)
theorem k_X10_grunt (rd : Int32) (pl : Nat) (pc : Nat → Nat) (ra up f0 su nn : Nat) (wk : Int32) (ki we ow fr of : Nat → Nat) (oc : Nat) (oa ob os : Nat → Nat) (K : mk_T) (x : ms_T) (b p q : Nat) (hb : b ≤ 25) (hp : p < 5) (hq : q < 5) (hk : ki q ≤ 4) (ho : of (b + (5 * q + p)) ≤ 9) (hsu : su ≤ 9) : AM 2 yX10_grunt cX10_grunt 5 none [.ref 0, .int (nI b), .int (nI p), .int (nI q)] (mw_M (rd, (pl, pc), (ra, up, f0, su, nn, wk), ki, (we, ow, fr, of), (oc, oa, ob, os)) K x) (ac_R none (mw_M (rd, (pl, pc), (ra, up, f0, su, nn, wk), ki, (we, ow, fr, va_up of (b + (5 * q + p)) (if ki q < 4 then max (of (b + (5 * q + p))) su else of (b + (5 * q + p)))), (oc, oa, ob, os)) K x)) := by
  refine AM.of (loc := [.ref 0, .int (nI b), .int (nI p), .int (nI q), .null]) RX10 rfl (by decide +kernel) (Nat.le_of_ble_eq_true rfl) rfl ?_
  refine aw_iload_1 dX10_grunt_0 ?_
  refine akN_iconst_5 dX10_grunt_1 ?_
  refine aw_iload_3 dX10_grunt_2 ?_
  refine aw_imulN dX10_grunt_3 ?_
  refine aw_iaddN dX10_grunt_4 ?_
  refine aw_iload_2 dX10_grunt_5 ?_
  refine aw_iaddN dX10_grunt_6 ?_
  refine aw_topi (congrArg nI (Nat.add_assoc b (5 * q) p)) ?_
  refine aw_istore_4 dX10_grunt_7 rfl (Nat.le_of_ble_eq_true rfl) ?_
  refine aw_aload_0 dX10_grunt_9 ?_
  refine gf_X10_29 dX10_grunt_10 rfl rfl ?_
  refine aw_iload_4 dX10_grunt_13 ?_
  refine aw_aload_0 dX10_grunt_15 ?_
  refine gf_X10_16 dX10_grunt_16 rfl rfl ?_
  refine aw_iload_3 dX10_grunt_19 ?_
  refine aw_ialdN dX10_grunt_20 rfl hq ?_
  refine akN_iconst_4 dX10_grunt_21 ?_
  refine aw_icmp_neN 35 dX10_grunt_22 (by decide) (by omega) (by omega) (fun h1 => ?_) (fun h1 => ?_)
  · rw [if_pos (show ki q < 4 by omega)]
    refine aw_aload_0 dX10_grunt_35 ?_
    refine gf_X10_29 dX10_grunt_36 rfl rfl ?_
    refine aw_iload_4 dX10_grunt_39 ?_
    refine aw_ialdN dX10_grunt_41 rfl (by omega) ?_
    refine aw_aload_0 dX10_grunt_42 ?_
    refine gf_X10_87 dX10_grunt_43 rfl rfl ?_
    refine ce_X10_127 dX10_grunt_46 (k_X10_more _ (of (b + (5 * q + p))) su (by omega) (by omega)) ?_
    refine aw_iastN dX10_grunt_49 rfl (by omega) ?_
    refine aw_w cm_5 ?_
    exact aw_vret dX10_grunt_50 rfl (⟨rfl, rfl⟩)
  rw [if_neg (show ¬ ki q < 4 by omega)]
  refine aw_aload_0 dX10_grunt_25 ?_
  refine gf_X10_29 dX10_grunt_26 rfl rfl ?_
  refine aw_iload_4 dX10_grunt_29 ?_
  refine aw_ialdN dX10_grunt_31 rfl (by omega) ?_
  refine aw_goto 49 dX10_grunt_32 (by decide) ?_
  refine aw_iastN dX10_grunt_49 rfl (by omega) ?_
  refine aw_w cm_5 ?_
  exact aw_vret dX10_grunt_50 rfl (⟨rfl, rfl⟩)
theorem m_favour_no (rd : Int32) (pl : Nat) (pc : Nat → Nat) (ra up f0 su nn : Nat) (wk : Int32) (ki we ow fr of : Nat → Nat) (oc : Nat) (oa ob os : Nat → Nat) (K : mk_T) (x : ms_T) (a b z th : Int32) (hn : nn ≤ 5) (h : ¬ hb_P nn a b) : AM 8 yX10_favour cX10_favour 5 (some .int) [.ref 0, .int a, .int b, .int z, .int th] (mw_M (rd, (pl, pc), (ra, up, f0, su, nn, wk), ki, (we, ow, fr, of), (oc, oa, ob, os)) K x) (ac_R (some (.int (-101))) (mw_M (rd, (pl, pc), (ra, up, f0, su, nn, wk), ki, (we, ow, fr, of), (oc, oa, ob, os)) K x)) := by
  refine AM.of (loc := [.ref 0, .int a, .int b, .int z, .int th]) RX10 rfl (by decide +kernel) (Nat.le_of_ble_eq_true rfl) rfl ?_
  refine aw_aload_0 dX10_favour_0 ?_
  refine aw_iload_1 dX10_favour_1 ?_
  refine aw_iload_2 dX10_favour_2 ?_
  refine ce_X10_116 dX10_favour_3 rfl (k_X10_areTwo rd pl pc ra up f0 su nn wk ki we ow fr of oc oa ob os K x a b hn) ?_
  refine aw_if_ne 12 dX10_favour_6 (by decide) (fun hh => absurd (bI_f h) hh) (fun _ => ?_)
  refine ak_bipush_m101 dX10_favour_9 ?_
  exact aw_iret dX10_favour_11 rfl (⟨rfl, rfl⟩)
theorem m_favour_out (rd : Int32) (pl : Nat) (pc : Nat → Nat) (ra up f0 su nn : Nat) (wk : Int32) (ki we ow fr of : Nat → Nat) (oc : Nat) (oa ob os : Nat → Nat) (K : mk_T) (x : ms_T) (a b z th : Int32) (hn : nn ≤ 5) (h : hb_P nn a b) (hz : ¬ (1 ≤ z ∧ z ≤ 99)) : AM 8 yX10_favour cX10_favour 5 (some .int) [.ref 0, .int a, .int b, .int z, .int th] (mw_M (rd, (pl, pc), (ra, up, f0, su, nn, wk), ki, (we, ow, fr, of), (oc, oa, ob, os)) K x) (ac_R (some (.int (-102))) (mw_M (rd, (pl, pc), (ra, up, f0, su, nn, wk), ki, (we, ow, fr, of), (oc, oa, ob, os)) K x)) := by
  refine AM.of (loc := [.ref 0, .int a, .int b, .int z, .int th]) RX10 rfl (by decide +kernel) (Nat.le_of_ble_eq_true rfl) rfl ?_
  refine aw_aload_0 dX10_favour_0 ?_
  refine aw_iload_1 dX10_favour_1 ?_
  refine aw_iload_2 dX10_favour_2 ?_
  refine ce_X10_116 dX10_favour_3 rfl (k_X10_areTwo rd pl pc ra up f0 su nn wk ki we ow fr of oc oa ob os K x a b hn) ?_
  refine aw_if_ne 12 dX10_favour_6 (by decide) (fun _ => ?_) (fun hh => absurd hh (bI_n h))
  refine aw_iload_3 dX10_favour_12 ?_
  refine ak_iconst_1 dX10_favour_13 ?_
  refine ak_bipush_99 dX10_favour_14 ?_
  refine ce_X10_69 dX10_favour_16 (k_X10_within _ z 1 99) ?_
  refine aw_if_ne 25 dX10_favour_19 (by decide) (fun hh => absurd (bI_f hz) hh) (fun _ => ?_)
  refine ak_bipush_m102 dX10_favour_22 ?_
  exact aw_iret dX10_favour_24 rfl (⟨rfl, rfl⟩)
theorem m_favour_st (rd : Int32) (pl : Nat) (pc : Nat → Nat) (ra up f0 su nn : Nat) (wk : Int32) (ki we ow fr of : Nat → Nat) (oc : Nat) (oa ob os : Nat → Nat) (K : mk_T) (x : ms_T) (a b : Nat) (z : Int32) (tk : Prop) [Decidable tk] (hn : nn ≤ 5) (ha : a < 5) (hb : b < 5) (h : hb_P nn (nI a) (nI b)) (hz : 1 ≤ z ∧ z ≤ 99) (ho : of (5 * a + b) ≤ 9) (hki : ki b ≤ 4) (hs : 0 < of (5 * a + b) ∨ (tk ∧ 3 ≤ ki b)) : AM 8 yX10_favour cX10_favour 5 (some .int) [.ref 0, .int (nI a), .int (nI b), .int z, .int (bI tk)] (mw_M (rd, (pl, pc), (ra, up, f0, su, nn, wk), ki, (we, ow, fr, of), (oc, oa, ob, os)) K x) (ac_R (some (.int (-103))) (mw_M (rd, (pl, pc), (ra, up, f0, su, nn, wk), ki, (we, ow, fr, of), (oc, oa, ob, os)) K x)) := by
  refine AM.of (loc := [.ref 0, .int (nI a), .int (nI b), .int z, .int (bI tk)]) RX10 rfl (by decide +kernel) (Nat.le_of_ble_eq_true rfl) rfl ?_
  refine aw_aload_0 dX10_favour_0 ?_
  refine aw_iload_1 dX10_favour_1 ?_
  refine aw_iload_2 dX10_favour_2 ?_
  refine ce_X10_116 dX10_favour_3 rfl (k_X10_areTwo rd pl pc ra up f0 su nn wk ki we ow fr of oc oa ob os K x (nI a) (nI b) hn) ?_
  refine aw_if_ne 12 dX10_favour_6 (by decide) (fun _ => ?_) (fun hh => absurd hh (bI_n h))
  refine aw_iload_3 dX10_favour_12 ?_
  refine ak_iconst_1 dX10_favour_13 ?_
  refine ak_bipush_99 dX10_favour_14 ?_
  refine ce_X10_69 dX10_favour_16 (k_X10_within _ z 1 99) ?_
  refine aw_if_ne 25 dX10_favour_19 (by decide) (fun _ => ?_) (fun hh => absurd hh (bI_n hz))
  refine aw_aload_0 dX10_favour_25 ?_
  refine gf_X10_29 dX10_favour_26 rfl rfl ?_
  refine akN_iconst_5 dX10_favour_29 ?_
  refine aw_iload_1 dX10_favour_30 ?_
  refine aw_imulN dX10_favour_31 ?_
  refine aw_iload_2 dX10_favour_32 ?_
  refine aw_iaddN dX10_favour_33 ?_
  refine aw_ialdN dX10_favour_34 rfl (by omega) ?_
  refine aw_if_gtN 51 dX10_favour_35 (by decide) (by omega) (fun q => ?_) (fun q => ?_)
  · refine ak_bipush_m103 dX10_favour_51 ?_
    exact aw_iret dX10_favour_53 rfl (⟨rfl, rfl⟩)
  obtain ⟨q1, q2⟩ : tk ∧ 3 ≤ ki b := by rcases hs with z | z; exact absurd z (by omega); exact z
  refine aw_iload_4 dX10_favour_38 ?_
  refine aw_if_eq 54 dX10_favour_40 (by decide) (fun hh => absurd hh (bI_n q1)) (fun _ => ?_)
  refine aw_aload_0 dX10_favour_43 ?_
  refine aw_iload_2 dX10_favour_44 ?_
  refine ce_X10_130 dX10_favour_45 rfl (k_X10_neverThanks rd pl pc ra up f0 su nn wk ki we ow fr of oc oa ob os K x b hb hki) ?_
  refine aw_if_eq 54 dX10_favour_48 (by decide) (fun hh => absurd hh (bI_n q2)) (fun _ => ?_)
  refine ak_bipush_m103 dX10_favour_51 ?_
  exact aw_iret dX10_favour_53 rfl (⟨rfl, rfl⟩)
theorem m_favour_th (rd : Int32) (pl : Nat) (pc : Nat → Nat) (ra up f0 su nn : Nat) (wk : Int32) (ki we ow fr of : Nat → Nat) (oc : Nat) (oa ob os : Nat → Nat) (K : mk_T) (x : ms_T) (a b z : Nat) (tk : Prop) [Decidable tk] (hn : nn ≤ 5) (ha : a < 5) (hb : b < 5) (h : hb_P nn (nI a) (nI b)) (hz : (1 : Int32) ≤ nI z ∧ nI z ≤ 99) (hz2 : z ≤ 99) (ho : of (5 * a + b) = 0) (hki : ki b < 3) (ht : tk) (how : ow (5 * b + a) ≤ 9999) (hfr : fr (5 * b + a) ≤ 9) (hf0 : f0 ≤ 9) : AM 8 yX10_favour cX10_favour 5 (some .int) [.ref 0, .int (nI a), .int (nI b), .int (nI z), .int (bI tk)] (mw_M (rd, (pl, pc), (ra, up, f0, su, nn, wk), ki, (we, ow, fr, of), (oc, oa, ob, os)) K x) (ac_R (some (.int (nI (min 9999 (ow (5 * b + a) + z))))) (mw_M (rd, (pl, pc), (ra, up, f0, su, nn, wk), ki, (we, va_up ow (5 * b + a) (min 9999 (ow (5 * b + a) + z)), va_up fr (5 * b + a) (max (fr (5 * b + a)) f0), of), (oc, oa, ob, os)) K x)) := by
  have hT := k_X10_thank rd pl pc ra up f0 su nn wk ki we ow fr of oc oa ob os K x 0 b a z (by omega) hb ha (by omega) (by rw [Nat.zero_add]; exact how) (by rw [Nat.zero_add]; exact hfr) hf0
  rw [Nat.zero_add] at hT
  refine AM.of (loc := [.ref 0, .int (nI a), .int (nI b), .int (nI z), .int (bI tk)]) RX10 rfl (by decide +kernel) (Nat.le_of_ble_eq_true rfl) rfl ?_
  refine aw_aload_0 dX10_favour_0 ?_
  refine aw_iload_1 dX10_favour_1 ?_
  refine aw_iload_2 dX10_favour_2 ?_
  refine ce_X10_116 dX10_favour_3 rfl (k_X10_areTwo rd pl pc ra up f0 su nn wk ki we ow fr of oc oa ob os K x (nI a) (nI b) hn) ?_
  refine aw_if_ne 12 dX10_favour_6 (by decide) (fun _ => ?_) (fun hh => absurd hh (bI_n h))
  refine aw_iload_3 dX10_favour_12 ?_
  refine ak_iconst_1 dX10_favour_13 ?_
  refine ak_bipush_99 dX10_favour_14 ?_
  refine ce_X10_69 dX10_favour_16 (k_X10_within _ (nI z) 1 99) ?_
  refine aw_if_ne 25 dX10_favour_19 (by decide) (fun _ => ?_) (fun hh => absurd hh (bI_n hz))
  refine aw_aload_0 dX10_favour_25 ?_
  refine gf_X10_29 dX10_favour_26 rfl rfl ?_
  refine akN_iconst_5 dX10_favour_29 ?_
  refine aw_iload_1 dX10_favour_30 ?_
  refine aw_imulN dX10_favour_31 ?_
  refine aw_iload_2 dX10_favour_32 ?_
  refine aw_iaddN dX10_favour_33 ?_
  refine aw_ialdN dX10_favour_34 rfl (by omega) ?_
  refine aw_if_gtN 51 dX10_favour_35 (by decide) (by omega) (fun hh => absurd hh (by omega)) (fun _ => ?_)
  refine aw_iload_4 dX10_favour_38 ?_
  refine aw_if_eq 54 dX10_favour_40 (by decide) (fun hh => absurd hh (bI_n ht)) (fun _ => ?_)
  refine aw_aload_0 dX10_favour_43 ?_
  refine aw_iload_2 dX10_favour_44 ?_
  refine ce_X10_130 dX10_favour_45 rfl (k_X10_neverThanks rd pl pc ra up f0 su nn wk ki we ow fr of oc oa ob os K x b hb (by omega)) ?_
  refine aw_if_eq 54 dX10_favour_48 (by decide) (fun _ => ?_) (fun hh => absurd (bI_f (by omega)) hh)
  refine aw_iload_4 dX10_favour_54 ?_
  refine aw_if_eq 70 dX10_favour_56 (by decide) (fun hh => absurd hh (bI_n ht)) (fun _ => ?_)
  refine aw_aload_0 dX10_favour_59 ?_
  refine akN_iconst_0 dX10_favour_60 ?_
  refine aw_iload_2 dX10_favour_61 ?_
  refine aw_iload_1 dX10_favour_62 ?_
  refine aw_iload_3 dX10_favour_63 ?_
  refine ce_X10_133 dX10_favour_64 rfl (hT) ?_
  refine aw_goto 77 dX10_favour_67 (by decide) ?_
  refine aw_aload_0 dX10_favour_77 ?_
  refine gf_X10_23 dX10_favour_78 rfl rfl ?_
  refine akN_iconst_5 dX10_favour_81 ?_
  refine aw_iload_2 dX10_favour_82 ?_
  refine aw_imulN dX10_favour_83 ?_
  refine aw_iload_1 dX10_favour_84 ?_
  refine aw_iaddN dX10_favour_85 ?_
  refine aw_ialdN dX10_favour_86 rfl (by omega) ?_
  exact aw_iret dX10_favour_87 rfl (⟨by rw [up_at], rfl⟩)
theorem m_favour_gr (rd : Int32) (pl : Nat) (pc : Nat → Nat) (ra up f0 su nn : Nat) (wk : Int32) (ki we ow fr of : Nat → Nat) (oc : Nat) (oa ob os : Nat → Nat) (K : mk_T) (x : ms_T) (a b z : Nat) (tk : Prop) [Decidable tk] (hn : nn ≤ 5) (ha : a < 5) (hb : b < 5) (h : hb_P nn (nI a) (nI b)) (hz : (1 : Int32) ≤ nI z ∧ nI z ≤ 99) (ho : of (5 * a + b) = 0) (ht : ¬ tk) (hka : ki a ≤ 4) (hsu : su ≤ 9) : AM 8 yX10_favour cX10_favour 5 (some .int) [.ref 0, .int (nI a), .int (nI b), .int (nI z), .int (bI tk)] (mw_M (rd, (pl, pc), (ra, up, f0, su, nn, wk), ki, (we, ow, fr, of), (oc, oa, ob, os)) K x) (ac_R (some (.int (nI (ow (5 * b + a))))) (mw_M (rd, (pl, pc), (ra, up, f0, su, nn, wk), ki, (we, ow, fr, va_up of (5 * a + b) (if ki a < 4 then max (of (5 * a + b)) su else of (5 * a + b))), (oc, oa, ob, os)) K x)) := by
  have hT := k_X10_grunt rd pl pc ra up f0 su nn wk ki we ow fr of oc oa ob os K x 0 b a (by omega) hb ha hka (by rw [Nat.zero_add]; omega) hsu
  rw [Nat.zero_add] at hT
  refine AM.of (loc := [.ref 0, .int (nI a), .int (nI b), .int (nI z), .int (bI tk)]) RX10 rfl (by decide +kernel) (Nat.le_of_ble_eq_true rfl) rfl ?_
  refine aw_aload_0 dX10_favour_0 ?_
  refine aw_iload_1 dX10_favour_1 ?_
  refine aw_iload_2 dX10_favour_2 ?_
  refine ce_X10_116 dX10_favour_3 rfl (k_X10_areTwo rd pl pc ra up f0 su nn wk ki we ow fr of oc oa ob os K x (nI a) (nI b) hn) ?_
  refine aw_if_ne 12 dX10_favour_6 (by decide) (fun _ => ?_) (fun hh => absurd hh (bI_n h))
  refine aw_iload_3 dX10_favour_12 ?_
  refine ak_iconst_1 dX10_favour_13 ?_
  refine ak_bipush_99 dX10_favour_14 ?_
  refine ce_X10_69 dX10_favour_16 (k_X10_within _ (nI z) 1 99) ?_
  refine aw_if_ne 25 dX10_favour_19 (by decide) (fun _ => ?_) (fun hh => absurd hh (bI_n hz))
  refine aw_aload_0 dX10_favour_25 ?_
  refine gf_X10_29 dX10_favour_26 rfl rfl ?_
  refine akN_iconst_5 dX10_favour_29 ?_
  refine aw_iload_1 dX10_favour_30 ?_
  refine aw_imulN dX10_favour_31 ?_
  refine aw_iload_2 dX10_favour_32 ?_
  refine aw_iaddN dX10_favour_33 ?_
  refine aw_ialdN dX10_favour_34 rfl (by omega) ?_
  refine aw_if_gtN 51 dX10_favour_35 (by decide) (by omega) (fun hh => absurd hh (by omega)) (fun _ => ?_)
  refine aw_iload_4 dX10_favour_38 ?_
  refine aw_if_eq 54 dX10_favour_40 (by decide) (fun _ => ?_) (fun hh => absurd (bI_f ht) hh)
  refine aw_iload_4 dX10_favour_54 ?_
  refine aw_if_eq 70 dX10_favour_56 (by decide) (fun _ => ?_) (fun hh => absurd (bI_f ht) hh)
  refine aw_aload_0 dX10_favour_70 ?_
  refine akN_iconst_0 dX10_favour_71 ?_
  refine aw_iload_2 dX10_favour_72 ?_
  refine aw_iload_1 dX10_favour_73 ?_
  refine ce_X10_137 dX10_favour_74 rfl (hT) ?_
  refine aw_aload_0 dX10_favour_77 ?_
  refine gf_X10_23 dX10_favour_78 rfl rfl ?_
  refine akN_iconst_5 dX10_favour_81 ?_
  refine aw_iload_2 dX10_favour_82 ?_
  refine aw_imulN dX10_favour_83 ?_
  refine aw_iload_1 dX10_favour_84 ?_
  refine aw_iaddN dX10_favour_85 ?_
  refine aw_ialdN dX10_favour_86 rfl (by omega) ?_
  exact aw_iret dX10_favour_87 rfl (⟨rfl, rfl⟩)
theorem k_X10_grows (rd : Int32) (pl : Nat) (pc : Nat → Nat) (ra up f0 su nn : Nat) (wk : Int32) (ki we ow fr of : Nat → Nat) (oc : Nat) (oa ob os : Nat → Nat) (K : mk_T) (x : ms_T) (o kd kc : Nat) (ho : o ≤ 9999) (hkd : kd < 5) (hkc : kc < 5) (hra : ra ≤ 9) (hu : up ≤ 1) : AM 2 yX10_grows cX10_grows 6 (some .int) [.ref 0, .int (nI o), .int (nI kd), .int (nI kc)] (mw_M (rd, (pl, pc), (ra, up, f0, su, nn, wk), ki, (we, ow, fr, of), (oc, oa, ob, os)) K x) (ac_R (some (.int (nI (gr_N up (tn_N ra kd kc) o - o)))) (mw_M (rd, (pl, pc), (ra, up, f0, su, nn, wk), ki, (we, ow, fr, of), (oc, oa, ob, os)) K x)) := by
  have ht := tn_le (kd := kd) (kc := kc) hra
  have h0 : (kd = 1 ∨ kc = 4) → gr_N up (tn_N ra kd kc) o - o = 0 := by
    intro h
    have e : tn_N ra kd kc = 0 := by
      unfold tn_N
      rcases h with h | h
      · rw [h]; show ra * 0 * _ = 0; rw [Nat.mul_zero, Nat.zero_mul]
      · rw [h]; show ra * _ * 0 = 0; rw [Nat.mul_zero]
    unfold gr_N
    rw [e, Nat.mul_zero]
    split <;> omega
  have hra2 : o * ra ≤ 9999 * 9 := Nat.mul_le_mul ho hra
  refine AM.of (loc := [.ref 0, .int (nI o), .int (nI kd), .int (nI kc), .null, .null]) RX10 rfl (by decide +kernel) (Nat.le_of_ble_eq_true rfl) rfl ?_
  refine aw_iload_2 dX10_grows_0 ?_
  refine akN_iconst_1 dX10_grows_1 ?_
  refine aw_icmp_eqN 10 dX10_grows_2 (by decide) (by omega) (by omega) (fun q1 => ?_) (fun q1 => ?_)
  · refine ak_iconst_0 dX10_grows_10 ?_
    exact aw_iret dX10_grows_11 rfl (⟨by rw [h0 (Or.inl q1)]; rfl, rfl⟩)
  refine aw_iload_3 dX10_grows_5 ?_
  refine akN_iconst_4 dX10_grows_6 ?_
  refine aw_icmp_neN 12 dX10_grows_7 (by decide) (by omega) (by omega) (fun q2 => ?_) (fun q2 => ?_)
  · have tail : ∀ f : Nat, f ≤ 2 → o * ra * f = o * tn_N ra kd kc → AW 2 RX10 cX10_grows 6 (some .int) 18 (ac_R (some (.int (nI (gr_N up (tn_N ra kd kc) o - o)))) (mw_M (rd, (pl, pc), (ra, up, f0, su, nn, wk), ki, (we, ow, fr, of), (oc, oa, ob, os)) K x)) 28 [.ref 0, .int (nI o), .int (nI kd), .int (nI kc), .null, .null] [.int (nI f), .int (nI (o * ra))] (mw_M (rd, (pl, pc), (ra, up, f0, su, nn, wk), ki, (we, ow, fr, of), (oc, oa, ob, os)) K x) := by
      intro f hf he
      have hm : o * tn_N ra kd kc ≤ 9999 * 18 := Nat.mul_le_mul ho ht
      refine aw_imulN dX10_grows_28 ?_
      rw [he]
      have fin : ∀ c : Nat, c ≤ 1 → o * tn_N ra kd kc / 10 + c = (if up = 0 then o * tn_N ra kd kc / 10 else (o * tn_N ra kd kc + 9) / 10) → AW 2 RX10 cX10_grows 6 (some .int) 18 (ac_R (some (.int (nI (gr_N up (tn_N ra kd kc) o - o)))) (mw_M (rd, (pl, pc), (ra, up, f0, su, nn, wk), ki, (we, ow, fr, of), (oc, oa, ob, os)) K x)) 57 [.ref 0, .int (nI o), .int (nI kd), .int (nI kc), .int (nI (o * tn_N ra kd kc)), .null] [.int (nI c), .int (nI (o * tn_N ra kd kc / 10))] (mw_M (rd, (pl, pc), (ra, up, f0, su, nn, wk), ki, (we, ow, fr, of), (oc, oa, ob, os)) K x) := by
        intro c hc hce
        refine aw_iaddN dX10_grows_57 ?_
        rw [hce]
        refine aw_istore_5 dX10_grows_58 rfl (Nat.le_of_ble_eq_true rfl) ?_
        refine aw_iload_1 dX10_grows_60 ?_
        refine aw_iload_5 dX10_grows_61 ?_
        refine aw_iaddN dX10_grows_63 ?_
        refine akN_sipush_9999 dX10_grows_64 ?_
        refine ce_X10_124 dX10_grows_67 (k_X10_less _ _ 9999 (by split <;> omega) (by omega)) ?_
        refine aw_iload_1 dX10_grows_70 ?_
        refine aw_isubN dX10_grows_71 (by split <;> omega) ?_
        exact aw_iret dX10_grows_72 rfl (⟨by unfold gr_N; rw [Nat.min_comm], rfl⟩)
      refine aw_istore_4 dX10_grows_29 rfl (Nat.le_of_ble_eq_true rfl) ?_
      refine aw_iload_4 dX10_grows_31 ?_
      refine akN_bipush_10 dX10_grows_33 ?_
      refine aw_idivN dX10_grows_35 (by omega) (by omega) (by omega) ?_
      refine aw_aload_0 dX10_grows_36 ?_
      refine gf_X10_13 dX10_grows_37 rfl rfl ?_
      refine akN_iconst_1 dX10_grows_40 ?_
      refine aw_icmp_neN 56 dX10_grows_41 (by decide) (by omega) (by omega) (fun q4 => ?_) (fun q4 => ?_)
      · refine akN_iconst_0 dX10_grows_56 ?_
        exact fin 0 (by omega) (by rw [if_pos (by omega)]; rfl)
      refine aw_iload_4 dX10_grows_44 ?_
      refine akN_bipush_10 dX10_grows_46 ?_
      refine aw_iremN dX10_grows_48 (by omega) (by omega) (by omega) ?_
      refine aw_if_leN 56 dX10_grows_49 (by decide) (by omega) (fun q5 => ?_) (fun q5 => ?_)
      · refine akN_iconst_0 dX10_grows_56 ?_
        exact fin 0 (by omega) (by rw [if_neg (by omega)]; omega)
      refine akN_iconst_1 dX10_grows_52 ?_
      refine aw_goto 57 dX10_grows_53 (by decide) ?_
      exact fin 1 (by omega) (by rw [if_neg (by omega)]; omega)
    have etd : td_N kd = 1 := by
      match kd, hkd, q1 with
      | 0, _, _ => rfl
      | 1, _, q => exact absurd rfl q
      | 2, _, _ => rfl
      | 3, _, _ => rfl
      | 4, _, _ => rfl
    refine aw_iload_1 dX10_grows_12 ?_
    refine aw_aload_0 dX10_grows_13 ?_
    refine gf_X10_7 dX10_grows_14 rfl rfl ?_
    refine aw_imulN dX10_grows_17 ?_
    refine aw_iload_3 dX10_grows_18 ?_
    refine akN_iconst_2 dX10_grows_19 ?_
    refine aw_icmp_neN 27 dX10_grows_20 (by decide) (by omega) (by omega) (fun q3 => ?_) (fun q3 => ?_)
    · refine akN_iconst_1 dX10_grows_27 ?_
      refine tail 1 (by omega) ?_
      have etc : tc_N kc = 1 := by
        match kc, hkc, q2, q3 with
        | 0, _, _, _ => rfl
        | 1, _, _, _ => rfl
        | 2, _, _, q => exact absurd rfl q
        | 3, _, _, _ => rfl
        | 4, _, q, _ => exact absurd rfl q
      unfold tn_N
      rw [etd, etc, Nat.mul_one, Nat.mul_one, Nat.mul_one]
    refine akN_iconst_2 dX10_grows_23 ?_
    refine aw_goto 28 dX10_grows_24 (by decide) ?_
    refine tail 2 (by omega) ?_
    unfold tn_N
    rw [etd, q3, Nat.mul_one, Nat.mul_assoc]
    rfl
  refine ak_iconst_0 dX10_grows_10 ?_
  exact aw_iret dX10_grows_11 rfl (⟨by rw [h0 (Or.inr q2)]; rfl, rfl⟩)
/-- a row of which a stretch is another one -/
def pb_N (b j : Nat) (f g : Nat → Nat) : Nat → Nat := fun k => if b ≤ k ∧ k < b + j then g (k - b) else f k
theorem pb_0 (b : Nat) (f g : Nat → Nat) : pb_N b 0 f g = f := funext fun k => if_neg (by omega)
theorem pb_at (b j : Nat) (f g : Nat → Nat) : pb_N b j f g (b + j) = f (b + j) := if_neg (by omega)
theorem pb_in {b j k : Nat} (f g : Nat → Nat) (h : k < j) : pb_N b j f g (b + k) = g k := by
  unfold pb_N
  rw [if_pos (by omega), Nat.add_sub_cancel_left]
theorem pb_up (b j : Nat) (f g : Nat → Nat) (v : Nat) (h : v = g j) : va_up (pb_N b j f g) (b + j) v = pb_N b (j + 1) f g := by
  funext k
  unfold va_up pb_N
  by_cases e : k = b + j
  · subst e
    rw [if_pos rfl, if_pos (by omega), Nat.add_sub_cancel_left, h]
  · rw [if_neg e]
    by_cases q : b ≤ k ∧ k < b + j
    · rw [if_pos q, if_pos (by omega)]
    · rw [if_neg q, if_neg (by omega)]
theorem pb_skip (b : Nat) (f g : Nat → Nat) {i j : Nat} (hij : i ≤ j) (h : ∀ k, i ≤ k → k < j → g k = f (b + k)) : pb_N b i f g = pb_N b j f g := by
  funext k
  unfold pb_N
  by_cases q : b ≤ k ∧ k < b + i
  · rw [if_pos q, if_pos (by omega)]
  · rw [if_neg q]
    by_cases r : b ≤ k ∧ k < b + j
    · rw [if_pos r, h (k - b) (by omega) (by omega), Nat.add_sub_cancel' r.1]
    · rw [if_neg r]
theorem k_X10_goWeek (rd : Int32) (pl : Nat) (pc : Nat → Nat) (ra up f0 su nn : Nat) (wk : Int32) (ki we ow fr of : Nat → Nat) (oc : Nat) (oa ob os : Nat → Nat) (K : mk_T) (x : ms_T) (b : Nat) (hb : b ≤ 25) (hra : ra ≤ 9) (hu : up ≤ 1) (hn : nn ≤ 5) (hki : ∀ k, k < nn → ki k ≤ 4) (how : ∀ k, k < 25 → ow (b + k) ≤ 9999) (hfr : ∀ k, k < 25 → fr (b + k) ≤ 9) (hof : ∀ k, k < 25 → of (b + k) ≤ 9) : AM 3 yX10_goWeek cX10_goWeek 7 (some .int) [.ref 0, .int (nI b)] (mw_M (rd, (pl, pc), (ra, up, f0, su, nn, wk), ki, (we, ow, fr, of), (oc, oa, ob, os)) K x) (ac_R (some (.int (gs_I nn ra up ki (sh_N b ow) (sh_N b fr)))) (mw_M (rd, (pl, pc), (ra, up, f0, su, nn, wk), ki, (we, pb_N b 25 ow (wO_N nn ra up ki (sh_N b ow) (sh_N b fr)), pb_N b 25 fr (wM_N nn (sh_N b fr)), pb_N b 25 of (wM_N nn (sh_N b of))), (oc, oa, ob, os)) K x)) := by
  refine AM.of (loc := [.ref 0, .int (nI b), .null, .null, .null, .null, .null]) RX10 rfl (by decide +kernel) (Nat.le_of_ble_eq_true rfl) rfl ?_
  refine ak_iconst_0 dX10_goWeek_0 ?_
  refine aw_istore_2 dX10_goWeek_1 rfl (Nat.le_of_ble_eq_true rfl) ?_
  refine akN_iconst_0 dX10_goWeek_2 ?_
  refine aw_istore_3 dX10_goWeek_3 rfl (Nat.le_of_ble_eq_true rfl) ?_
  have outer : ∀ m p, p + m = nn → ∀ j4 j5 j6 : Value, AW 3 RX10 cX10_goWeek 7 (some .int) 18 (ac_R (some (.int (gs_I nn ra up ki (sh_N b ow) (sh_N b fr)))) (mw_M (rd, (pl, pc), (ra, up, f0, su, nn, wk), ki, (we, pb_N b 25 ow (wO_N nn ra up ki (sh_N b ow) (sh_N b fr)), pb_N b 25 fr (wM_N nn (sh_N b fr)), pb_N b 25 of (wM_N nn (sh_N b of))), (oc, oa, ob, os)) K x)) 4 [.ref 0, .int (nI b), .int (si_I (fun p => si_I (fun q => nI (wO_N nn ra up ki (sh_N b ow) (sh_N b fr) (5 * p + q)) - nI (sh_N b ow (5 * p + q))) nn) p), .int (nI p), j4, j5, j6] [] (mw_M (rd, (pl, pc), (ra, up, f0, su, nn, wk), ki, (we, pb_N b (5 * p) ow (wO_N nn ra up ki (sh_N b ow) (sh_N b fr)), pb_N b (5 * p) fr (wM_N nn (sh_N b fr)), pb_N b (5 * p) of (wM_N nn (sh_N b of))), (oc, oa, ob, os)) K x) := by
    intro m
    induction m with
    | zero =>
      intro p hp j4 j5 j6
      obtain rfl : p = nn := by omega
      rw [pb_skip b ow (wO_N p ra up ki (sh_N b ow) (sh_N b fr)) (show 5 * p ≤ 25 by omega) (fun k h1 h2 => if_neg (fun q => by omega)), pb_skip b fr (wM_N p (sh_N b fr)) (show 5 * p ≤ 25 by omega) (fun k h1 h2 => if_neg (fun q => by omega)), pb_skip b of (wM_N p (sh_N b of)) (show 5 * p ≤ 25 by omega) (fun k h1 h2 => if_neg (fun q => by omega))]
      refine aw_iload_3 dX10_goWeek_4 ?_
      refine aw_aload_0 dX10_goWeek_5 ?_
      refine gf_X10_93 dX10_goWeek_6 rfl rfl ?_
      refine aw_icmp_geN 153 dX10_goWeek_9 (by decide) (by omega) (by omega) (fun _ => ?_) (fun hh => absurd hh (by omega))
      refine aw_iload_2 dX10_goWeek_153 ?_
      exact aw_iret dX10_goWeek_154 rfl (⟨rfl, rfl⟩)
    | succ m ih =>
      intro p hp j4 j5 j6
      have inner : ∀ k q, q + k = nn → ∀ j5 j6 : Value, AW 3 RX10 cX10_goWeek 7 (some .int) 18 (ac_R (some (.int (gs_I nn ra up ki (sh_N b ow) (sh_N b fr)))) (mw_M (rd, (pl, pc), (ra, up, f0, su, nn, wk), ki, (we, pb_N b 25 ow (wO_N nn ra up ki (sh_N b ow) (sh_N b fr)), pb_N b 25 fr (wM_N nn (sh_N b fr)), pb_N b 25 of (wM_N nn (sh_N b of))), (oc, oa, ob, os)) K x)) 15 [.ref 0, .int (nI b), .int (si_I (fun p => si_I (fun q => nI (wO_N nn ra up ki (sh_N b ow) (sh_N b fr) (5 * p + q)) - nI (sh_N b ow (5 * p + q))) nn) p + si_I (fun q => nI (wO_N nn ra up ki (sh_N b ow) (sh_N b fr) (5 * p + q)) - nI (sh_N b ow (5 * p + q))) q), .int (nI p), .int (nI q), j5, j6] [] (mw_M (rd, (pl, pc), (ra, up, f0, su, nn, wk), ki, (we, pb_N b (5 * p + q) ow (wO_N nn ra up ki (sh_N b ow) (sh_N b fr)), pb_N b (5 * p + q) fr (wM_N nn (sh_N b fr)), pb_N b (5 * p + q) of (wM_N nn (sh_N b of))), (oc, oa, ob, os)) K x) := by
        intro k
        induction k with
        | zero =>
          intro q hq j5 j6
          obtain rfl : q = nn := by omega
          refine aw_iload_4 dX10_goWeek_15 ?_
          refine aw_aload_0 dX10_goWeek_17 ?_
          refine gf_X10_93 dX10_goWeek_18 rfl rfl ?_
          refine aw_icmp_geN 147 dX10_goWeek_21 (by decide) (by omega) (by omega) (fun _ => ?_) (fun hh => absurd hh (by omega))
          refine aw_iincN_3 dX10_goWeek_147 rfl (Nat.le_of_ble_eq_true rfl) ?_
          refine aw_goto 4 dX10_goWeek_150 (by decide) ?_
          rw [pb_skip b ow (wO_N q ra up ki (sh_N b ow) (sh_N b fr)) (show 5 * p + q ≤ 5 * (p + 1) by omega) (fun k h1 h2 => if_neg (fun z => by omega)), pb_skip b fr (wM_N q (sh_N b fr)) (show 5 * p + q ≤ 5 * (p + 1) by omega) (fun k h1 h2 => if_neg (fun z => by omega)), pb_skip b of (wM_N q (sh_N b of)) (show 5 * p + q ≤ 5 * (p + 1) by omega) (fun k h1 h2 => if_neg (fun z => by omega))]
          exact ih (p + 1) (by omega) _ _ _
        | succ k ihk =>
          intro q hq j5 j6
          have hO := how (5 * p + q) (by omega)
          have hF := hfr (5 * p + q) (by omega)
          have hX := hof (5 * p + q) (by omega)
          have dO := wO_dom (ra := ra) (up := up) (ki := ki) (ow := sh_N b ow) (fr := sh_N b fr) (show p < nn by omega) (show q < nn by omega) hn
          have dF := wM_dom (f := sh_N b fr) (show p < nn by omega) (show q < nn by omega) hn
          have dX := wM_dom (f := sh_N b of) (show p < nn by omega) (show q < nn by omega) hn
          have e1 : (5 * p + q) / 5 = p := by omega
          have e2 : (5 * p + q) % 5 = q := by omega
          have hge : ow (b + (5 * p + q)) ≤ wO_N nn ra up ki (sh_N b ow) (sh_N b fr) (5 * p + q) ∧ wO_N nn ra up ki (sh_N b ow) (sh_N b fr) (5 * p + q) ≤ 9999 := by
            rw [dO]
            unfold nw_N gr_N sh_N
            split
            · split <;> omega
            · omega
          refine aw_iload_4 dX10_goWeek_15 ?_
          refine aw_aload_0 dX10_goWeek_17 ?_
          refine gf_X10_93 dX10_goWeek_18 rfl rfl ?_
          refine aw_icmp_geN 147 dX10_goWeek_21 (by decide) (by omega) (by omega) (fun hh => absurd hh (by omega)) (fun _ => ?_)
          refine aw_iload_1 dX10_goWeek_24 ?_
          refine akN_iconst_5 dX10_goWeek_25 ?_
          refine aw_iload_3 dX10_goWeek_26 ?_
          refine aw_imulN dX10_goWeek_27 ?_
          refine aw_iaddN dX10_goWeek_28 ?_
          refine aw_iload_4 dX10_goWeek_29 ?_
          refine aw_iaddN dX10_goWeek_31 ?_
          refine aw_topi (congrArg nI (Nat.add_assoc b (5 * p) q)) ?_
          refine aw_istore_5 dX10_goWeek_32 rfl (Nat.le_of_ble_eq_true rfl) ?_
          refine aw_aload_0 dX10_goWeek_34 ?_
          refine gf_X10_26 dX10_goWeek_35 rfl rfl ?_
          refine aw_iload_5 dX10_goWeek_38 ?_
          refine aw_ialdN dX10_goWeek_40 rfl (by omega) ?_
          refine aw_topi (congrArg nI (pb_at b (5 * p + q) fr _)) ?_
          have dn : ∀ (f : Nat → Nat) (u : Nat), u = (if 0 < f (b + (5 * p + q)) then 1 else 0) → u ≤ f (b + (5 * p + q)) ∧ f (b + (5 * p + q)) - u = sh_N b f (5 * p + q) - 1 := by
            intro f u hu
            unfold sh_N
            split at hu <;> omega
          have tail : ∀ v : Nat, ow (b + (5 * p + q)) + v = wO_N nn ra up ki (sh_N b ow) (sh_N b fr) (5 * p + q) → AW 3 RX10 cX10_goWeek 7 (some .int) 18 (ac_R (some (.int (gs_I nn ra up ki (sh_N b ow) (sh_N b fr)))) (mw_M (rd, (pl, pc), (ra, up, f0, su, nn, wk), ki, (we, pb_N b 25 ow (wO_N nn ra up ki (sh_N b ow) (sh_N b fr)), pb_N b 25 fr (wM_N nn (sh_N b fr)), pb_N b 25 of (wM_N nn (sh_N b of))), (oc, oa, ob, os)) K x)) 72 [.ref 0, .int (nI b), .int (si_I (fun p => si_I (fun q => nI (wO_N nn ra up ki (sh_N b ow) (sh_N b fr) (5 * p + q)) - nI (sh_N b ow (5 * p + q))) nn) p + si_I (fun q => nI (wO_N nn ra up ki (sh_N b ow) (sh_N b fr) (5 * p + q)) - nI (sh_N b ow (5 * p + q))) q), .int (nI p), .int (nI q), .int (nI (b + (5 * p + q))), j6] [.int (nI v)] (mw_M (rd, (pl, pc), (ra, up, f0, su, nn, wk), ki, (we, pb_N b (5 * p + q) ow (wO_N nn ra up ki (sh_N b ow) (sh_N b fr)), pb_N b (5 * p + q) fr (wM_N nn (sh_N b fr)), pb_N b (5 * p + q) of (wM_N nn (sh_N b of))), (oc, oa, ob, os)) K x) := by
            intro v hv
            refine aw_istore_6 dX10_goWeek_72 rfl (Nat.le_of_ble_eq_true rfl) ?_
            refine aw_aload_0 dX10_goWeek_74 ?_
            refine gf_X10_23 dX10_goWeek_75 rfl rfl ?_
            refine aw_iload_5 dX10_goWeek_78 ?_
            refine aw_dup2 dX10_goWeek_80 rfl rfl ?_
            refine aw_ialdN dX10_goWeek_81 rfl (by omega) ?_
            refine aw_topi (congrArg nI (pb_at b (5 * p + q) ow _)) ?_
            refine aw_iload_6 dX10_goWeek_82 ?_
            refine aw_iaddN dX10_goWeek_84 ?_
            refine aw_iastN dX10_goWeek_85 rfl (by omega) ?_
            refine aw_w cm_3 ?_
            rw [hv, pb_up b (5 * p + q) ow _ _ rfl]
            refine aw_iload_2 dX10_goWeek_86 ?_
            refine aw_iload_6 dX10_goWeek_87 ?_
            refine aw_iadd dX10_goWeek_89 ?_
            refine aw_topi ((Int32.add_assoc _ _ _).trans (congrArg (fun z => si_I (fun p => si_I (fun q => nI (wO_N nn ra up ki (sh_N b ow) (sh_N b fr) (5 * p + q)) - nI (sh_N b ow (5 * p + q))) nn) p + (si_I (fun q => nI (wO_N nn ra up ki (sh_N b ow) (sh_N b fr) (5 * p + q)) - nI (sh_N b ow (5 * p + q))) q + z)) (show nI v = nI (wO_N nn ra up ki (sh_N b ow) (sh_N b fr) (5 * p + q)) - nI (sh_N b ow (5 * p + q)) by
              rw [pk_sub (show sh_N b ow (5 * p + q) ≤ wO_N nn ra up ki (sh_N b ow) (sh_N b fr) (5 * p + q) from hge.1)]
              exact congrArg nI (by unfold sh_N at hv ⊢; omega)))) ?_
            refine aw_istore_2 dX10_goWeek_90 rfl (Nat.le_of_ble_eq_true rfl) ?_
            refine aw_aload_0 dX10_goWeek_91 ?_
            refine gf_X10_26 dX10_goWeek_92 rfl rfl ?_
            refine aw_iload_5 dX10_goWeek_95 ?_
            refine aw_dup2 dX10_goWeek_97 rfl rfl ?_
            refine aw_ialdN dX10_goWeek_98 rfl (by omega) ?_
            refine aw_topi (congrArg nI (pb_at b (5 * p + q) fr _)) ?_
            refine aw_aload_0 dX10_goWeek_99 ?_
            refine gf_X10_26 dX10_goWeek_100 rfl rfl ?_
            refine aw_iload_5 dX10_goWeek_103 ?_
            refine aw_ialdN dX10_goWeek_105 rfl (by omega) ?_
            refine aw_topi (congrArg nI (pb_at b (5 * p + q) fr _)) ?_
            have tail2 : ∀ u : Nat, u = (if 0 < of (b + (5 * p + q)) then 1 else 0) → AW 3 RX10 cX10_goWeek 7 (some .int) 18 (ac_R (some (.int (gs_I nn ra up ki (sh_N b ow) (sh_N b fr)))) (mw_M (rd, (pl, pc), (ra, up, f0, su, nn, wk), ki, (we, pb_N b 25 ow (wO_N nn ra up ki (sh_N b ow) (sh_N b fr)), pb_N b 25 fr (wM_N nn (sh_N b fr)), pb_N b 25 of (wM_N nn (sh_N b of))), (oc, oa, ob, os)) K x)) 139 [.ref 0, .int (nI b), .int (si_I (fun p => si_I (fun q => nI (wO_N nn ra up ki (sh_N b ow) (sh_N b fr) (5 * p + q)) - nI (sh_N b ow (5 * p + q))) nn) p + si_I (fun q => nI (wO_N nn ra up ki (sh_N b ow) (sh_N b fr) (5 * p + q)) - nI (sh_N b ow (5 * p + q))) (q + 1)), .int (nI p), .int (nI q), .int (nI (b + (5 * p + q))), .int (nI v)] [.int (nI u), .int (nI (of (b + (5 * p + q)))), .int (nI (b + (5 * p + q))), .ref 5] (mw_M (rd, (pl, pc), (ra, up, f0, su, nn, wk), ki, (we, pb_N b (5 * p + q + 1) ow (wO_N nn ra up ki (sh_N b ow) (sh_N b fr)), pb_N b (5 * p + q + 1) fr (wM_N nn (sh_N b fr)), pb_N b (5 * p + q) of (wM_N nn (sh_N b of))), (oc, oa, ob, os)) K x) := by
              intro u hu
              obtain ⟨d1, d2⟩ := dn of u hu
              refine aw_isubN dX10_goWeek_139 d1 ?_
              rw [d2, ← dX]
              refine aw_iastN dX10_goWeek_140 rfl (by omega) ?_
              refine aw_w cm_5 ?_
              rw [pb_up b (5 * p + q) of _ _ rfl]
              refine aw_iincN_4 dX10_goWeek_141 rfl (Nat.le_of_ble_eq_true rfl) ?_
              refine aw_goto 15 dX10_goWeek_144 (by decide) ?_
              exact ihk (q + 1) (by omega) _ _
            have tail1 : ∀ u : Nat, u = (if 0 < fr (b + (5 * p + q)) then 1 else 0) → AW 3 RX10 cX10_goWeek 7 (some .int) 18 (ac_R (some (.int (gs_I nn ra up ki (sh_N b ow) (sh_N b fr)))) (mw_M (rd, (pl, pc), (ra, up, f0, su, nn, wk), ki, (we, pb_N b 25 ow (wO_N nn ra up ki (sh_N b ow) (sh_N b fr)), pb_N b 25 fr (wM_N nn (sh_N b fr)), pb_N b 25 of (wM_N nn (sh_N b of))), (oc, oa, ob, os)) K x)) 114 [.ref 0, .int (nI b), .int (si_I (fun p => si_I (fun q => nI (wO_N nn ra up ki (sh_N b ow) (sh_N b fr) (5 * p + q)) - nI (sh_N b ow (5 * p + q))) nn) p + si_I (fun q => nI (wO_N nn ra up ki (sh_N b ow) (sh_N b fr) (5 * p + q)) - nI (sh_N b ow (5 * p + q))) (q + 1)), .int (nI p), .int (nI q), .int (nI (b + (5 * p + q))), .int (nI v)] [.int (nI u), .int (nI (fr (b + (5 * p + q)))), .int (nI (b + (5 * p + q))), .ref 4] (mw_M (rd, (pl, pc), (ra, up, f0, su, nn, wk), ki, (we, pb_N b (5 * p + q + 1) ow (wO_N nn ra up ki (sh_N b ow) (sh_N b fr)), pb_N b (5 * p + q) fr (wM_N nn (sh_N b fr)), pb_N b (5 * p + q) of (wM_N nn (sh_N b of))), (oc, oa, ob, os)) K x) := by
              intro u hu
              obtain ⟨d1, d2⟩ := dn fr u hu
              refine aw_isubN dX10_goWeek_114 d1 ?_
              rw [d2, ← dF]
              refine aw_iastN dX10_goWeek_115 rfl (by omega) ?_
              refine aw_w cm_4 ?_
              rw [pb_up b (5 * p + q) fr _ _ rfl]
              refine aw_aload_0 dX10_goWeek_116 ?_
              refine gf_X10_29 dX10_goWeek_117 rfl rfl ?_
              refine aw_iload_5 dX10_goWeek_120 ?_
              refine aw_dup2 dX10_goWeek_122 rfl rfl ?_
              refine aw_ialdN dX10_goWeek_123 rfl (by omega) ?_
              refine aw_topi (congrArg nI (pb_at b (5 * p + q) of _)) ?_
              refine aw_aload_0 dX10_goWeek_124 ?_
              refine gf_X10_29 dX10_goWeek_125 rfl rfl ?_
              refine aw_iload_5 dX10_goWeek_128 ?_
              refine aw_ialdN dX10_goWeek_130 rfl (by omega) ?_
              refine aw_topi (congrArg nI (pb_at b (5 * p + q) of _)) ?_
              refine aw_if_leN 138 dX10_goWeek_131 (by decide) (by omega) (fun r => ?_) (fun r => ?_)
              · refine akN_iconst_0 dX10_goWeek_138 ?_
                exact tail2 0 (if_neg (by omega)).symm
              refine akN_iconst_1 dX10_goWeek_134 ?_
              refine aw_goto 139 dX10_goWeek_135 (by decide) ?_
              exact tail2 1 (if_pos r).symm
            refine aw_if_leN 113 dX10_goWeek_106 (by decide) (by omega) (fun r => ?_) (fun r => ?_)
            · refine akN_iconst_0 dX10_goWeek_113 ?_
              exact tail1 0 (if_neg (by omega)).symm
            refine akN_iconst_1 dX10_goWeek_109 ?_
            refine aw_goto 114 dX10_goWeek_110 (by decide) ?_
            exact tail1 1 (if_pos r).symm
          refine aw_if_leN 48 dX10_goWeek_41 (by decide) (by omega) (fun r => ?_) (fun r => ?_)
          · have hz : fr (b + (5 * p + q)) = 0 := by omega
            refine aw_aload_0 dX10_goWeek_48 ?_
            refine aw_aload_0 dX10_goWeek_49 ?_
            refine gf_X10_23 dX10_goWeek_50 rfl rfl ?_
            refine aw_iload_5 dX10_goWeek_53 ?_
            refine aw_ialdN dX10_goWeek_55 rfl (by omega) ?_
            refine aw_topi (congrArg nI (pb_at b (5 * p + q) ow _)) ?_
            refine aw_aload_0 dX10_goWeek_56 ?_
            refine gf_X10_16 dX10_goWeek_57 rfl rfl ?_
            refine aw_iload_3 dX10_goWeek_60 ?_
            refine aw_ialdN dX10_goWeek_61 rfl (by omega) ?_
            refine aw_aload_0 dX10_goWeek_62 ?_
            refine gf_X10_16 dX10_goWeek_63 rfl rfl ?_
            refine aw_iload_4 dX10_goWeek_66 ?_
            refine aw_ialdN dX10_goWeek_68 rfl (by omega) ?_
            refine ce_X10_141 dX10_goWeek_69 rfl (k_X10_grows rd pl pc ra up f0 su nn wk ki we _ _ _ oc oa ob os K x (ow (b + (5 * p + q))) (ki p) (ki q) hO (Nat.lt_succ_of_le (hki p (by omega))) (Nat.lt_succ_of_le (hki q (by omega))) hra hu) ?_
            refine tail _ ?_
            have e3 : wO_N nn ra up ki (sh_N b ow) (sh_N b fr) (5 * p + q) = gr_N up (tn_N ra (ki p) (ki q)) (ow (b + (5 * p + q))) := by
              rw [dO]
              unfold nw_N
              rw [if_pos (show sh_N b fr (5 * p + q) = 0 from hz), e1, e2]
              rfl
            rw [e3] at hge ⊢
            omega
          refine akN_iconst_0 dX10_goWeek_44 ?_
          refine aw_goto 72 dX10_goWeek_45 (by decide) ?_
          refine tail 0 ?_
          rw [dO]
          unfold nw_N
          rw [if_neg (show ¬ sh_N b fr (5 * p + q) = 0 by unfold sh_N; omega)]
          rfl
      refine aw_iload_3 dX10_goWeek_4 ?_
      refine aw_aload_0 dX10_goWeek_5 ?_
      refine gf_X10_93 dX10_goWeek_6 rfl rfl ?_
      refine aw_icmp_geN 153 dX10_goWeek_9 (by decide) (by omega) (by omega) (fun hh => absurd hh (by omega)) (fun _ => ?_)
      refine akN_iconst_0 dX10_goWeek_12 ?_
      refine aw_istore_4 dX10_goWeek_13 rfl (Nat.le_of_ble_eq_true rfl) ?_
      refine aw_st ?_ rfl rfl (inner nn 0 (by omega) j5 j6)
      show [_, _, Value.int _, _, _, _, _] = [_, _, Value.int (_ + 0), _, _, _, _]
      rw [Int32.add_zero]
  have h := outer nn 0 (by omega) .null .null .null
  rw [pb_0, pb_0, pb_0] at h
  exact h
theorem m_week (rd : Int32) (pl : Nat) (pc : Nat → Nat) (ra up f0 su nn : Nat) (wk : Int32) (ki we ow fr of : Nat → Nat) (oc : Nat) (oa ob os : Nat → Nat) (K : mk_T) (x : ms_T) (hra : ra ≤ 9) (hu : up ≤ 1) (hn : nn ≤ 5) (hki : ∀ k, k < nn → ki k ≤ 4) (how : ∀ k, k < 25 → ow k ≤ 9999) (hfr : ∀ k, k < 25 → fr k ≤ 9) (hof : ∀ k, k < 25 → of k ≤ 9) : AM 8 yX10_week cX10_week 1 (some .int) [.ref 0] (mw_M (rd, (pl, pc), (ra, up, f0, su, nn, wk), ki, (we, ow, fr, of), (oc, oa, ob, os)) K x) (ac_R (some (.int (gs_I nn ra up ki ow fr))) (mw_M (rd, (pl, pc), (ra, up, f0, su, nn, wk + 1), ki, (we, pb_N 0 25 ow (wO_N nn ra up ki ow fr), pb_N 0 25 fr (wM_N nn fr), pb_N 0 25 of (wM_N nn of)), (oc, oa, ob, os)) K x)) := by
  have h := k_X10_goWeek rd pl pc ra up f0 su nn (wk + 1) ki we ow fr of oc oa ob os K x 0 (by omega) hra hu hn hki (fun k hk => by rw [Nat.zero_add]; exact how k hk) (fun k hk => by rw [Nat.zero_add]; exact hfr k hk) (fun k hk => by rw [Nat.zero_add]; exact hof k hk)
  rw [sh_0, sh_0, sh_0] at h
  refine AM.of (loc := [.ref 0]) RX10 rfl (by decide +kernel) (Nat.le_of_ble_eq_true rfl) rfl ?_
  refine aw_aload_0 dX10_week_0 ?_
  refine aw_dup dX10_week_1 rfl ?_
  refine gf_X10_144 dX10_week_2 rfl rfl ?_
  refine ak_iconst_1 dX10_week_5 ?_
  refine aw_iadd dX10_week_6 ?_
  refine pf_X10_144 dX10_week_7 rfl (Nat.le_of_ble_eq_true rfl) ?_
  refine aw_w cm_0_11 ?_
  refine aw_aload_0 dX10_week_10 ?_
  refine akN_iconst_0 dX10_week_11 ?_
  refine ce_X10_147 dX10_week_12 rfl (h) ?_
  exact aw_iret dX10_week_15 rfl (⟨rfl, rfl⟩)
