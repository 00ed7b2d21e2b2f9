/-! ===== draws, years, copies, bankrupts ===== -/
def nx_N (s : Nat) : Nat := (1103515245 * s + 12345) % 2147483648
def dr_N (s d : Nat) : Nat := nx_N s / 65536 % d
theorem nx_lt (s : Nat) : nx_N s < 2147483648 := Nat.mod_lt _ (by decide)
theorem nx_eq {s : Nat} (h : s < 2147483648) : (((1103515245 : Int64) * (nI s).toInt64 + 12345) &&& 2147483647).toInt32 = nI (nx_N s) := by
  rw [nI_l h, show (1103515245 : Int64) = lN 1103515245 from rfl, show (12345 : Int64) = lN 12345 from rfl, show (2147483647 : Int64) = lN (2 ^ 31 - 1) from rfl, lN_mul, lN_add, fb_maskL, lN_i]
  rfl
def th_T : tw_T → Nat → Nat → Nat → tw_T
  | (ra, up, f0, su, nn, wk, ki, we, ow, fr, of), a, b, z => (ra, up, f0, su, nn, wk, ki, we, va_up ow (5 * b + a) (min 9999 (ow (5 * b + a) + z)), va_up fr (5 * b + a) (max (fr (5 * b + a)) f0), of)
def gt_T : tw_T → Nat → Nat → tw_T
  | (ra, up, f0, su, nn, wk, ki, we, ow, fr, of), a, b => (ra, up, f0, su, nn, wk, ki, we, ow, fr, if ki a < 4 then va_up of (5 * a + b) (max (of (5 * a + b)) su) else of)
theorem up_le {f : Nat → Nat} {c k v : Nat} (h : ∀ j, f j ≤ c) (hv : v ≤ c) : ∀ j, va_up f k v j ≤ c := by
  intro j
  unfold va_up
  split
  · exact hv
  · exact h j
theorem ok_th {t : tw_T} (h : ok_T t) (a b z : Nat) : ok_T (th_T t a b z) := by
  obtain ⟨ra, up, f0, su, nn, wk, ki, we, ow, fr, of⟩ := t
  obtain ⟨h1, h2, h3, h4, h5, h6, h7, h8, h9, h10⟩ := h
  refine ⟨h1, h2, h3, h4, h5, h6, h7, up_le h8 (Nat.min_le_left _ _), up_le h9 ?_, h10⟩
  have := h9 (5 * b + a)
  omega
theorem ok_gt {t : tw_T} (h : ok_T t) (a b : Nat) : ok_T (gt_T t a b) := by
  obtain ⟨ra, up, f0, su, nn, wk, ki, we, ow, fr, of⟩ := t
  obtain ⟨h1, h2, h3, h4, h5, h6, h7, h8, h9, h10⟩ := h
  refine ⟨h1, h2, h3, h4, h5, h6, h7, h8, h9, ?_⟩
  by_cases q : ki a < 4
  · rw [if_pos q]
    refine up_le h10 ?_
    have := h10 (5 * a + b)
    omega
  · rw [if_neg q]; exact h10
theorem ok_wk {t : tw_T} (h : ok_T t) : ok_T (wk_T t) := by
  obtain ⟨ra, up, f0, su, nn, wk, ki, we, ow, fr, of⟩ := t
  obtain ⟨h1, h2, h3, h4, h5, h6, h7, h8, h9, h10⟩ := h
  refine ⟨h1, h2, h3, h4, h5, h6, h7, fun k => ?_, fun k => ?_, fun k => ?_⟩
  · unfold wO_N nw_N
    split
    · split
      · exact gr_le _ _ _
      · exact h8 k
    · exact h8 k
  · have := h9 k
    unfold wM_N
    split <;> omega
  · have := h10 k
    unfold wM_N
    split <;> omega
/-- a week of the years by a seed -/
def yr_N : tw_T → Nat → tw_T × Nat
  | (ra, up, f0, su, nn, wk, ki, we, ow, fr, of), s =>
    if dr_N s nn ≠ dr_N (nx_N s) nn ∧ of (5 * dr_N s nn + dr_N (nx_N s) nn) = 0 then
      (if ki (dr_N (nx_N s) nn) < 3 then
        (if dr_N (nx_N (nx_N (nx_N s))) 2 = 1 then (wk_T (th_T (ra, up, f0, su, nn, wk, ki, we, ow, fr, of) (dr_N s nn) (dr_N (nx_N s) nn) (dr_N (nx_N (nx_N s)) 9 + 1)), nx_N (nx_N (nx_N (nx_N s))))
        else (wk_T (gt_T (ra, up, f0, su, nn, wk, ki, we, ow, fr, of) (dr_N s nn) (dr_N (nx_N s) nn)), nx_N (nx_N (nx_N (nx_N s)))))
      else (wk_T (gt_T (ra, up, f0, su, nn, wk, ki, we, ow, fr, of) (dr_N s nn) (dr_N (nx_N s) nn)), nx_N (nx_N (nx_N s))))
    else (wk_T (ra, up, f0, su, nn, wk, ki, we, ow, fr, of), nx_N (nx_N (nx_N s)))
theorem k_X1_next (g : Nat × Int32) (P : pg_T) (t0 t1 t2 : tw_T) (o0 o1 : of_T) (rw be : Nat → Int32) (bl bt : Int32) (sm ev : Nat → Int32) (ab ao : Int32) (rk : Nat → Int32) (s c : Nat) (hs : s < 2147483648) (hc : 0 < c) (hc2 : c < 2147483648) : AM 1 yX1_next cX1_next 2 (some .int) [.ref 39, .int (nI c)] (cw_C g P t0 t1 t2 o0 o1 ((rw, be, bl, bt), (sm, ev), (ab, ao), nI s, rk)) (ac_R (some (.int (nI (dr_N s c)))) (cw_C g P t0 t1 t2 o0 o1 ((rw, be, bl, bt), (sm, ev), (ab, ao), nI (nx_N s), rk))) := by
  have := nx_lt s
  refine AM.of (loc := [.ref 39, .int (nI c)]) RX1 rfl (by decide +kernel) (Nat.le_of_ble_eq_true rfl) rfl ?_
  refine aw_iload_1 dX1_next_0 ?_
  refine akN_iconst_1 dX1_next_1 ?_
  refine aw_icmp_geN 7 dX1_next_2 (by decide) (by omega) (by omega) (fun _ => ?_) (fun hh => absurd hh (by omega))
  refine aw_aload_0 dX1_next_7 ?_
  refine aw_ldc2 gq_615 dX1_next_8 ?_
  refine aw_aload_0 dX1_next_11 ?_
  refine gf_X1_9 dX1_next_12 rfl rfl ?_
  refine aw_i2l dX1_next_15 ?_
  refine aw_lmul dX1_next_16 ?_
  refine aw_ldc2 gq_616 dX1_next_17 ?_
  refine aw_ladd dX1_next_20 ?_
  refine aw_ldc2 gq_617 dX1_next_21 ?_
  refine aw_land dX1_next_24 ?_
  refine aw_l2i dX1_next_25 ?_
  refine aw_topi (nx_eq hs) ?_
  refine pf_X1_9 dX1_next_26 rfl (Nat.le_of_ble_eq_true rfl) ?_
  refine aw_w cs_39_0 ?_
  refine aw_aload_0 dX1_next_29 ?_
  refine gf_X1_9 dX1_next_30 rfl rfl ?_
  refine aw_ldc gq_618 dX1_next_33 ?_
  refine aw_topi (show (65536 : Int32) = nI 65536 from rfl) ?_
  refine aw_idivN dX1_next_35 (by omega) (by omega) (by omega) ?_
  refine aw_iload_1 dX1_next_36 ?_
  refine aw_iremN dX1_next_37 (by omega) (by omega) (by omega) ?_
  exact aw_iret dX1_next_38 rfl (⟨rfl, rfl⟩)
theorem k_X8_liveWeek_2 (g : Nat × Int32) (P : pg_T) (ta tb : tw_T) (o0 o1 : of_T) (rw be : Nat → Int32) (bl bt : Int32) (sm ev : Nat → Int32) (ab ao : Int32) (rk : Nat → Int32) (s : Nat) (ra up f0 su nn : Nat) (wk : Int32) (ki we ow fr of : Nat → Nat) (hs : s < 2147483648) (hok : ok_T (ra, up, f0, su, nn, wk, ki, we, ow, fr, of)) (hnn : 0 < nn) : AM 4 yX8_liveWeek cX8_liveWeek 5 none [.ref 25, .ref 39] (cw_C g P ta tb (ra, up, f0, su, nn, wk, ki, we, ow, fr, of) o0 o1 ((rw, be, bl, bt), (sm, ev), (ab, ao), nI s, rk)) (ac_R none (cw_C g P ta tb (yr_N (ra, up, f0, su, nn, wk, ki, we, ow, fr, of) s).1 o0 o1 ((rw, be, bl, bt), (sm, ev), (ab, ao), nI (yr_N (ra, up, f0, su, nn, wk, ki, we, ow, fr, of) s).2, rk))) := by
  have hok0 := hok
  obtain ⟨hra, hu, hf0, hsu, hn, hki, hwe, how, hfr, hof⟩ := hok
  have ha : dr_N s nn < nn := Nat.mod_lt _ hnn
  have hb : dr_N (nx_N s) nn < nn := Nat.mod_lt _ hnn
  have hz : dr_N (nx_N (nx_N s)) 9 < 9 := Nat.mod_lt _ (by decide)
  have hd2 : dr_N (nx_N (nx_N (nx_N s))) 2 < 2 := Nat.mod_lt _ (by decide)
  have hofk := hof (5 * dr_N s nn + dr_N (nx_N s) nn)
  refine AM.of (loc := [.ref 25, .ref 39, .null, .null, .null]) RX8 rfl (by decide +kernel) (Nat.le_of_ble_eq_true rfl) rfl ?_
  refine aw_aload_1 dX8_liveWeek_0 ?_
  refine aw_aload_0 dX8_liveWeek_1 ?_
  refine gf_X8_44 dX8_liveWeek_2 rfl rfl ?_
  refine ce_X8_113 dX8_liveWeek_5 rfl (k_X1_next _ _ _ _ _ _ _ _ _ _ _ _ _ _ _ _ s nn hs hnn (by omega)) ?_
  refine aw_istore_2 dX8_liveWeek_8 rfl (Nat.le_of_ble_eq_true rfl) ?_
  refine aw_aload_1 dX8_liveWeek_9 ?_
  refine aw_aload_0 dX8_liveWeek_10 ?_
  refine gf_X8_44 dX8_liveWeek_11 rfl rfl ?_
  refine ce_X8_113 dX8_liveWeek_14 rfl (k_X1_next _ _ _ _ _ _ _ _ _ _ _ _ _ _ _ _ (nx_N s) nn (nx_lt _) hnn (by omega)) ?_
  refine aw_istore_3 dX8_liveWeek_17 rfl (Nat.le_of_ble_eq_true rfl) ?_
  refine aw_aload_1 dX8_liveWeek_18 ?_
  refine akN_bipush_9 dX8_liveWeek_19 ?_
  refine ce_X8_113 dX8_liveWeek_21 rfl (k_X1_next _ _ _ _ _ _ _ _ _ _ _ _ _ _ _ _ (nx_N (nx_N s)) 9 (nx_lt _) (by omega) (by omega)) ?_
  refine akN_iconst_1 dX8_liveWeek_24 ?_
  refine aw_iaddN dX8_liveWeek_25 ?_
  refine aw_istore_4 dX8_liveWeek_26 rfl (Nat.le_of_ble_eq_true rfl) ?_
  refine aw_iload_2 dX8_liveWeek_28 ?_
  refine aw_iload_3 dX8_liveWeek_29 ?_
  refine aw_icmp_eqN 79 dX8_liveWeek_30 (by decide) (by omega) (by omega) (fun h1 => ?_) (fun h1 => ?_)
  · have e : yr_N (ra, up, f0, su, nn, wk, ki, we, ow, fr, of) s = (wk_T (ra, up, f0, su, nn, wk, ki, we, ow, fr, of), nx_N (nx_N (nx_N s))) := if_neg (fun q => q.1 h1)
    rw [e]
    refine aw_aload_0 dX8_liveWeek_79 ?_
    refine ce_X8_133 dX8_liveWeek_80 rfl (k_X8_passWeek_2 g P ta tb o0 o1 _ ra up f0 su nn wk ki we ow fr of hok0) ?_
    refine aw_pop dX8_liveWeek_83 rfl ?_
    exact aw_vret dX8_liveWeek_84 rfl (⟨rfl, rfl⟩)
  refine aw_aload_0 dX8_liveWeek_33 ?_
  refine aw_iload_2 dX8_liveWeek_34 ?_
  refine aw_iload_3 dX8_liveWeek_35 ?_
  refine ce_X8_118 dX8_liveWeek_36 rfl (k_X8_isOffended_2 g P ta tb o0 o1 _ ra up f0 su nn wk ki we ow fr of (dr_N s nn) (dr_N (nx_N s) nn) (by omega) (by omega) (hof _)) ?_
  by_cases h2 : 0 < of (5 * dr_N s nn + dr_N (nx_N s) nn)
  · have e : yr_N (ra, up, f0, su, nn, wk, ki, we, ow, fr, of) s = (wk_T (ra, up, f0, su, nn, wk, ki, we, ow, fr, of), nx_N (nx_N (nx_N s))) := if_neg (fun q => by omega)
    rw [e]
    refine aw_if_ne 79 dX8_liveWeek_39 (by decide) (fun _ => ?_) (fun hh => absurd hh (bI_n h2))
    refine aw_aload_0 dX8_liveWeek_79 ?_
    refine ce_X8_133 dX8_liveWeek_80 rfl (k_X8_passWeek_2 g P ta tb o0 o1 _ ra up f0 su nn wk ki we ow fr of hok0) ?_
    refine aw_pop dX8_liveWeek_83 rfl ?_
    exact aw_vret dX8_liveWeek_84 rfl (⟨rfl, rfl⟩)
  refine aw_if_ne 79 dX8_liveWeek_39 (by decide) (fun hh => absurd (bI_f h2) hh) (fun _ => ?_)
  refine aw_aload_0 dX8_liveWeek_42 ?_
  refine aw_iload_3 dX8_liveWeek_43 ?_
  refine ce_X8_90 dX8_liveWeek_44 rfl (k_X8_kindOf_2 g P ta tb o0 o1 _ ra up f0 su nn wk ki we ow fr of (dr_N (nx_N s) nn) (by omega) (hki _)) ?_
  refine gk_X8_122 (Nat.lt_succ_of_le (hki _)) dX8_liveWeek_47 ?_
  refine aw_topi (th_eq _) ?_
  by_cases h3 : ki (dr_N (nx_N s) nn) < 3
  · refine aw_if_eq 73 dX8_liveWeek_50 (by decide) (fun hh => absurd hh (bI_n h3)) (fun _ => ?_)
    refine aw_aload_1 dX8_liveWeek_53 ?_
    refine akN_iconst_2 dX8_liveWeek_54 ?_
    refine ce_X8_113 dX8_liveWeek_55 rfl (k_X1_next _ _ _ _ _ _ _ _ _ _ _ _ _ _ _ _ (nx_N (nx_N (nx_N s))) 2 (nx_lt _) (by omega) (by omega)) ?_
    refine akN_iconst_1 dX8_liveWeek_58 ?_
    refine aw_icmp_neN 73 dX8_liveWeek_59 (by decide) (by omega) (by omega) (fun h4 => ?_) (fun h4 => ?_)
    · have e : yr_N (ra, up, f0, su, nn, wk, ki, we, ow, fr, of) s = (wk_T (gt_T (ra, up, f0, su, nn, wk, ki, we, ow, fr, of) (dr_N s nn) (dr_N (nx_N s) nn)), nx_N (nx_N (nx_N (nx_N s)))) := by
        have hc : dr_N s nn ≠ dr_N (nx_N s) nn ∧ of (5 * dr_N s nn + dr_N (nx_N s) nn) = 0 := ⟨h1, by omega⟩
        exact (if_pos hc).trans ((if_pos h3).trans (if_neg h4))
      rw [e]
      refine aw_aload_0 dX8_liveWeek_73 ?_
      refine aw_iload_2 dX8_liveWeek_74 ?_
      refine aw_iload_3 dX8_liveWeek_75 ?_
      refine ce_X8_129 dX8_liveWeek_76 rfl (k_X8_grunt_2 g P ta tb o0 o1 _ ra up f0 su nn wk ki we ow fr of (dr_N s nn) (dr_N (nx_N s) nn) (by omega) (by omega) (hki _) (hof _) hsu) ?_
      refine aw_aload_0 dX8_liveWeek_79 ?_
      refine ce_X8_133 dX8_liveWeek_80 rfl (k_X8_passWeek_2 g P ta tb o0 o1 _ ra up f0 su nn wk ki we ow fr _ (ok_gt hok0 _ _)) ?_
      refine aw_pop dX8_liveWeek_83 rfl ?_
      exact aw_vret dX8_liveWeek_84 rfl (⟨rfl, rfl⟩)
    have e : yr_N (ra, up, f0, su, nn, wk, ki, we, ow, fr, of) s = (wk_T (th_T (ra, up, f0, su, nn, wk, ki, we, ow, fr, of) (dr_N s nn) (dr_N (nx_N s) nn) (dr_N (nx_N (nx_N s)) 9 + 1)), nx_N (nx_N (nx_N (nx_N s)))) := by
      have hc : dr_N s nn ≠ dr_N (nx_N s) nn ∧ of (5 * dr_N s nn + dr_N (nx_N s) nn) = 0 := ⟨h1, by omega⟩
      exact (if_pos hc).trans ((if_pos h3).trans (if_pos h4))
    rw [e]
    refine aw_aload_0 dX8_liveWeek_62 ?_
    refine aw_iload_2 dX8_liveWeek_63 ?_
    refine aw_iload_3 dX8_liveWeek_64 ?_
    refine aw_iload_4 dX8_liveWeek_65 ?_
    refine ce_X8_125 dX8_liveWeek_67 rfl (k_X8_thank_2 g P ta tb o0 o1 _ ra up f0 su nn wk ki we ow fr of (dr_N s nn) (dr_N (nx_N s) nn) (dr_N (nx_N (nx_N s)) 9 + 1) (by omega) (by omega) (by omega) (how _) (hfr _) hf0) ?_
    refine aw_goto 79 dX8_liveWeek_70 (by decide) ?_
    refine aw_aload_0 dX8_liveWeek_79 ?_
    refine ce_X8_133 dX8_liveWeek_80 rfl (k_X8_passWeek_2 g P ta tb o0 o1 _ ra up f0 su nn wk ki we _ _ of (ok_th hok0 (dr_N s nn) (dr_N (nx_N s) nn) (dr_N (nx_N (nx_N s)) 9 + 1))) ?_
    refine aw_pop dX8_liveWeek_83 rfl ?_
    exact aw_vret dX8_liveWeek_84 rfl (⟨rfl, rfl⟩)
  have e : yr_N (ra, up, f0, su, nn, wk, ki, we, ow, fr, of) s = (wk_T (gt_T (ra, up, f0, su, nn, wk, ki, we, ow, fr, of) (dr_N s nn) (dr_N (nx_N s) nn)), nx_N (nx_N (nx_N s))) := by
    have hc : dr_N s nn ≠ dr_N (nx_N s) nn ∧ of (5 * dr_N s nn + dr_N (nx_N s) nn) = 0 := ⟨h1, by omega⟩
    exact (if_pos hc).trans (if_neg h3)
  rw [e]
  refine aw_if_eq 73 dX8_liveWeek_50 (by decide) (fun _ => ?_) (fun hh => absurd (bI_f h3) hh)
  refine aw_aload_0 dX8_liveWeek_73 ?_
  refine aw_iload_2 dX8_liveWeek_74 ?_
  refine aw_iload_3 dX8_liveWeek_75 ?_
  refine ce_X8_129 dX8_liveWeek_76 rfl (k_X8_grunt_2 g P ta tb o0 o1 _ ra up f0 su nn wk ki we ow fr of (dr_N s nn) (dr_N (nx_N s) nn) (by omega) (by omega) (hki _) (hof _) hsu) ?_
  refine aw_aload_0 dX8_liveWeek_79 ?_
  refine ce_X8_133 dX8_liveWeek_80 rfl (k_X8_passWeek_2 g P ta tb o0 o1 _ ra up f0 su nn wk ki we ow fr _ (ok_gt hok0 _ _)) ?_
  refine aw_pop dX8_liveWeek_83 rfl ?_
  exact aw_vret dX8_liveWeek_84 rfl (⟨rfl, rfl⟩)
theorem k_X3_copyFrom_20 (g : Nat × Int32) (P : pg_T) (tc : tw_T) (o0 o1 : of_T) (x : sc_T) (rb ub fb sb nb : Nat) (wb : Int32) (kb eb qb hb ib : Nat → Nat) (ra up f0 su nn : Nat) (wk : Int32) (ki we ow fr of : Nat → Nat) (hu : up ≤ 1) : AM 1 yX3_copyFrom cX3_copyFrom 2 none [.ref 26, .ref 4] (cw_C g P (ra, up, f0, su, nn, wk, ki, we, ow, fr, of) tc (rb, ub, fb, sb, nb, wb, kb, eb, qb, hb, ib) o0 o1 x) (ac_R none (cw_C g P (ra, up, f0, su, nn, wk, ki, we, ow, fr, of) tc (ra, up, f0, su, nb, wb, kb, eb, qb, hb, ib) o0 o1 x)) := by
  refine AM.of (loc := [.ref 26, .ref 4]) RX3 rfl (by decide +kernel) (Nat.le_of_ble_eq_true rfl) rfl ?_
  refine aw_aload_0 dX3_copyFrom_0 ?_
  refine aw_aload_1 dX3_copyFrom_1 ?_
  refine gf_X3_9 dX3_copyFrom_2 rfl rfl ?_
  refine pf_X3_9 dX3_copyFrom_5 rfl (Nat.le_of_ble_eq_true rfl) ?_
  refine aw_w cs_26_0 ?_
  refine aw_aload_0 dX3_copyFrom_8 ?_
  refine aw_aload_1 dX3_copyFrom_9 ?_
  refine gf_X3_15 dX3_copyFrom_10 rfl rfl ?_
  refine pf_X3_15 dX3_copyFrom_13 rfl (Nat.le_of_ble_eq_true rfl) (nn_b1 hu) ?_
  refine aw_w cs_26_1 ?_
  refine aw_aload_0 dX3_copyFrom_16 ?_
  refine aw_aload_1 dX3_copyFrom_17 ?_
  refine gf_X3_29 dX3_copyFrom_18 rfl rfl ?_
  refine pf_X3_29 dX3_copyFrom_21 rfl (Nat.le_of_ble_eq_true rfl) ?_
  refine aw_w cs_26_2 ?_
  refine aw_aload_0 dX3_copyFrom_24 ?_
  refine aw_aload_1 dX3_copyFrom_25 ?_
  refine gf_X3_32 dX3_copyFrom_26 rfl rfl ?_
  refine pf_X3_32 dX3_copyFrom_29 rfl (Nat.le_of_ble_eq_true rfl) ?_
  refine aw_w cs_26_3 ?_
  exact aw_vret dX3_copyFrom_32 rfl (⟨rfl, rfl⟩)
theorem k_X8_copyFrom_20 (g : Nat × Int32) (P : pg_T) (tc : tw_T) (o0 o1 : of_T) (x : sc_T) (rb ub fb sb nb : Nat) (wb : Int32) (kb eb qb hb ib : Nat → Nat) (ra up f0 su nn : Nat) (wk : Int32) (ki we ow fr of : Nat → Nat) (hu : up ≤ 1) : AM 2 yX8_copyFrom cX8_copyFrom 2 none [.ref 25, .ref 3] (cw_C g P (ra, up, f0, su, nn, wk, ki, we, ow, fr, of) tc (rb, ub, fb, sb, nb, wb, kb, eb, qb, hb, ib) o0 o1 x) (ac_R none (cw_C g P (ra, up, f0, su, nn, wk, ki, we, ow, fr, of) tc (ra, up, f0, su, nn, wk, ki, we, ow, fr, of) o0 o1 x)) := by
  refine AM.of (loc := [.ref 25, .ref 3]) RX8 rfl (by decide +kernel) (Nat.le_of_ble_eq_true rfl) rfl ?_
  refine aw_aload_0 dX8_copyFrom_0 ?_
  refine gf_X8_12 dX8_copyFrom_1 rfl rfl ?_
  refine aw_aload_1 dX8_copyFrom_4 ?_
  refine gf_X8_12 dX8_copyFrom_5 rfl rfl ?_
  refine ce_X8_34 dX8_copyFrom_8 rfl (k_X3_copyFrom_20 g P tc o0 o1 x rb ub fb sb nb wb kb eb qb hb ib ra up f0 su nn wk ki we ow fr of hu) ?_
  refine aw_aload_1 dX8_copyFrom_11 ?_
  refine gf_X8_18 dX8_copyFrom_12 rfl rfl ?_
  refine akN_iconst_0 dX8_copyFrom_15 ?_
  refine aw_aload_0 dX8_copyFrom_16 ?_
  refine gf_X8_18 dX8_copyFrom_17 rfl rfl ?_
  refine akN_iconst_0 dX8_copyFrom_20 ?_
  refine akN_iconst_5 dX8_copyFrom_21 ?_
  refine aw_copyN gq_483 dX8_copyFrom_22 rfl rfl (Nat.le_of_ble_eq_true rfl) (by decide) ?_
  refine aw_w cs_27 ?_
  refine aw_aload_1 dX8_copyFrom_25 ?_
  refine gf_X8_22 dX8_copyFrom_26 rfl rfl ?_
  refine akN_iconst_0 dX8_copyFrom_29 ?_
  refine aw_aload_0 dX8_copyFrom_30 ?_
  refine gf_X8_22 dX8_copyFrom_31 rfl rfl ?_
  refine akN_iconst_0 dX8_copyFrom_34 ?_
  refine akN_iconst_5 dX8_copyFrom_35 ?_
  refine aw_copyN gq_483 dX8_copyFrom_36 rfl rfl (Nat.le_of_ble_eq_true rfl) (by decide) ?_
  refine aw_w cs_28 ?_
  refine aw_aload_1 dX8_copyFrom_39 ?_
  refine gf_X8_25 dX8_copyFrom_40 rfl rfl ?_
  refine akN_iconst_0 dX8_copyFrom_43 ?_
  refine aw_aload_0 dX8_copyFrom_44 ?_
  refine gf_X8_25 dX8_copyFrom_45 rfl rfl ?_
  refine akN_iconst_0 dX8_copyFrom_48 ?_
  refine akN_bipush_25 dX8_copyFrom_49 ?_
  refine aw_copyN gq_483 dX8_copyFrom_51 rfl rfl (Nat.le_of_ble_eq_true rfl) (by decide) ?_
  refine aw_w cs_29 ?_
  refine aw_aload_1 dX8_copyFrom_54 ?_
  refine gf_X8_28 dX8_copyFrom_55 rfl rfl ?_
  refine akN_iconst_0 dX8_copyFrom_58 ?_
  refine aw_aload_0 dX8_copyFrom_59 ?_
  refine gf_X8_28 dX8_copyFrom_60 rfl rfl ?_
  refine akN_iconst_0 dX8_copyFrom_63 ?_
  refine akN_bipush_25 dX8_copyFrom_64 ?_
  refine aw_copyN gq_483 dX8_copyFrom_66 rfl rfl (Nat.le_of_ble_eq_true rfl) (by decide) ?_
  refine aw_w cs_30 ?_
  refine aw_aload_1 dX8_copyFrom_69 ?_
  refine gf_X8_31 dX8_copyFrom_70 rfl rfl ?_
  refine akN_iconst_0 dX8_copyFrom_73 ?_
  refine aw_aload_0 dX8_copyFrom_74 ?_
  refine gf_X8_31 dX8_copyFrom_75 rfl rfl ?_
  refine akN_iconst_0 dX8_copyFrom_78 ?_
  refine akN_bipush_25 dX8_copyFrom_79 ?_
  refine aw_copyN gq_483 dX8_copyFrom_81 rfl rfl (Nat.le_of_ble_eq_true rfl) (by decide) ?_
  refine aw_w cs_31 ?_
  refine aw_aload_0 dX8_copyFrom_84 ?_
  refine aw_aload_1 dX8_copyFrom_85 ?_
  refine gf_X8_44 dX8_copyFrom_86 rfl rfl ?_
  refine pf_X8_44 dX8_copyFrom_89 rfl (Nat.le_of_ble_eq_true rfl) ?_
  refine aw_w cs_25_6 ?_
  refine aw_aload_0 dX8_copyFrom_92 ?_
  refine aw_aload_1 dX8_copyFrom_93 ?_
  refine gf_X8_48 dX8_copyFrom_94 rfl rfl ?_
  refine pf_X8_48 dX8_copyFrom_97 rfl (Nat.le_of_ble_eq_true rfl) ?_
  refine aw_w cs_25_7 ?_
  exact aw_vret dX8_copyFrom_100 rfl (⟨rfl, rfl⟩)
theorem k_X3_copyFrom_10 (g : Nat × Int32) (P : pg_T) (tc : tw_T) (o0 o1 : of_T) (x : sc_T) (rb ub fb sb nb : Nat) (wb : Int32) (kb eb qb hb ib : Nat → Nat) (ra up f0 su nn : Nat) (wk : Int32) (ki we ow fr of : Nat → Nat) (hu : up ≤ 1) : AM 1 yX3_copyFrom cX3_copyFrom 2 none [.ref 15, .ref 4] (cw_C g P (ra, up, f0, su, nn, wk, ki, we, ow, fr, of) (rb, ub, fb, sb, nb, wb, kb, eb, qb, hb, ib) tc o0 o1 x) (ac_R none (cw_C g P (ra, up, f0, su, nn, wk, ki, we, ow, fr, of) (ra, up, f0, su, nb, wb, kb, eb, qb, hb, ib) tc o0 o1 x)) := by
  refine AM.of (loc := [.ref 15, .ref 4]) RX3 rfl (by decide +kernel) (Nat.le_of_ble_eq_true rfl) rfl ?_
  refine aw_aload_0 dX3_copyFrom_0 ?_
  refine aw_aload_1 dX3_copyFrom_1 ?_
  refine gf_X3_9 dX3_copyFrom_2 rfl rfl ?_
  refine pf_X3_9 dX3_copyFrom_5 rfl (Nat.le_of_ble_eq_true rfl) ?_
  refine aw_w cs_15_0 ?_
  refine aw_aload_0 dX3_copyFrom_8 ?_
  refine aw_aload_1 dX3_copyFrom_9 ?_
  refine gf_X3_15 dX3_copyFrom_10 rfl rfl ?_
  refine pf_X3_15 dX3_copyFrom_13 rfl (Nat.le_of_ble_eq_true rfl) (nn_b1 hu) ?_
  refine aw_w cs_15_1 ?_
  refine aw_aload_0 dX3_copyFrom_16 ?_
  refine aw_aload_1 dX3_copyFrom_17 ?_
  refine gf_X3_29 dX3_copyFrom_18 rfl rfl ?_
  refine pf_X3_29 dX3_copyFrom_21 rfl (Nat.le_of_ble_eq_true rfl) ?_
  refine aw_w cs_15_2 ?_
  refine aw_aload_0 dX3_copyFrom_24 ?_
  refine aw_aload_1 dX3_copyFrom_25 ?_
  refine gf_X3_32 dX3_copyFrom_26 rfl rfl ?_
  refine pf_X3_32 dX3_copyFrom_29 rfl (Nat.le_of_ble_eq_true rfl) ?_
  refine aw_w cs_15_3 ?_
  exact aw_vret dX3_copyFrom_32 rfl (⟨rfl, rfl⟩)
theorem k_X8_copyFrom_10 (g : Nat × Int32) (P : pg_T) (tc : tw_T) (o0 o1 : of_T) (x : sc_T) (rb ub fb sb nb : Nat) (wb : Int32) (kb eb qb hb ib : Nat → Nat) (ra up f0 su nn : Nat) (wk : Int32) (ki we ow fr of : Nat → Nat) (hu : up ≤ 1) : AM 2 yX8_copyFrom cX8_copyFrom 2 none [.ref 14, .ref 3] (cw_C g P (ra, up, f0, su, nn, wk, ki, we, ow, fr, of) (rb, ub, fb, sb, nb, wb, kb, eb, qb, hb, ib) tc o0 o1 x) (ac_R none (cw_C g P (ra, up, f0, su, nn, wk, ki, we, ow, fr, of) (ra, up, f0, su, nn, wk, ki, we, ow, fr, of) tc o0 o1 x)) := by
  refine AM.of (loc := [.ref 14, .ref 3]) RX8 rfl (by decide +kernel) (Nat.le_of_ble_eq_true rfl) rfl ?_
  refine aw_aload_0 dX8_copyFrom_0 ?_
  refine gf_X8_12 dX8_copyFrom_1 rfl rfl ?_
  refine aw_aload_1 dX8_copyFrom_4 ?_
  refine gf_X8_12 dX8_copyFrom_5 rfl rfl ?_
  refine ce_X8_34 dX8_copyFrom_8 rfl (k_X3_copyFrom_10 g P tc o0 o1 x rb ub fb sb nb wb kb eb qb hb ib ra up f0 su nn wk ki we ow fr of hu) ?_
  refine aw_aload_1 dX8_copyFrom_11 ?_
  refine gf_X8_18 dX8_copyFrom_12 rfl rfl ?_
  refine akN_iconst_0 dX8_copyFrom_15 ?_
  refine aw_aload_0 dX8_copyFrom_16 ?_
  refine gf_X8_18 dX8_copyFrom_17 rfl rfl ?_
  refine akN_iconst_0 dX8_copyFrom_20 ?_
  refine akN_iconst_5 dX8_copyFrom_21 ?_
  refine aw_copyN gq_483 dX8_copyFrom_22 rfl rfl (Nat.le_of_ble_eq_true rfl) (by decide) ?_
  refine aw_w cs_16 ?_
  refine aw_aload_1 dX8_copyFrom_25 ?_
  refine gf_X8_22 dX8_copyFrom_26 rfl rfl ?_
  refine akN_iconst_0 dX8_copyFrom_29 ?_
  refine aw_aload_0 dX8_copyFrom_30 ?_
  refine gf_X8_22 dX8_copyFrom_31 rfl rfl ?_
  refine akN_iconst_0 dX8_copyFrom_34 ?_
  refine akN_iconst_5 dX8_copyFrom_35 ?_
  refine aw_copyN gq_483 dX8_copyFrom_36 rfl rfl (Nat.le_of_ble_eq_true rfl) (by decide) ?_
  refine aw_w cs_17 ?_
  refine aw_aload_1 dX8_copyFrom_39 ?_
  refine gf_X8_25 dX8_copyFrom_40 rfl rfl ?_
  refine akN_iconst_0 dX8_copyFrom_43 ?_
  refine aw_aload_0 dX8_copyFrom_44 ?_
  refine gf_X8_25 dX8_copyFrom_45 rfl rfl ?_
  refine akN_iconst_0 dX8_copyFrom_48 ?_
  refine akN_bipush_25 dX8_copyFrom_49 ?_
  refine aw_copyN gq_483 dX8_copyFrom_51 rfl rfl (Nat.le_of_ble_eq_true rfl) (by decide) ?_
  refine aw_w cs_18 ?_
  refine aw_aload_1 dX8_copyFrom_54 ?_
  refine gf_X8_28 dX8_copyFrom_55 rfl rfl ?_
  refine akN_iconst_0 dX8_copyFrom_58 ?_
  refine aw_aload_0 dX8_copyFrom_59 ?_
  refine gf_X8_28 dX8_copyFrom_60 rfl rfl ?_
  refine akN_iconst_0 dX8_copyFrom_63 ?_
  refine akN_bipush_25 dX8_copyFrom_64 ?_
  refine aw_copyN gq_483 dX8_copyFrom_66 rfl rfl (Nat.le_of_ble_eq_true rfl) (by decide) ?_
  refine aw_w cs_19 ?_
  refine aw_aload_1 dX8_copyFrom_69 ?_
  refine gf_X8_31 dX8_copyFrom_70 rfl rfl ?_
  refine akN_iconst_0 dX8_copyFrom_73 ?_
  refine aw_aload_0 dX8_copyFrom_74 ?_
  refine gf_X8_31 dX8_copyFrom_75 rfl rfl ?_
  refine akN_iconst_0 dX8_copyFrom_78 ?_
  refine akN_bipush_25 dX8_copyFrom_79 ?_
  refine aw_copyN gq_483 dX8_copyFrom_81 rfl rfl (Nat.le_of_ble_eq_true rfl) (by decide) ?_
  refine aw_w cs_20 ?_
  refine aw_aload_0 dX8_copyFrom_84 ?_
  refine aw_aload_1 dX8_copyFrom_85 ?_
  refine gf_X8_44 dX8_copyFrom_86 rfl rfl ?_
  refine pf_X8_44 dX8_copyFrom_89 rfl (Nat.le_of_ble_eq_true rfl) ?_
  refine aw_w cs_14_6 ?_
  refine aw_aload_0 dX8_copyFrom_92 ?_
  refine aw_aload_1 dX8_copyFrom_93 ?_
  refine gf_X8_48 dX8_copyFrom_94 rfl rfl ?_
  refine pf_X8_48 dX8_copyFrom_97 rfl (Nat.le_of_ble_eq_true rfl) ?_
  refine aw_w cs_14_7 ?_
  exact aw_vret dX8_copyFrom_100 rfl (⟨rfl, rfl⟩)
theorem k_X3_copyFrom_01 (g : Nat × Int32) (P : pg_T) (tc : tw_T) (o0 o1 : of_T) (x : sc_T) (rb ub fb sb nb : Nat) (wb : Int32) (kb eb qb hb ib : Nat → Nat) (ra up f0 su nn : Nat) (wk : Int32) (ki we ow fr of : Nat → Nat) (hu : up ≤ 1) : AM 1 yX3_copyFrom cX3_copyFrom 2 none [.ref 4, .ref 15] (cw_C g P (rb, ub, fb, sb, nb, wb, kb, eb, qb, hb, ib) (ra, up, f0, su, nn, wk, ki, we, ow, fr, of) tc o0 o1 x) (ac_R none (cw_C g P (ra, up, f0, su, nb, wb, kb, eb, qb, hb, ib) (ra, up, f0, su, nn, wk, ki, we, ow, fr, of) tc o0 o1 x)) := by
  refine AM.of (loc := [.ref 4, .ref 15]) RX3 rfl (by decide +kernel) (Nat.le_of_ble_eq_true rfl) rfl ?_
  refine aw_aload_0 dX3_copyFrom_0 ?_
  refine aw_aload_1 dX3_copyFrom_1 ?_
  refine gf_X3_9 dX3_copyFrom_2 rfl rfl ?_
  refine pf_X3_9 dX3_copyFrom_5 rfl (Nat.le_of_ble_eq_true rfl) ?_
  refine aw_w cs_4_0 ?_
  refine aw_aload_0 dX3_copyFrom_8 ?_
  refine aw_aload_1 dX3_copyFrom_9 ?_
  refine gf_X3_15 dX3_copyFrom_10 rfl rfl ?_
  refine pf_X3_15 dX3_copyFrom_13 rfl (Nat.le_of_ble_eq_true rfl) (nn_b1 hu) ?_
  refine aw_w cs_4_1 ?_
  refine aw_aload_0 dX3_copyFrom_16 ?_
  refine aw_aload_1 dX3_copyFrom_17 ?_
  refine gf_X3_29 dX3_copyFrom_18 rfl rfl ?_
  refine pf_X3_29 dX3_copyFrom_21 rfl (Nat.le_of_ble_eq_true rfl) ?_
  refine aw_w cs_4_2 ?_
  refine aw_aload_0 dX3_copyFrom_24 ?_
  refine aw_aload_1 dX3_copyFrom_25 ?_
  refine gf_X3_32 dX3_copyFrom_26 rfl rfl ?_
  refine pf_X3_32 dX3_copyFrom_29 rfl (Nat.le_of_ble_eq_true rfl) ?_
  refine aw_w cs_4_3 ?_
  exact aw_vret dX3_copyFrom_32 rfl (⟨rfl, rfl⟩)
theorem k_X8_copyFrom_01 (g : Nat × Int32) (P : pg_T) (tc : tw_T) (o0 o1 : of_T) (x : sc_T) (rb ub fb sb nb : Nat) (wb : Int32) (kb eb qb hb ib : Nat → Nat) (ra up f0 su nn : Nat) (wk : Int32) (ki we ow fr of : Nat → Nat) (hu : up ≤ 1) : AM 2 yX8_copyFrom cX8_copyFrom 2 none [.ref 3, .ref 14] (cw_C g P (rb, ub, fb, sb, nb, wb, kb, eb, qb, hb, ib) (ra, up, f0, su, nn, wk, ki, we, ow, fr, of) tc o0 o1 x) (ac_R none (cw_C g P (ra, up, f0, su, nn, wk, ki, we, ow, fr, of) (ra, up, f0, su, nn, wk, ki, we, ow, fr, of) tc o0 o1 x)) := by
  refine AM.of (loc := [.ref 3, .ref 14]) RX8 rfl (by decide +kernel) (Nat.le_of_ble_eq_true rfl) rfl ?_
  refine aw_aload_0 dX8_copyFrom_0 ?_
  refine gf_X8_12 dX8_copyFrom_1 rfl rfl ?_
  refine aw_aload_1 dX8_copyFrom_4 ?_
  refine gf_X8_12 dX8_copyFrom_5 rfl rfl ?_
  refine ce_X8_34 dX8_copyFrom_8 rfl (k_X3_copyFrom_01 g P tc o0 o1 x rb ub fb sb nb wb kb eb qb hb ib ra up f0 su nn wk ki we ow fr of hu) ?_
  refine aw_aload_1 dX8_copyFrom_11 ?_
  refine gf_X8_18 dX8_copyFrom_12 rfl rfl ?_
  refine akN_iconst_0 dX8_copyFrom_15 ?_
  refine aw_aload_0 dX8_copyFrom_16 ?_
  refine gf_X8_18 dX8_copyFrom_17 rfl rfl ?_
  refine akN_iconst_0 dX8_copyFrom_20 ?_
  refine akN_iconst_5 dX8_copyFrom_21 ?_
  refine aw_copyN gq_483 dX8_copyFrom_22 rfl rfl (Nat.le_of_ble_eq_true rfl) (by decide) ?_
  refine aw_w cs_5 ?_
  refine aw_aload_1 dX8_copyFrom_25 ?_
  refine gf_X8_22 dX8_copyFrom_26 rfl rfl ?_
  refine akN_iconst_0 dX8_copyFrom_29 ?_
  refine aw_aload_0 dX8_copyFrom_30 ?_
  refine gf_X8_22 dX8_copyFrom_31 rfl rfl ?_
  refine akN_iconst_0 dX8_copyFrom_34 ?_
  refine akN_iconst_5 dX8_copyFrom_35 ?_
  refine aw_copyN gq_483 dX8_copyFrom_36 rfl rfl (Nat.le_of_ble_eq_true rfl) (by decide) ?_
  refine aw_w cs_6 ?_
  refine aw_aload_1 dX8_copyFrom_39 ?_
  refine gf_X8_25 dX8_copyFrom_40 rfl rfl ?_
  refine akN_iconst_0 dX8_copyFrom_43 ?_
  refine aw_aload_0 dX8_copyFrom_44 ?_
  refine gf_X8_25 dX8_copyFrom_45 rfl rfl ?_
  refine akN_iconst_0 dX8_copyFrom_48 ?_
  refine akN_bipush_25 dX8_copyFrom_49 ?_
  refine aw_copyN gq_483 dX8_copyFrom_51 rfl rfl (Nat.le_of_ble_eq_true rfl) (by decide) ?_
  refine aw_w cs_7 ?_
  refine aw_aload_1 dX8_copyFrom_54 ?_
  refine gf_X8_28 dX8_copyFrom_55 rfl rfl ?_
  refine akN_iconst_0 dX8_copyFrom_58 ?_
  refine aw_aload_0 dX8_copyFrom_59 ?_
  refine gf_X8_28 dX8_copyFrom_60 rfl rfl ?_
  refine akN_iconst_0 dX8_copyFrom_63 ?_
  refine akN_bipush_25 dX8_copyFrom_64 ?_
  refine aw_copyN gq_483 dX8_copyFrom_66 rfl rfl (Nat.le_of_ble_eq_true rfl) (by decide) ?_
  refine aw_w cs_8 ?_
  refine aw_aload_1 dX8_copyFrom_69 ?_
  refine gf_X8_31 dX8_copyFrom_70 rfl rfl ?_
  refine akN_iconst_0 dX8_copyFrom_73 ?_
  refine aw_aload_0 dX8_copyFrom_74 ?_
  refine gf_X8_31 dX8_copyFrom_75 rfl rfl ?_
  refine akN_iconst_0 dX8_copyFrom_78 ?_
  refine akN_bipush_25 dX8_copyFrom_79 ?_
  refine aw_copyN gq_483 dX8_copyFrom_81 rfl rfl (Nat.le_of_ble_eq_true rfl) (by decide) ?_
  refine aw_w cs_9 ?_
  refine aw_aload_0 dX8_copyFrom_84 ?_
  refine aw_aload_1 dX8_copyFrom_85 ?_
  refine gf_X8_44 dX8_copyFrom_86 rfl rfl ?_
  refine pf_X8_44 dX8_copyFrom_89 rfl (Nat.le_of_ble_eq_true rfl) ?_
  refine aw_w cs_3_6 ?_
  refine aw_aload_0 dX8_copyFrom_92 ?_
  refine aw_aload_1 dX8_copyFrom_93 ?_
  refine gf_X8_48 dX8_copyFrom_94 rfl rfl ?_
  refine pf_X8_48 dX8_copyFrom_97 rfl (Nat.le_of_ble_eq_true rfl) ?_
  refine aw_w cs_3_7 ?_
  exact aw_vret dX8_copyFrom_100 rfl (⟨rfl, rfl⟩)
theorem k_X4_copyFrom_01 (g : Nat × Int32) (P : pg_T) (t0 t1 t2 : tw_T) (x : sc_T) (oc : Nat) (oa ob os : Nat → Nat) (pc : Nat) (pa pb ps : Nat → Nat) : AM 1 yX4_copyFrom cX4_copyFrom 2 none [.ref 10, .ref 21] (cw_C g P t0 t1 t2 (pc, pa, pb, ps) (oc, oa, ob, os) x) (ac_R none (cw_C g P t0 t1 t2 (oc, oa, ob, os) (oc, oa, ob, os) x)) := by
  refine AM.of (loc := [.ref 10, .ref 21]) RX4 rfl (by decide +kernel) (Nat.le_of_ble_eq_true rfl) rfl ?_
  refine aw_aload_1 dX4_copyFrom_0 ?_
  refine gf_X4_9 dX4_copyFrom_1 rfl rfl ?_
  refine akN_iconst_0 dX4_copyFrom_4 ?_
  refine aw_aload_0 dX4_copyFrom_5 ?_
  refine gf_X4_9 dX4_copyFrom_6 rfl rfl ?_
  refine akN_iconst_0 dX4_copyFrom_9 ?_
  refine akN_bipush_6 dX4_copyFrom_10 ?_
  refine aw_copyN gq_641 dX4_copyFrom_12 rfl rfl (Nat.le_of_ble_eq_true rfl) (by decide) ?_
  refine aw_w cs_11 ?_
  refine aw_aload_1 dX4_copyFrom_15 ?_
  refine gf_X4_15 dX4_copyFrom_16 rfl rfl ?_
  refine akN_iconst_0 dX4_copyFrom_19 ?_
  refine aw_aload_0 dX4_copyFrom_20 ?_
  refine gf_X4_15 dX4_copyFrom_21 rfl rfl ?_
  refine akN_iconst_0 dX4_copyFrom_24 ?_
  refine akN_bipush_6 dX4_copyFrom_25 ?_
  refine aw_copyN gq_641 dX4_copyFrom_27 rfl rfl (Nat.le_of_ble_eq_true rfl) (by decide) ?_
  refine aw_w cs_12 ?_
  refine aw_aload_1 dX4_copyFrom_30 ?_
  refine gf_X4_18 dX4_copyFrom_31 rfl rfl ?_
  refine akN_iconst_0 dX4_copyFrom_34 ?_
  refine aw_aload_0 dX4_copyFrom_35 ?_
  refine gf_X4_18 dX4_copyFrom_36 rfl rfl ?_
  refine akN_iconst_0 dX4_copyFrom_39 ?_
  refine akN_bipush_6 dX4_copyFrom_40 ?_
  refine aw_copyN gq_641 dX4_copyFrom_42 rfl rfl (Nat.le_of_ble_eq_true rfl) (by decide) ?_
  refine aw_w cs_13 ?_
  refine aw_aload_0 dX4_copyFrom_45 ?_
  refine aw_aload_1 dX4_copyFrom_46 ?_
  refine gf_X4_27 dX4_copyFrom_47 rfl rfl ?_
  refine pf_X4_27 dX4_copyFrom_50 rfl (Nat.le_of_ble_eq_true rfl) ?_
  refine aw_w cs_10_3 ?_
  exact aw_vret dX4_copyFrom_53 rfl (⟨rfl, rfl⟩)
theorem k_X4_copyFrom_10 (g : Nat × Int32) (P : pg_T) (t0 t1 t2 : tw_T) (x : sc_T) (oc : Nat) (oa ob os : Nat → Nat) (pc : Nat) (pa pb ps : Nat → Nat) : AM 1 yX4_copyFrom cX4_copyFrom 2 none [.ref 21, .ref 10] (cw_C g P t0 t1 t2 (oc, oa, ob, os) (pc, pa, pb, ps) x) (ac_R none (cw_C g P t0 t1 t2 (oc, oa, ob, os) (oc, oa, ob, os) x)) := by
  refine AM.of (loc := [.ref 21, .ref 10]) RX4 rfl (by decide +kernel) (Nat.le_of_ble_eq_true rfl) rfl ?_
  refine aw_aload_1 dX4_copyFrom_0 ?_
  refine gf_X4_9 dX4_copyFrom_1 rfl rfl ?_
  refine akN_iconst_0 dX4_copyFrom_4 ?_
  refine aw_aload_0 dX4_copyFrom_5 ?_
  refine gf_X4_9 dX4_copyFrom_6 rfl rfl ?_
  refine akN_iconst_0 dX4_copyFrom_9 ?_
  refine akN_bipush_6 dX4_copyFrom_10 ?_
  refine aw_copyN gq_641 dX4_copyFrom_12 rfl rfl (Nat.le_of_ble_eq_true rfl) (by decide) ?_
  refine aw_w cs_22 ?_
  refine aw_aload_1 dX4_copyFrom_15 ?_
  refine gf_X4_15 dX4_copyFrom_16 rfl rfl ?_
  refine akN_iconst_0 dX4_copyFrom_19 ?_
  refine aw_aload_0 dX4_copyFrom_20 ?_
  refine gf_X4_15 dX4_copyFrom_21 rfl rfl ?_
  refine akN_iconst_0 dX4_copyFrom_24 ?_
  refine akN_bipush_6 dX4_copyFrom_25 ?_
  refine aw_copyN gq_641 dX4_copyFrom_27 rfl rfl (Nat.le_of_ble_eq_true rfl) (by decide) ?_
  refine aw_w cs_23 ?_
  refine aw_aload_1 dX4_copyFrom_30 ?_
  refine gf_X4_18 dX4_copyFrom_31 rfl rfl ?_
  refine akN_iconst_0 dX4_copyFrom_34 ?_
  refine aw_aload_0 dX4_copyFrom_35 ?_
  refine gf_X4_18 dX4_copyFrom_36 rfl rfl ?_
  refine akN_iconst_0 dX4_copyFrom_39 ?_
  refine akN_bipush_6 dX4_copyFrom_40 ?_
  refine aw_copyN gq_641 dX4_copyFrom_42 rfl rfl (Nat.le_of_ble_eq_true rfl) (by decide) ?_
  refine aw_w cs_24 ?_
  refine aw_aload_0 dX4_copyFrom_45 ?_
  refine aw_aload_1 dX4_copyFrom_46 ?_
  refine gf_X4_27 dX4_copyFrom_47 rfl rfl ?_
  refine pf_X4_27 dX4_copyFrom_50 rfl (Nat.le_of_ble_eq_true rfl) ?_
  refine aw_w cs_21_3 ?_
  exact aw_vret dX4_copyFrom_53 rfl (⟨rfl, rfl⟩)
theorem k_X8_welcome_0 (g : Nat × Int32) (P : pg_T) (ta tb : tw_T) (o0 o1 : of_T) (x : sc_T) (ra up f0 su nn : Nat) (wk : Int32) (ki we ow fr of : Nat → Nat) (k z : Nat) (hn : nn < 5) : AM 1 yX8_welcome cX8_welcome 3 (some .int) [.ref 3, .int (nI k), .int (nI z)] (cw_C g P (ra, up, f0, su, nn, wk, ki, we, ow, fr, of) ta tb o0 o1 x) (ac_R (some (.int (nI nn))) (cw_C g P (ra, up, f0, su, nn + 1, wk, va_up ki nn k, va_up we nn z, ow, fr, of) ta tb o0 o1 x)) := by
  refine AM.of (loc := [.ref 3, .int (nI k), .int (nI z)]) RX8 rfl (by decide +kernel) (Nat.le_of_ble_eq_true rfl) rfl ?_
  refine aw_aload_0 dX8_welcome_0 ?_
  refine gf_X8_44 dX8_welcome_1 rfl rfl ?_
  refine akN_iconst_5 dX8_welcome_4 ?_
  refine aw_icmp_ltN 11 dX8_welcome_5 (by decide) (by omega) (by omega) (fun _ => ?_) (fun hh => absurd hh (by omega))
  refine aw_aload_0 dX8_welcome_11 ?_
  refine gf_X8_18 dX8_welcome_12 rfl rfl ?_
  refine aw_aload_0 dX8_welcome_15 ?_
  refine gf_X8_44 dX8_welcome_16 rfl rfl ?_
  refine aw_iload_1 dX8_welcome_19 ?_
  refine aw_iastN dX8_welcome_20 rfl hn ?_
  refine aw_w cs_5 ?_
  refine aw_aload_0 dX8_welcome_21 ?_
  refine gf_X8_22 dX8_welcome_22 rfl rfl ?_
  refine aw_aload_0 dX8_welcome_25 ?_
  refine gf_X8_44 dX8_welcome_26 rfl rfl ?_
  refine aw_iload_2 dX8_welcome_29 ?_
  refine aw_iastN dX8_welcome_30 rfl hn ?_
  refine aw_w cs_6 ?_
  refine aw_aload_0 dX8_welcome_31 ?_
  refine aw_dup dX8_welcome_32 rfl ?_
  refine gf_X8_44 dX8_welcome_33 rfl rfl ?_
  refine akN_iconst_1 dX8_welcome_36 ?_
  refine aw_iaddN dX8_welcome_37 ?_
  refine pf_X8_44 dX8_welcome_38 rfl (Nat.le_of_ble_eq_true rfl) ?_
  refine aw_w cs_3_6 ?_
  refine aw_aload_0 dX8_welcome_41 ?_
  refine gf_X8_44 dX8_welcome_42 rfl rfl ?_
  refine akN_iconst_1 dX8_welcome_45 ?_
  refine aw_isubN dX8_welcome_46 (by omega) ?_
  exact aw_iret dX8_welcome_47 rfl (⟨rfl, rfl⟩)
