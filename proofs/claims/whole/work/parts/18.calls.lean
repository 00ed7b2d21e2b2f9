/-! ===== the class's calls, outcome by outcome ===== -/
theorem c_letter_out (ik : Nat) (rd : Int32) (pl : Nat) (pc : Nat → Nat) (ra up f0 su nn : Nat) (wk : Int32) (ki we ow fr of : Nat → Nat) (t1 t2 : tw_T) (oc : Nat) (oa ob os : Nat → Nat) (o1 : of_T) (x : sc_T) (c : Int32) (h : ¬ (32 ≤ c ∧ c ≤ 126)) : AM 8 yX9_letter cX9_letter 2 (some .int) [.ref 0, .int c] (cw_C (ik, rd) (pl, pc) (ra, up, f0, su, nn, wk, ki, we, ow, fr, of) t1 t2 (oc, oa, ob, os) o1 x) (ac_R (some (.int (-102))) (cw_C (ik, rd) (pl, pc) (ra, up, f0, su, nn, wk, ki, we, ow, fr, of) t1 t2 (oc, oa, ob, os) o1 x)) := by
  refine AM.of (loc := [.ref 0, .int c]) RX9 rfl (by decide +kernel) (Nat.le_of_ble_eq_true rfl) rfl ?_
  refine aw_iload_1 dX9_letter_0 ?_
  refine ak_bipush_32 dX9_letter_1 ?_
  refine ak_bipush_126 dX9_letter_3 ?_
  refine ce_X9_71 dX9_letter_5 (k_X9_within _ c 32 126) ?_
  refine aw_if_ne 14 dX9_letter_8 (by decide) (fun hh => absurd (bI_f h) hh) (fun _ => ?_)
  refine ak_bipush_m102 dX9_letter_11 ?_
  exact aw_iret dX9_letter_13 rfl (⟨rfl, rfl⟩)
theorem c_letter_full (ik : Nat) (rd : Int32) (pl : Nat) (pc : Nat → Nat) (ra up f0 su nn : Nat) (wk : Int32) (ki we ow fr of : Nat → Nat) (t1 t2 : tw_T) (oc : Nat) (oa ob os : Nat → Nat) (o1 : of_T) (x : sc_T) (c : Int32) (h : 32 ≤ c ∧ c ≤ 126) (hp : pl = 6) : AM 8 yX9_letter cX9_letter 2 (some .int) [.ref 0, .int c] (cw_C (ik, rd) (pl, pc) (ra, up, f0, su, nn, wk, ki, we, ow, fr, of) t1 t2 (oc, oa, ob, os) o1 x) (ac_R (some (.int (-104))) (cw_C (ik, rd) (pl, pc) (ra, up, f0, su, nn, wk, ki, we, ow, fr, of) t1 t2 (oc, oa, ob, os) o1 x)) := by
  refine AM.of (loc := [.ref 0, .int c]) RX9 rfl (by decide +kernel) (Nat.le_of_ble_eq_true rfl) rfl ?_
  refine aw_iload_1 dX9_letter_0 ?_
  refine ak_bipush_32 dX9_letter_1 ?_
  refine ak_bipush_126 dX9_letter_3 ?_
  refine ce_X9_71 dX9_letter_5 (k_X9_within _ c 32 126) ?_
  refine aw_if_ne 14 dX9_letter_8 (by decide) (fun _ => ?_) (fun hh => absurd hh (bI_n h))
  refine aw_aload_0 dX9_letter_14 ?_
  refine gf_X9_12 dX9_letter_15 rfl rfl ?_
  refine gf_X9_75 dX9_letter_18 rfl rfl ?_
  refine akN_bipush_6 dX9_letter_21 ?_
  refine aw_icmp_ltN 29 dX9_letter_23 (by decide) (by omega) (by omega) (fun hh => absurd hh (by omega)) (fun _ => ?_)
  refine ak_bipush_m104 dX9_letter_26 ?_
  exact aw_iret dX9_letter_28 rfl (⟨rfl, rfl⟩)
theorem c_letter_ok (ik : Nat) (rd : Int32) (pl : Nat) (pc : Nat → Nat) (ra up f0 su nn : Nat) (wk : Int32) (ki we ow fr of : Nat → Nat) (t1 t2 : tw_T) (oc : Nat) (oa ob os : Nat → Nat) (o1 : of_T) (x : sc_T) (c : Nat) (h : (32 : Int32) ≤ nI c ∧ nI c ≤ 126) (hp : pl < 6) : AM 8 yX9_letter cX9_letter 2 (some .int) [.ref 0, .int (nI c)] (cw_C (ik, rd) (pl, pc) (ra, up, f0, su, nn, wk, ki, we, ow, fr, of) t1 t2 (oc, oa, ob, os) o1 x) (ac_R (some (.int (nI (pl + 1)))) (cw_C (ik, rd) (pl + 1, va_up pc pl c) (ra, up, f0, su, nn, wk, ki, we, ow, fr, of) t1 t2 (oc, oa, ob, os) o1 x)) := by
  refine AM.of (loc := [.ref 0, .int (nI c)]) RX9 rfl (by decide +kernel) (Nat.le_of_ble_eq_true rfl) rfl ?_
  refine aw_iload_1 dX9_letter_0 ?_
  refine ak_bipush_32 dX9_letter_1 ?_
  refine ak_bipush_126 dX9_letter_3 ?_
  refine ce_X9_71 dX9_letter_5 (k_X9_within _ (nI c) 32 126) ?_
  refine aw_if_ne 14 dX9_letter_8 (by decide) (fun _ => ?_) (fun hh => absurd hh (bI_n h))
  refine aw_aload_0 dX9_letter_14 ?_
  refine gf_X9_12 dX9_letter_15 rfl rfl ?_
  refine gf_X9_75 dX9_letter_18 rfl rfl ?_
  refine akN_bipush_6 dX9_letter_21 ?_
  refine aw_icmp_ltN 29 dX9_letter_23 (by decide) (by omega) (by omega) (fun _ => ?_) (fun hh => absurd hh (by omega))
  refine aw_aload_0 dX9_letter_29 ?_
  refine gf_X9_12 dX9_letter_30 rfl rfl ?_
  refine aw_iload_1 dX9_letter_33 ?_
  refine ce_X9_79 dX9_letter_34 rfl (k_X5_put _ pl pc _ _ _ _ _ _ c hp) ?_
  refine aw_aload_0 dX9_letter_37 ?_
  refine gf_X9_12 dX9_letter_38 rfl rfl ?_
  refine gf_X9_75 dX9_letter_41 rfl rfl ?_
  exact aw_iret dX9_letter_44 rfl (⟨rfl, rfl⟩)
theorem c_blank (ik : Nat) (rd : Int32) (pl : Nat) (pc : Nat → Nat) (ra up f0 su nn : Nat) (wk : Int32) (ki we ow fr of : Nat → Nat) (t1 t2 : tw_T) (oc : Nat) (oa ob os : Nat → Nat) (o1 : of_T) (x : sc_T) : AM 8 yX9_blank cX9_blank 2 (some .int) [.ref 0] (cw_C (ik, rd) (pl, pc) (ra, up, f0, su, nn, wk, ki, we, ow, fr, of) t1 t2 (oc, oa, ob, os) o1 x) (ac_R (some (.int (nI pl))) (cw_C (ik, rd) (0, pc) (ra, up, f0, su, nn, wk, ki, we, ow, fr, of) t1 t2 (oc, oa, ob, os) o1 x)) := by
  refine AM.of (loc := [.ref 0, .null]) RX9 rfl (by decide +kernel) (Nat.le_of_ble_eq_true rfl) rfl ?_
  refine aw_aload_0 dX9_blank_0 ?_
  refine gf_X9_12 dX9_blank_1 rfl rfl ?_
  refine gf_X9_75 dX9_blank_4 rfl rfl ?_
  refine aw_istore_1 dX9_blank_7 rfl (Nat.le_of_ble_eq_true rfl) ?_
  refine aw_aload_0 dX9_blank_8 ?_
  refine gf_X9_12 dX9_blank_9 rfl rfl ?_
  refine akN_iconst_0 dX9_blank_12 ?_
  refine pf_X9_75 dX9_blank_13 rfl (Nat.le_of_ble_eq_true rfl) ?_
  refine aw_w cs_1_1 ?_
  refine aw_iload_1 dX9_blank_16 ?_
  exact aw_iret dX9_blank_17 rfl (⟨rfl, rfl⟩)
theorem c_fault (ik : Nat) (rd : Int32) (pl : Nat) (pc : Nat → Nat) (ra up f0 su nn : Nat) (wk : Int32) (ki we ow fr of : Nat → Nat) (t1 t2 : tw_T) (oc : Nat) (oa ob os : Nat → Nat) (o1 : of_T) (x : sc_T) (hp : pl ≤ 6) (hc : ∀ k, pc k ≤ 126) : AM 8 yX9_fault cX9_fault 1 (some .int) [.ref 0] (cw_C (ik, rd) (pl, pc) (ra, up, f0, su, nn, wk, ki, we, ow, fr, of) t1 t2 (oc, oa, ob, os) o1 x) (ac_R (some (.int (nI (fl_N pl pc)))) (cw_C (ik, rd) (pl, pc) (ra, up, f0, su, nn, wk, ki, we, ow, fr, of) t1 t2 (oc, oa, ob, os) o1 x)) := by
  refine AM.of (loc := [.ref 0]) RX9 rfl (by decide +kernel) (Nat.le_of_ble_eq_true rfl) rfl ?_
  refine aw_aload_0 dX9_fault_0 ?_
  refine gf_X9_12 dX9_fault_1 rfl rfl ?_
  refine ce_X9_83 dX9_fault_4 rfl (k_X5_firstFault _ pl pc _ _ _ _ _ _ hp hc) ?_
  exact aw_iret dX9_fault_7 rfl (⟨rfl, rfl⟩)
theorem c_law_no (ik : Nat) (rd : Int32) (pl : Nat) (pc : Nat → Nat) (ra up f0 su nn : Nat) (wk : Int32) (ki we ow fr of : Nat → Nat) (t1 t2 : tw_T) (oc : Nat) (oa ob os : Nat → Nat) (o1 : of_T) (x : sc_T) (hp : pl ≤ 6) (hc : ∀ k, pc k ≤ 126) (h : ¬ (pl = 4 ∧ fl_N pl pc = 4)) : AM 8 yX9_law cX9_law 1 (some .int) [.ref 0] (cw_C (ik, rd) (pl, pc) (ra, up, f0, su, nn, wk, ki, we, ow, fr, of) t1 t2 (oc, oa, ob, os) o1 x) (ac_R (some (.int (-103))) (cw_C (ik, rd) (pl, pc) (ra, up, f0, su, nn, wk, ki, we, ow, fr, of) t1 t2 (oc, oa, ob, os) o1 x)) := by
  refine AM.of (loc := [.ref 0]) RX9 rfl (by decide +kernel) (Nat.le_of_ble_eq_true rfl) rfl ?_
  refine aw_aload_0 dX9_law_0 ?_
  refine gf_X9_12 dX9_law_1 rfl rfl ?_
  refine ce_X9_87 dX9_law_4 rfl (k_X5_isLaw _ pl pc _ _ _ _ _ _ hp hc) ?_
  refine aw_if_ne 13 dX9_law_7 (by decide) (fun hh => absurd (bI_f h) hh) (fun _ => ?_)
  refine ak_bipush_m103 dX9_law_10 ?_
  exact aw_iret dX9_law_12 rfl (⟨rfl, rfl⟩)
theorem fl_all {pl : Nat} {pc : Nat → Nat} (h : fl_N pl pc = pl) {k : Nat} (hk : k < pl) : ft_B pc k = true := by
  have := fa_first_no (fun k => !ft_B pc k) pl k (by unfold fl_N at h; omega)
  simpa using this
theorem fl_dig {pc : Nat → Nat} {k : Nat} (h : ft_B pc k = true) (hk : k ≠ 1) : 48 ≤ pc k ∧ pc k ≤ 57 := by
  unfold ft_B at h
  rw [if_neg hk] at h
  simp at h
  exact h.2
theorem c_law_ok (ik : Nat) (rd : Int32) (pl : Nat) (pc : Nat → Nat) (ra up f0 su nn : Nat) (wk : Int32) (ki we ow fr of : Nat → Nat) (t1 t2 : tw_T) (oc : Nat) (oa ob os : Nat → Nat) (o1 : of_T) (x : sc_T) (hp : pl ≤ 6) (hc : ∀ k, pc k ≤ 126) (h : pl = 4 ∧ fl_N pl pc = 4) : AM 8 yX9_law cX9_law 1 (some .int) [.ref 0] (cw_C (ik, rd) (pl, pc) (ra, up, f0, su, nn, wk, ki, we, ow, fr, of) t1 t2 (oc, oa, ob, os) o1 x) (ac_R (some (.int (rd + 1))) (cw_C (ik, rd + 1) (0, pc) (pc 0 - 48, (if pc 1 = 117 then 1 else 0), pc 2 - 48, pc 3 - 48, nn, wk, ki, we, ow, fr, of) t1 t2 (oc, oa, ob, os) o1 x)) := by
  have hf : ∀ k, k < 4 → ft_B pc k = true := fun k hk => fl_all (pl := pl) (by omega) (by omega)
  refine AM.of (loc := [.ref 0]) RX9 rfl (by decide +kernel) (Nat.le_of_ble_eq_true rfl) rfl ?_
  refine aw_aload_0 dX9_law_0 ?_
  refine gf_X9_12 dX9_law_1 rfl rfl ?_
  refine ce_X9_87 dX9_law_4 rfl (k_X5_isLaw _ pl pc _ _ _ _ _ _ hp hc) ?_
  refine aw_if_ne 13 dX9_law_7 (by decide) (fun _ => ?_) (fun hh => absurd hh (bI_n h))
  refine aw_aload_0 dX9_law_13 ?_
  refine gf_X9_19 dX9_law_14 rfl rfl ?_
  refine gf_X9_91 dX9_law_17 rfl rfl ?_
  refine aw_aload_0 dX9_law_20 ?_
  refine gf_X9_12 dX9_law_21 rfl rfl ?_
  refine ce_X9_95 dX9_law_24 rfl (k_X3_readFrom (ik, rd) pl pc t1 t2 _ _ x ra up f0 su nn wk ki we ow fr of (fl_dig (hf 0 (by omega)) (by decide)).1 (hc 1) (fl_dig (hf 2 (by omega)) (by decide)).1 (fl_dig (hf 3 (by omega)) (by decide)).1) ?_
  refine aw_aload_0 dX9_law_27 ?_
  refine gf_X9_12 dX9_law_28 rfl rfl ?_
  refine akN_iconst_0 dX9_law_31 ?_
  refine pf_X9_75 dX9_law_32 rfl (Nat.le_of_ble_eq_true rfl) ?_
  refine aw_w cs_1_1 ?_
  refine aw_aload_0 dX9_law_35 ?_
  refine aw_dup dX9_law_36 rfl ?_
  refine gf_X9_101 dX9_law_37 rfl rfl ?_
  refine ak_iconst_1 dX9_law_40 ?_
  refine aw_iadd dX9_law_41 ?_
  refine pf_X9_101 dX9_law_42 rfl (Nat.le_of_ble_eq_true rfl) ?_
  refine aw_w cs_0_12 ?_
  refine aw_aload_0 dX9_law_45 ?_
  refine gf_X9_101 dX9_law_46 rfl rfl ?_
  exact aw_iret dX9_law_49 rfl (⟨rfl, rfl⟩)
theorem c_person_out (ik : Nat) (rd : Int32) (pl : Nat) (pc : Nat → Nat) (ra up f0 su nn : Nat) (wk : Int32) (ki we ow fr of : Nat → Nat) (t1 t2 : tw_T) (oc : Nat) (oa ob os : Nat → Nat) (o1 : of_T) (x : sc_T) (k z : Int32) (h : ¬ ((0 ≤ k ∧ k ≤ 4) ∧ 0 ≤ z ∧ z ≤ 99)) : AM 8 yX9_person cX9_person 3 (some .int) [.ref 0, .int k, .int z] (cw_C (ik, rd) (pl, pc) (ra, up, f0, su, nn, wk, ki, we, ow, fr, of) t1 t2 (oc, oa, ob, os) o1 x) (ac_R (some (.int (-102))) (cw_C (ik, rd) (pl, pc) (ra, up, f0, su, nn, wk, ki, we, ow, fr, of) t1 t2 (oc, oa, ob, os) o1 x)) := by
  refine AM.of (loc := [.ref 0, .int k, .int z]) RX9 rfl (by decide +kernel) (Nat.le_of_ble_eq_true rfl) rfl ?_
  by_cases h1 : 0 ≤ k ∧ k ≤ 4
  · refine aw_iload_1 dX9_person_0 ?_
    refine ce_X9_104 dX9_person_1 (k_X9_isKind _ k) ?_
    refine aw_if_eq 17 dX9_person_4 (by decide) (fun hh => absurd hh (bI_n h1)) (fun _ => ?_)
    refine aw_iload_2 dX9_person_7 ?_
    refine ak_iconst_0 dX9_person_8 ?_
    refine ak_bipush_99 dX9_person_9 ?_
    refine ce_X9_71 dX9_person_11 (k_X9_within _ z 0 99) ?_
    refine aw_if_ne 20 dX9_person_14 (by decide) (fun hh => absurd (bI_f (fun q => h ⟨h1, q⟩)) hh) (fun _ => ?_)
    refine ak_bipush_m102 dX9_person_17 ?_
    exact aw_iret dX9_person_19 rfl (⟨rfl, rfl⟩)
  refine aw_iload_1 dX9_person_0 ?_
  refine ce_X9_104 dX9_person_1 (k_X9_isKind _ k) ?_
  refine aw_if_eq 17 dX9_person_4 (by decide) (fun _ => ?_) (fun hh => absurd (bI_f h1) hh)
  refine ak_bipush_m102 dX9_person_17 ?_
  exact aw_iret dX9_person_19 rfl (⟨rfl, rfl⟩)
theorem c_person_full (ik : Nat) (rd : Int32) (pl : Nat) (pc : Nat → Nat) (ra up f0 su nn : Nat) (wk : Int32) (ki we ow fr of : Nat → Nat) (t1 t2 : tw_T) (oc : Nat) (oa ob os : Nat → Nat) (o1 : of_T) (x : sc_T) (k z : Int32) (h : (0 ≤ k ∧ k ≤ 4) ∧ 0 ≤ z ∧ z ≤ 99) (hn : nn = 5) : AM 8 yX9_person cX9_person 3 (some .int) [.ref 0, .int k, .int z] (cw_C (ik, rd) (pl, pc) (ra, up, f0, su, nn, wk, ki, we, ow, fr, of) t1 t2 (oc, oa, ob, os) o1 x) (ac_R (some (.int (-104))) (cw_C (ik, rd) (pl, pc) (ra, up, f0, su, nn, wk, ki, we, ow, fr, of) t1 t2 (oc, oa, ob, os) o1 x)) := by
  refine AM.of (loc := [.ref 0, .int k, .int z]) RX9 rfl (by decide +kernel) (Nat.le_of_ble_eq_true rfl) rfl ?_
  refine aw_iload_1 dX9_person_0 ?_
  refine ce_X9_104 dX9_person_1 (k_X9_isKind _ k) ?_
  refine aw_if_eq 17 dX9_person_4 (by decide) (fun hh => absurd hh (bI_n h.1)) (fun _ => ?_)
  refine aw_iload_2 dX9_person_7 ?_
  refine ak_iconst_0 dX9_person_8 ?_
  refine ak_bipush_99 dX9_person_9 ?_
  refine ce_X9_71 dX9_person_11 (k_X9_within _ z 0 99) ?_
  refine aw_if_ne 20 dX9_person_14 (by decide) (fun _ => ?_) (fun hh => absurd hh (bI_n h.2))
  refine aw_aload_0 dX9_person_20 ?_
  refine gf_X9_19 dX9_person_21 rfl rfl ?_
  refine gf_X9_108 dX9_person_24 rfl rfl ?_
  refine akN_iconst_5 dX9_person_27 ?_
  refine aw_icmp_ltN 34 dX9_person_28 (by decide) (by omega) (by omega) (fun hh => absurd hh (by omega)) (fun _ => ?_)
  refine ak_bipush_m104 dX9_person_31 ?_
  exact aw_iret dX9_person_33 rfl (⟨rfl, rfl⟩)
theorem c_person_ok (ik : Nat) (rd : Int32) (pl : Nat) (pc : Nat → Nat) (ra up f0 su nn : Nat) (wk : Int32) (ki we ow fr of : Nat → Nat) (t1 t2 : tw_T) (oc : Nat) (oa ob os : Nat → Nat) (o1 : of_T) (x : sc_T) (k z : Nat) (h : ((0 : Int32) ≤ nI k ∧ nI k ≤ 4) ∧ (0 : Int32) ≤ nI z ∧ nI z ≤ 99) (hn : nn < 5) : AM 8 yX9_person cX9_person 3 (some .int) [.ref 0, .int (nI k), .int (nI z)] (cw_C (ik, rd) (pl, pc) (ra, up, f0, su, nn, wk, ki, we, ow, fr, of) t1 t2 (oc, oa, ob, os) o1 x) (ac_R (some (.int (nI nn))) (cw_C (ik, rd) (pl, pc) (ra, up, f0, su, nn + 1, wk, va_up ki nn k, va_up we nn z, ow, fr, of) t1 t2 (oc, oa, ob, os) o1 x)) := by
  refine AM.of (loc := [.ref 0, .int (nI k), .int (nI z)]) RX9 rfl (by decide +kernel) (Nat.le_of_ble_eq_true rfl) rfl ?_
  refine aw_iload_1 dX9_person_0 ?_
  refine ce_X9_104 dX9_person_1 (k_X9_isKind _ (nI k)) ?_
  refine aw_if_eq 17 dX9_person_4 (by decide) (fun hh => absurd hh (bI_n h.1)) (fun _ => ?_)
  refine aw_iload_2 dX9_person_7 ?_
  refine ak_iconst_0 dX9_person_8 ?_
  refine ak_bipush_99 dX9_person_9 ?_
  refine ce_X9_71 dX9_person_11 (k_X9_within _ (nI z) 0 99) ?_
  refine aw_if_ne 20 dX9_person_14 (by decide) (fun _ => ?_) (fun hh => absurd hh (bI_n h.2))
  refine aw_aload_0 dX9_person_20 ?_
  refine gf_X9_19 dX9_person_21 rfl rfl ?_
  refine gf_X9_108 dX9_person_24 rfl rfl ?_
  refine akN_iconst_5 dX9_person_27 ?_
  refine aw_icmp_ltN 34 dX9_person_28 (by decide) (by omega) (by omega) (fun _ => ?_) (fun hh => absurd hh (by omega))
  refine aw_aload_0 dX9_person_34 ?_
  refine gf_X9_19 dX9_person_35 rfl rfl ?_
  refine aw_iload_1 dX9_person_38 ?_
  refine aw_iload_2 dX9_person_39 ?_
  refine ce_X9_111 dX9_person_40 rfl (k_X8_welcome_0 (ik, rd) (pl, pc) t1 t2 (oc, oa, ob, os) o1 x ra up f0 su nn wk ki we ow fr of k z hn) ?_
  exact aw_iret dX9_person_43 rfl (⟨rfl, rfl⟩)
theorem c_about_no (ik : Nat) (rd : Int32) (pl : Nat) (pc : Nat → Nat) (ra up f0 su nn : Nat) (wk : Int32) (ki we ow fr of : Nat → Nat) (t1 t2 : tw_T) (oc : Nat) (oa ob os : Nat → Nat) (o1 : of_T) (x : sc_T) (a w : Int32) (h : ¬ hs_P nn a) : AM 8 yX9_about cX9_about 3 (some .int) [.ref 0, .int a, .int w] (cw_C (ik, rd) (pl, pc) (ra, up, f0, su, nn, wk, ki, we, ow, fr, of) t1 t2 (oc, oa, ob, os) o1 x) (ac_R (some (.int (-101))) (cw_C (ik, rd) (pl, pc) (ra, up, f0, su, nn, wk, ki, we, ow, fr, of) t1 t2 (oc, oa, ob, os) o1 x)) := by
  refine AM.of (loc := [.ref 0, .int a, .int w]) RX9 rfl (by decide +kernel) (Nat.le_of_ble_eq_true rfl) rfl ?_
  refine aw_aload_0 dX9_about_0 ?_
  refine gf_X9_19 dX9_about_1 rfl rfl ?_
  refine aw_iload_1 dX9_about_4 ?_
  refine ce_X9_115 dX9_about_5 rfl (k_X8_has_0 (ik, rd) (pl, pc) t1 t2 (oc, oa, ob, os) o1 x ra up f0 su nn wk ki we ow fr of a) ?_
  refine aw_if_ne 14 dX9_about_8 (by decide) (fun hh => absurd (bI_f h) hh) (fun _ => ?_)
  refine ak_bipush_m101 dX9_about_11 ?_
  exact aw_iret dX9_about_13 rfl (⟨rfl, rfl⟩)
theorem c_about_out (ik : Nat) (rd : Int32) (pl : Nat) (pc : Nat → Nat) (ra up f0 su nn : Nat) (wk : Int32) (ki we ow fr of : Nat → Nat) (t1 t2 : tw_T) (oc : Nat) (oa ob os : Nat → Nat) (o1 : of_T) (x : sc_T) (a w : Int32) (h : hs_P nn a) (hw : w.toInt < 0 ∨ 5 < w.toInt) : AM 8 yX9_about cX9_about 3 (some .int) [.ref 0, .int a, .int w] (cw_C (ik, rd) (pl, pc) (ra, up, f0, su, nn, wk, ki, we, ow, fr, of) t1 t2 (oc, oa, ob, os) o1 x) (ac_R (some (.int (-102))) (cw_C (ik, rd) (pl, pc) (ra, up, f0, su, nn, wk, ki, we, ow, fr, of) t1 t2 (oc, oa, ob, os) o1 x)) := by
  refine AM.of (loc := [.ref 0, .int a, .int w]) RX9 rfl (by decide +kernel) (Nat.le_of_ble_eq_true rfl) rfl ?_
  refine aw_aload_0 dX9_about_0 ?_
  refine gf_X9_19 dX9_about_1 rfl rfl ?_
  refine aw_iload_1 dX9_about_4 ?_
  refine ce_X9_115 dX9_about_5 rfl (k_X8_has_0 (ik, rd) (pl, pc) t1 t2 (oc, oa, ob, os) o1 x ra up f0 su nn wk ki we ow fr of a) ?_
  refine aw_if_ne 14 dX9_about_8 (by decide) (fun _ => ?_) (fun hh => absurd hh (bI_n h))
  refine aw_iload_2 dX9_about_14 ?_
  refine aw_tableOut 111 dX9_about_15 (hw) (by decide) ?_
  refine ak_bipush_m102 dX9_about_111 ?_
  exact aw_iret dX9_about_113 rfl (⟨rfl, rfl⟩)
/-- what about() tells of one -/
def ab_I (nn : Nat) (ki we ow : Nat → Nat) (p : Nat) : Nat → Int32
  | 0 => nI (ki p)
  | 1 => nI (we p)
  | 2 => nI (fb_sm (fun q => ow (5 * p + q)) nn)
  | 3 => nI (fb_sm (fun q => ow (5 * q + p)) nn)
  | 4 => nt_I nn we ow p
  | _ => bI (nt_I nn we ow p < 0)
theorem c_about_ok (ik : Nat) (rd : Int32) (pl : Nat) (pc : Nat → Nat) (ra up f0 su nn : Nat) (wk : Int32) (ki we ow fr of : Nat → Nat) (t1 t2 : tw_T) (oc : Nat) (oa ob os : Nat → Nat) (o1 : of_T) (x : sc_T) (p w : Nat) (hn : nn ≤ 5) (hp : p < nn) (hw : w < 6) : AM 8 yX9_about cX9_about 3 (some .int) [.ref 0, .int (nI p), .int (nI w)] (cw_C (ik, rd) (pl, pc) (ra, up, f0, su, nn, wk, ki, we, ow, fr, of) t1 t2 (oc, oa, ob, os) o1 x) (ac_R (some (.int (ab_I nn ki we ow p w))) (cw_C (ik, rd) (pl, pc) (ra, up, f0, su, nn, wk, ki, we, ow, fr, of) t1 t2 (oc, oa, ob, os) o1 x)) := by
  have h : hs_P nn (nI p) := hs_of hp (by omega)
  refine AM.of (loc := [.ref 0, .int (nI p), .int (nI w)]) RX9 rfl (by decide +kernel) (Nat.le_of_ble_eq_true rfl) rfl ?_
  refine aw_aload_0 dX9_about_0 ?_
  refine gf_X9_19 dX9_about_1 rfl rfl ?_
  refine aw_iload_1 dX9_about_4 ?_
  refine ce_X9_115 dX9_about_5 rfl (k_X8_has_0 (ik, rd) (pl, pc) t1 t2 (oc, oa, ob, os) o1 x ra up f0 su nn wk ki we ow fr of (nI p)) ?_
  refine aw_if_ne 14 dX9_about_8 (by decide) (fun _ => ?_) (fun hh => absurd hh (bI_n h))
  refine aw_iload_2 dX9_about_14 ?_
  match w, hw with
  | 0, _ =>
    refine aw_tableIn (off := 37) 52 dX9_about_15 (by decide) (by decide) (by decide +kernel) (by decide) ?_
    refine aw_aload_0 dX9_about_52 ?_
    refine gf_X9_19 dX9_about_53 rfl rfl ?_
    refine gf_X9_118 dX9_about_56 rfl rfl ?_
    refine aw_iload_1 dX9_about_59 ?_
    refine aw_ialdN dX9_about_60 rfl (by omega) ?_
    exact aw_iret dX9_about_61 rfl (⟨rfl, rfl⟩)
  | 1, _ =>
    refine aw_tableIn (off := 47) 62 dX9_about_15 (by decide) (by decide) (by decide +kernel) (by decide) ?_
    refine aw_aload_0 dX9_about_62 ?_
    refine gf_X9_19 dX9_about_63 rfl rfl ?_
    refine gf_X9_121 dX9_about_66 rfl rfl ?_
    refine aw_iload_1 dX9_about_69 ?_
    refine aw_ialdN dX9_about_70 rfl (by omega) ?_
    exact aw_iret dX9_about_71 rfl (⟨rfl, rfl⟩)
  | 2, _ =>
    refine aw_tableIn (off := 57) 72 dX9_about_15 (by decide) (by decide) (by decide +kernel) (by decide) ?_
    refine aw_aload_0 dX9_about_72 ?_
    refine gf_X9_19 dX9_about_73 rfl rfl ?_
    refine aw_iload_1 dX9_about_76 ?_
    refine ce_X9_124 dX9_about_77 rfl (k_X8_owedBy_0 (ik, rd) (pl, pc) t1 t2 (oc, oa, ob, os) o1 x ra up f0 su nn wk ki we ow fr of p hn (by omega)) ?_
    exact aw_iret dX9_about_80 rfl (⟨rfl, rfl⟩)
  | 3, _ =>
    refine aw_tableIn (off := 66) 81 dX9_about_15 (by decide) (by decide) (by decide +kernel) (by decide) ?_
    refine aw_aload_0 dX9_about_81 ?_
    refine gf_X9_19 dX9_about_82 rfl rfl ?_
    refine aw_iload_1 dX9_about_85 ?_
    refine ce_X9_128 dX9_about_86 rfl (k_X8_owedTo_0 (ik, rd) (pl, pc) t1 t2 (oc, oa, ob, os) o1 x ra up f0 su nn wk ki we ow fr of p hn (by omega)) ?_
    exact aw_iret dX9_about_89 rfl (⟨rfl, rfl⟩)
  | 4, _ =>
    refine aw_tableIn (off := 75) 90 dX9_about_15 (by decide) (by decide) (by decide +kernel) (by decide) ?_
    refine aw_aload_0 dX9_about_90 ?_
    refine gf_X9_19 dX9_about_91 rfl rfl ?_
    refine aw_iload_1 dX9_about_94 ?_
    refine ce_X9_131 dX9_about_95 rfl (k_X8_net_0 (ik, rd) (pl, pc) t1 t2 (oc, oa, ob, os) o1 x ra up f0 su nn wk ki we ow fr of p hn (by omega)) ?_
    exact aw_iret dX9_about_98 rfl (⟨rfl, rfl⟩)
  | 5, _ =>
    refine aw_tableIn (off := 84) 99 dX9_about_15 (by decide) (by decide) (by decide +kernel) (by decide) ?_
    refine aw_aload_0 dX9_about_99 ?_
    refine gf_X9_19 dX9_about_100 rfl rfl ?_
    refine aw_iload_1 dX9_about_103 ?_
    refine ce_X9_134 dX9_about_104 rfl (k_X8_isRuined_0 (ik, rd) (pl, pc) t1 t2 (oc, oa, ob, os) o1 x ra up f0 su nn wk ki we ow fr of p hn (by omega)) ?_
    refine ce_X9_137 dX9_about_107 (k_X9_oneIf _ _) ?_
    exact aw_iret dX9_about_110 rfl (⟨rfl, rfl⟩)
theorem c_as_no (ik : Nat) (rd : Int32) (pl : Nat) (pc : Nat → Nat) (ra up f0 su nn : Nat) (wk : Int32) (ki we ow fr of : Nat → Nat) (t1 t2 : tw_T) (oc : Nat) (oa ob os : Nat → Nat) (o1 : of_T) (x : sc_T) (a k : Int32) (h : ¬ hs_P nn a) : AM 8 yX9_as cX9_as 3 (some .int) [.ref 0, .int a, .int k] (cw_C (ik, rd) (pl, pc) (ra, up, f0, su, nn, wk, ki, we, ow, fr, of) t1 t2 (oc, oa, ob, os) o1 x) (ac_R (some (.int (-101))) (cw_C (ik, rd) (pl, pc) (ra, up, f0, su, nn, wk, ki, we, ow, fr, of) t1 t2 (oc, oa, ob, os) o1 x)) := by
  refine AM.of (loc := [.ref 0, .int a, .int k]) RX9 rfl (by decide +kernel) (Nat.le_of_ble_eq_true rfl) rfl ?_
  refine aw_aload_0 dX9_as_0 ?_
  refine gf_X9_19 dX9_as_1 rfl rfl ?_
  refine aw_iload_1 dX9_as_4 ?_
  refine ce_X9_115 dX9_as_5 rfl (k_X8_has_0 (ik, rd) (pl, pc) t1 t2 (oc, oa, ob, os) o1 x ra up f0 su nn wk ki we ow fr of a) ?_
  refine aw_if_ne 14 dX9_as_8 (by decide) (fun hh => absurd (bI_f h) hh) (fun _ => ?_)
  refine ak_bipush_m101 dX9_as_11 ?_
  exact aw_iret dX9_as_13 rfl (⟨rfl, rfl⟩)
theorem c_as_out (ik : Nat) (rd : Int32) (pl : Nat) (pc : Nat → Nat) (ra up f0 su nn : Nat) (wk : Int32) (ki we ow fr of : Nat → Nat) (t1 t2 : tw_T) (oc : Nat) (oa ob os : Nat → Nat) (o1 : of_T) (x : sc_T) (a k : Int32) (h : hs_P nn a) (hk : ¬ (0 ≤ k ∧ k ≤ 4)) : AM 8 yX9_as cX9_as 3 (some .int) [.ref 0, .int a, .int k] (cw_C (ik, rd) (pl, pc) (ra, up, f0, su, nn, wk, ki, we, ow, fr, of) t1 t2 (oc, oa, ob, os) o1 x) (ac_R (some (.int (-102))) (cw_C (ik, rd) (pl, pc) (ra, up, f0, su, nn, wk, ki, we, ow, fr, of) t1 t2 (oc, oa, ob, os) o1 x)) := by
  refine AM.of (loc := [.ref 0, .int a, .int k]) RX9 rfl (by decide +kernel) (Nat.le_of_ble_eq_true rfl) rfl ?_
  refine aw_aload_0 dX9_as_0 ?_
  refine gf_X9_19 dX9_as_1 rfl rfl ?_
  refine aw_iload_1 dX9_as_4 ?_
  refine ce_X9_115 dX9_as_5 rfl (k_X8_has_0 (ik, rd) (pl, pc) t1 t2 (oc, oa, ob, os) o1 x ra up f0 su nn wk ki we ow fr of a) ?_
  refine aw_if_ne 14 dX9_as_8 (by decide) (fun _ => ?_) (fun hh => absurd hh (bI_n h))
  refine aw_iload_2 dX9_as_14 ?_
  refine ce_X9_104 dX9_as_15 (k_X9_isKind _ k) ?_
  refine aw_if_ne 24 dX9_as_18 (by decide) (fun hh => absurd (bI_f hk) hh) (fun _ => ?_)
  refine ak_bipush_m102 dX9_as_21 ?_
  exact aw_iret dX9_as_23 rfl (⟨rfl, rfl⟩)
theorem c_as_ok (ik : Nat) (rd : Int32) (pl : Nat) (pc : Nat → Nat) (ra up f0 su nn : Nat) (wk : Int32) (ki we ow fr of : Nat → Nat) (t1 t2 : tw_T) (oc : Nat) (oa ob os : Nat → Nat) (o1 : of_T) (x : sc_T) (p k : Nat) (hn : nn ≤ 5) (hp : p < nn) (hki : ki p ≤ 4) (hk : k < 5) : AM 8 yX9_as cX9_as 3 (some .int) [.ref 0, .int (nI p), .int (nI k)] (cw_C (ik, rd) (pl, pc) (ra, up, f0, su, nn, wk, ki, we, ow, fr, of) t1 t2 (oc, oa, ob, os) o1 x) (ac_R (some (.int (if k = ki p ∨ k = 0 ∨ (ki p = 4 ∧ k = 3) then nI p else -1))) (cw_C (ik, rd) (pl, pc) (ra, up, f0, su, nn, wk, ki, we, ow, fr, of) t1 t2 (oc, oa, ob, os) o1 x)) := by
  have h : hs_P nn (nI p) := hs_of hp (by omega)
  have hk2 : (0 : Int32) ≤ nI k ∧ nI k ≤ 4 := ⟨nI_pos' (show k < 2 ^ 31 by omega), (nI_leI (by omega) (by decide : (4 : Nat) < 2147483648)).mpr (by omega)⟩
  refine AM.of (loc := [.ref 0, .int (nI p), .int (nI k)]) RX9 rfl (by decide +kernel) (Nat.le_of_ble_eq_true rfl) rfl ?_
  refine aw_aload_0 dX9_as_0 ?_
  refine gf_X9_19 dX9_as_1 rfl rfl ?_
  refine aw_iload_1 dX9_as_4 ?_
  refine ce_X9_115 dX9_as_5 rfl (k_X8_has_0 (ik, rd) (pl, pc) t1 t2 (oc, oa, ob, os) o1 x ra up f0 su nn wk ki we ow fr of (nI p)) ?_
  refine aw_if_ne 14 dX9_as_8 (by decide) (fun _ => ?_) (fun hh => absurd hh (bI_n h))
  refine aw_iload_2 dX9_as_14 ?_
  refine ce_X9_104 dX9_as_15 (k_X9_isKind _ (nI k)) ?_
  refine aw_if_ne 24 dX9_as_18 (by decide) (fun _ => ?_) (fun hh => absurd hh (bI_n hk2))
  refine aw_aload_0 dX9_as_24 ?_
  refine gf_X9_19 dX9_as_25 rfl rfl ?_
  refine aw_iload_1 dX9_as_28 ?_
  refine ce_X9_141 dX9_as_29 rfl (k_X8_kindOf_0 (ik, rd) (pl, pc) t1 t2 (oc, oa, ob, os) o1 x ra up f0 su nn wk ki we ow fr of p (by omega) hki) ?_
  refine gs_X9_145 dX9_as_32 ?_
  refine aw_iload_2 dX9_as_35 ?_
  refine aw_kald dX9_as_36 (vp_in_nI hk (by decide)) ?_
  rw [nI_clamp (show k < 2 ^ 31 by omega)]
  refine ce_X9_149 dX9_as_37 ((by omega)) (k_X2_isA _ (ki p) k (by omega) hk) ?_
  by_cases q : k = ki p ∨ k = 0 ∨ (ki p = 4 ∧ k = 3)
  · rw [if_pos q]
    refine aw_if_eq 47 dX9_as_40 (by decide) (fun hh => absurd hh (bI_n q)) (fun _ => ?_)
    refine aw_iload_1 dX9_as_43 ?_
    refine aw_goto 48 dX9_as_44 (by decide) ?_
    exact aw_iret dX9_as_48 rfl (⟨rfl, rfl⟩)
  rw [if_neg q]
  refine aw_if_eq 47 dX9_as_40 (by decide) (fun _ => ?_) (fun hh => absurd (bI_f q) hh)
  refine ak_iconst_m1 dX9_as_47 ?_
  exact aw_iret dX9_as_48 rfl (⟨rfl, rfl⟩)
theorem c_between_no (ik : Nat) (rd : Int32) (pl : Nat) (pc : Nat → Nat) (ra up f0 su nn : Nat) (wk : Int32) (ki we ow fr of : Nat → Nat) (t1 t2 : tw_T) (oc : Nat) (oa ob os : Nat → Nat) (o1 : of_T) (x : sc_T) (a b w : Int32) (h : ¬ hb_P nn a b) : AM 8 yX9_between cX9_between 5 (some .int) [.ref 0, .int a, .int b, .int w] (cw_C (ik, rd) (pl, pc) (ra, up, f0, su, nn, wk, ki, we, ow, fr, of) t1 t2 (oc, oa, ob, os) o1 x) (ac_R (some (.int (-101))) (cw_C (ik, rd) (pl, pc) (ra, up, f0, su, nn, wk, ki, we, ow, fr, of) t1 t2 (oc, oa, ob, os) o1 x)) := by
  refine AM.of (loc := [.ref 0, .int a, .int b, .int w, .null]) RX9 rfl (by decide +kernel) (Nat.le_of_ble_eq_true rfl) rfl ?_
  refine aw_aload_0 dX9_between_0 ?_
  refine gf_X9_19 dX9_between_1 rfl rfl ?_
  refine aw_iload_1 dX9_between_4 ?_
  refine aw_iload_2 dX9_between_5 ?_
  refine ce_X9_155 dX9_between_6 rfl (k_X8_hasBoth_0 (ik, rd) (pl, pc) t1 t2 (oc, oa, ob, os) o1 x ra up f0 su nn wk ki we ow fr of a b) ?_
  refine aw_if_ne 15 dX9_between_9 (by decide) (fun hh => absurd (bI_f h) hh) (fun _ => ?_)
  refine ak_bipush_m101 dX9_between_12 ?_
  exact aw_iret dX9_between_14 rfl (⟨rfl, rfl⟩)
theorem c_between_out (ik : Nat) (rd : Int32) (pl : Nat) (pc : Nat → Nat) (ra up f0 su nn : Nat) (wk : Int32) (ki we ow fr of : Nat → Nat) (t1 t2 : tw_T) (oc : Nat) (oa ob os : Nat → Nat) (o1 : of_T) (x : sc_T) (p q : Nat) (w : Int32) (h : hb_P nn (nI p) (nI q)) (hw : w.toInt < 0 ∨ 2 < w.toInt) : AM 8 yX9_between cX9_between 5 (some .int) [.ref 0, .int (nI p), .int (nI q), .int w] (cw_C (ik, rd) (pl, pc) (ra, up, f0, su, nn, wk, ki, we, ow, fr, of) t1 t2 (oc, oa, ob, os) o1 x) (ac_R (some (.int (-102))) (cw_C (ik, rd) (pl, pc) (ra, up, f0, su, nn, wk, ki, we, ow, fr, of) t1 t2 (oc, oa, ob, os) o1 x)) := by
  refine AM.of (loc := [.ref 0, .int (nI p), .int (nI q), .int w, .null]) RX9 rfl (by decide +kernel) (Nat.le_of_ble_eq_true rfl) rfl ?_
  refine aw_aload_0 dX9_between_0 ?_
  refine gf_X9_19 dX9_between_1 rfl rfl ?_
  refine aw_iload_1 dX9_between_4 ?_
  refine aw_iload_2 dX9_between_5 ?_
  refine ce_X9_155 dX9_between_6 rfl (k_X8_hasBoth_0 (ik, rd) (pl, pc) t1 t2 (oc, oa, ob, os) o1 x ra up f0 su nn wk ki we ow fr of (nI p) (nI q)) ?_
  refine aw_if_ne 15 dX9_between_9 (by decide) (fun _ => ?_) (fun hh => absurd hh (bI_n h))
  refine aw_iload_1 dX9_between_15 ?_
  refine aw_iload_2 dX9_between_16 ?_
  refine ce_X9_159 dX9_between_17 (k_X9_pairOf _ p q) ?_
  refine aw_istore_4 dX9_between_20 rfl (Nat.le_of_ble_eq_true rfl) ?_
  refine aw_iload_3 dX9_between_22 ?_
  refine aw_tableOut 81 dX9_between_23 (hw) (by decide) ?_
  refine ak_bipush_m102 dX9_between_81 ?_
  exact aw_iret dX9_between_83 rfl (⟨rfl, rfl⟩)
/-- what between() tells of two -/
def bw_I (ow fr of : Nat → Nat) (k : Nat) : Nat → Int32
  | 0 => nI (ow k)
  | 1 => nI (fr k)
  | _ => nI (of k)
theorem c_between_ok (ik : Nat) (rd : Int32) (pl : Nat) (pc : Nat → Nat) (ra up f0 su nn : Nat) (wk : Int32) (ki we ow fr of : Nat → Nat) (t1 t2 : tw_T) (oc : Nat) (oa ob os : Nat → Nat) (o1 : of_T) (x : sc_T) (p q w : Nat) (hp : p < 5) (hq : q < 5) (h : hb_P nn (nI p) (nI q)) (hw : w < 3) : AM 8 yX9_between cX9_between 5 (some .int) [.ref 0, .int (nI p), .int (nI q), .int (nI w)] (cw_C (ik, rd) (pl, pc) (ra, up, f0, su, nn, wk, ki, we, ow, fr, of) t1 t2 (oc, oa, ob, os) o1 x) (ac_R (some (.int (bw_I ow fr of (5 * p + q) w))) (cw_C (ik, rd) (pl, pc) (ra, up, f0, su, nn, wk, ki, we, ow, fr, of) t1 t2 (oc, oa, ob, os) o1 x)) := by
  refine AM.of (loc := [.ref 0, .int (nI p), .int (nI q), .int (nI w), .null]) RX9 rfl (by decide +kernel) (Nat.le_of_ble_eq_true rfl) rfl ?_
  refine aw_aload_0 dX9_between_0 ?_
  refine gf_X9_19 dX9_between_1 rfl rfl ?_
  refine aw_iload_1 dX9_between_4 ?_
  refine aw_iload_2 dX9_between_5 ?_
  refine ce_X9_155 dX9_between_6 rfl (k_X8_hasBoth_0 (ik, rd) (pl, pc) t1 t2 (oc, oa, ob, os) o1 x ra up f0 su nn wk ki we ow fr of (nI p) (nI q)) ?_
  refine aw_if_ne 15 dX9_between_9 (by decide) (fun _ => ?_) (fun hh => absurd hh (bI_n h))
  refine aw_iload_1 dX9_between_15 ?_
  refine aw_iload_2 dX9_between_16 ?_
  refine ce_X9_159 dX9_between_17 (k_X9_pairOf _ p q) ?_
  refine aw_istore_4 dX9_between_20 rfl (Nat.le_of_ble_eq_true rfl) ?_
  refine aw_iload_3 dX9_between_22 ?_
  match w, hw with
  | 0, _ =>
    refine aw_tableIn (off := 25) 48 dX9_between_23 (by decide) (by decide) (by decide +kernel) (by decide) ?_
    refine aw_aload_0 dX9_between_48 ?_
    refine gf_X9_19 dX9_between_49 rfl rfl ?_
    refine gf_X9_162 dX9_between_52 rfl rfl ?_
    refine aw_iload_4 dX9_between_55 ?_
    refine aw_ialdN dX9_between_57 rfl (by omega) ?_
    exact aw_iret dX9_between_58 rfl (⟨rfl, rfl⟩)
  | 1, _ =>
    refine aw_tableIn (off := 36) 59 dX9_between_23 (by decide) (by decide) (by decide +kernel) (by decide) ?_
    refine aw_aload_0 dX9_between_59 ?_
    refine gf_X9_19 dX9_between_60 rfl rfl ?_
    refine gf_X9_165 dX9_between_63 rfl rfl ?_
    refine aw_iload_4 dX9_between_66 ?_
    refine aw_ialdN dX9_between_68 rfl (by omega) ?_
    exact aw_iret dX9_between_69 rfl (⟨rfl, rfl⟩)
  | 2, _ =>
    refine aw_tableIn (off := 47) 70 dX9_between_23 (by decide) (by decide) (by decide +kernel) (by decide) ?_
    refine aw_aload_0 dX9_between_70 ?_
    refine gf_X9_19 dX9_between_71 rfl rfl ?_
    refine gf_X9_168 dX9_between_74 rfl rfl ?_
    refine aw_iload_4 dX9_between_77 ?_
    refine aw_ialdN dX9_between_79 rfl (by omega) ?_
    exact aw_iret dX9_between_80 rfl (⟨rfl, rfl⟩)
theorem c_favour_no (ik : Nat) (rd : Int32) (pl : Nat) (pc : Nat → Nat) (ra up f0 su nn : Nat) (wk : Int32) (ki we ow fr of : Nat → Nat) (t1 t2 : tw_T) (oc : Nat) (oa ob os : Nat → Nat) (o1 : of_T) (x : sc_T) (a b z th : Int32) (h : ¬ hb_P nn a b) : AM 8 yX9_favour cX9_favour 5 (some .int) [.ref 0, .int a, .int b, .int z, .int th] (cw_C (ik, rd) (pl, pc) (ra, up, f0, su, nn, wk, ki, we, ow, fr, of) t1 t2 (oc, oa, ob, os) o1 x) (ac_R (some (.int (-101))) (cw_C (ik, rd) (pl, pc) (ra, up, f0, su, nn, wk, ki, we, ow, fr, of) t1 t2 (oc, oa, ob, os) o1 x)) := by
  refine AM.of (loc := [.ref 0, .int a, .int b, .int z, .int th]) RX9 rfl (by decide +kernel) (Nat.le_of_ble_eq_true rfl) rfl ?_
  refine aw_aload_0 dX9_favour_0 ?_
  refine gf_X9_19 dX9_favour_1 rfl rfl ?_
  refine aw_iload_1 dX9_favour_4 ?_
  refine aw_iload_2 dX9_favour_5 ?_
  refine ce_X9_155 dX9_favour_6 rfl (k_X8_hasBoth_0 (ik, rd) (pl, pc) t1 t2 (oc, oa, ob, os) o1 x ra up f0 su nn wk ki we ow fr of a b) ?_
  refine aw_if_ne 15 dX9_favour_9 (by decide) (fun hh => absurd (bI_f h) hh) (fun _ => ?_)
  refine ak_bipush_m101 dX9_favour_12 ?_
  exact aw_iret dX9_favour_14 rfl (⟨rfl, rfl⟩)
theorem c_favour_out (ik : Nat) (rd : Int32) (pl : Nat) (pc : Nat → Nat) (ra up f0 su nn : Nat) (wk : Int32) (ki we ow fr of : Nat → Nat) (t1 t2 : tw_T) (oc : Nat) (oa ob os : Nat → Nat) (o1 : of_T) (x : sc_T) (a b z th : Int32) (h : hb_P nn a b) (hz : ¬ (1 ≤ z ∧ z ≤ 99)) : AM 8 yX9_favour cX9_favour 5 (some .int) [.ref 0, .int a, .int b, .int z, .int th] (cw_C (ik, rd) (pl, pc) (ra, up, f0, su, nn, wk, ki, we, ow, fr, of) t1 t2 (oc, oa, ob, os) o1 x) (ac_R (some (.int (-102))) (cw_C (ik, rd) (pl, pc) (ra, up, f0, su, nn, wk, ki, we, ow, fr, of) t1 t2 (oc, oa, ob, os) o1 x)) := by
  refine AM.of (loc := [.ref 0, .int a, .int b, .int z, .int th]) RX9 rfl (by decide +kernel) (Nat.le_of_ble_eq_true rfl) rfl ?_
  refine aw_aload_0 dX9_favour_0 ?_
  refine gf_X9_19 dX9_favour_1 rfl rfl ?_
  refine aw_iload_1 dX9_favour_4 ?_
  refine aw_iload_2 dX9_favour_5 ?_
  refine ce_X9_155 dX9_favour_6 rfl (k_X8_hasBoth_0 (ik, rd) (pl, pc) t1 t2 (oc, oa, ob, os) o1 x ra up f0 su nn wk ki we ow fr of a b) ?_
  refine aw_if_ne 15 dX9_favour_9 (by decide) (fun _ => ?_) (fun hh => absurd hh (bI_n h))
  refine aw_iload_3 dX9_favour_15 ?_
  refine ce_X9_171 dX9_favour_16 (k_X9_isSize _ z) ?_
  refine aw_if_ne 25 dX9_favour_19 (by decide) (fun hh => absurd (bI_f hz) hh) (fun _ => ?_)
  refine ak_bipush_m102 dX9_favour_22 ?_
  exact aw_iret dX9_favour_24 rfl (⟨rfl, rfl⟩)
theorem c_favour_st (ik : Nat) (rd : Int32) (pl : Nat) (pc : Nat → Nat) (ra up f0 su nn : Nat) (wk : Int32) (ki we ow fr of : Nat → Nat) (t1 t2 : tw_T) (oc : Nat) (oa ob os : Nat → Nat) (o1 : of_T) (x : sc_T) (a b : Nat) (z : Int32) (tk : Prop) [Decidable tk] (ha : a < 5) (hb : b < 5) (h : hb_P nn (nI a) (nI b)) (hz : 1 ≤ z ∧ z ≤ 99) (ho : of (5 * a + b) ≤ 9) (hki : ki b ≤ 4) (hs : 0 < of (5 * a + b) ∨ (tk ∧ 3 ≤ ki b)) : AM 8 yX9_favour cX9_favour 5 (some .int) [.ref 0, .int (nI a), .int (nI b), .int z, .int (bI tk)] (cw_C (ik, rd) (pl, pc) (ra, up, f0, su, nn, wk, ki, we, ow, fr, of) t1 t2 (oc, oa, ob, os) o1 x) (ac_R (some (.int (-103))) (cw_C (ik, rd) (pl, pc) (ra, up, f0, su, nn, wk, ki, we, ow, fr, of) t1 t2 (oc, oa, ob, os) o1 x)) := by
  refine AM.of (loc := [.ref 0, .int (nI a), .int (nI b), .int z, .int (bI tk)]) RX9 rfl (by decide +kernel) (Nat.le_of_ble_eq_true rfl) rfl ?_
  refine aw_aload_0 dX9_favour_0 ?_
  refine gf_X9_19 dX9_favour_1 rfl rfl ?_
  refine aw_iload_1 dX9_favour_4 ?_
  refine aw_iload_2 dX9_favour_5 ?_
  refine ce_X9_155 dX9_favour_6 rfl (k_X8_hasBoth_0 (ik, rd) (pl, pc) t1 t2 (oc, oa, ob, os) o1 x ra up f0 su nn wk ki we ow fr of (nI a) (nI b)) ?_
  refine aw_if_ne 15 dX9_favour_9 (by decide) (fun _ => ?_) (fun hh => absurd hh (bI_n h))
  refine aw_iload_3 dX9_favour_15 ?_
  refine ce_X9_171 dX9_favour_16 (k_X9_isSize _ z) ?_
  refine aw_if_ne 25 dX9_favour_19 (by decide) (fun _ => ?_) (fun hh => absurd hh (bI_n hz))
  refine aw_aload_0 dX9_favour_25 ?_
  refine gf_X9_19 dX9_favour_26 rfl rfl ?_
  refine aw_iload_1 dX9_favour_29 ?_
  refine aw_iload_2 dX9_favour_30 ?_
  refine ce_X9_174 dX9_favour_31 rfl (k_X8_isOffended_0 (ik, rd) (pl, pc) t1 t2 (oc, oa, ob, os) o1 x ra up f0 su nn wk ki we ow fr of a b ha hb ho) ?_
  by_cases q : 0 < of (5 * a + b)
  · refine aw_if_ne 56 dX9_favour_34 (by decide) (fun _ => ?_) (fun hh => absurd hh (bI_n q))
    refine ak_bipush_m103 dX9_favour_56 ?_
    exact aw_iret dX9_favour_58 rfl (⟨rfl, rfl⟩)
  obtain ⟨q1, q2⟩ : tk ∧ 3 ≤ ki b := by rcases hs with z | z; exact absurd z q; exact z
  refine aw_if_ne 56 dX9_favour_34 (by decide) (fun hh => absurd (bI_f q) hh) (fun _ => ?_)
  refine aw_iload_4 dX9_favour_37 ?_
  refine aw_if_eq 59 dX9_favour_39 (by decide) (fun hh => absurd hh (bI_n q1)) (fun _ => ?_)
  refine aw_aload_0 dX9_favour_42 ?_
  refine gf_X9_19 dX9_favour_43 rfl rfl ?_
  refine aw_iload_2 dX9_favour_46 ?_
  refine ce_X9_141 dX9_favour_47 rfl (k_X8_kindOf_0 (ik, rd) (pl, pc) t1 t2 (oc, oa, ob, os) o1 x ra up f0 su nn wk ki we ow fr of b hb hki) ?_
  refine gk_X9_177 (by omega) dX9_favour_50 ?_
  refine aw_topi (th_eq (ki b)) ?_
  refine aw_if_ne 59 dX9_favour_53 (by decide) (fun hh => absurd (bI_f (by omega)) hh) (fun _ => ?_)
  refine ak_bipush_m103 dX9_favour_56 ?_
  exact aw_iret dX9_favour_58 rfl (⟨rfl, rfl⟩)
theorem c_favour_th (ik : Nat) (rd : Int32) (pl : Nat) (pc : Nat → Nat) (ra up f0 su nn : Nat) (wk : Int32) (ki we ow fr of : Nat → Nat) (t1 t2 : tw_T) (oc : Nat) (oa ob os : Nat → Nat) (o1 : of_T) (x : sc_T) (a b z : Nat) (tk : Prop) [Decidable tk] (ha : a < 5) (hb : b < 5) (h : hb_P nn (nI a) (nI b)) (hz : (1 : Int32) ≤ nI z ∧ nI z ≤ 99) (hz2 : z ≤ 99) (ho : of (5 * a + b) = 0) (hki : ki b < 3) (ht : tk) (how : ow (5 * b + a) ≤ 9999) (hfr : fr (5 * b + a) ≤ 9) (hf0 : f0 ≤ 9) : AM 8 yX9_favour cX9_favour 5 (some .int) [.ref 0, .int (nI a), .int (nI b), .int (nI z), .int (bI tk)] (cw_C (ik, rd) (pl, pc) (ra, up, f0, su, nn, wk, ki, we, ow, fr, of) t1 t2 (oc, oa, ob, os) o1 x) (ac_R (some (.int (nI (min 9999 (ow (5 * b + a) + z))))) (cw_C (ik, rd) (pl, pc) (ra, up, f0, su, nn, wk, ki, we, va_up ow (5 * b + a) (min 9999 (ow (5 * b + a) + z)), va_up fr (5 * b + a) (max (fr (5 * b + a)) f0), of) t1 t2 (oc, oa, ob, os) o1 x)) := by
  refine AM.of (loc := [.ref 0, .int (nI a), .int (nI b), .int (nI z), .int (bI tk)]) RX9 rfl (by decide +kernel) (Nat.le_of_ble_eq_true rfl) rfl ?_
  refine aw_aload_0 dX9_favour_0 ?_
  refine gf_X9_19 dX9_favour_1 rfl rfl ?_
  refine aw_iload_1 dX9_favour_4 ?_
  refine aw_iload_2 dX9_favour_5 ?_
  refine ce_X9_155 dX9_favour_6 rfl (k_X8_hasBoth_0 (ik, rd) (pl, pc) t1 t2 (oc, oa, ob, os) o1 x ra up f0 su nn wk ki we ow fr of (nI a) (nI b)) ?_
  refine aw_if_ne 15 dX9_favour_9 (by decide) (fun _ => ?_) (fun hh => absurd hh (bI_n h))
  refine aw_iload_3 dX9_favour_15 ?_
  refine ce_X9_171 dX9_favour_16 (k_X9_isSize _ (nI z)) ?_
  refine aw_if_ne 25 dX9_favour_19 (by decide) (fun _ => ?_) (fun hh => absurd hh (bI_n hz))
  refine aw_aload_0 dX9_favour_25 ?_
  refine gf_X9_19 dX9_favour_26 rfl rfl ?_
  refine aw_iload_1 dX9_favour_29 ?_
  refine aw_iload_2 dX9_favour_30 ?_
  refine ce_X9_174 dX9_favour_31 rfl (k_X8_isOffended_0 (ik, rd) (pl, pc) t1 t2 (oc, oa, ob, os) o1 x ra up f0 su nn wk ki we ow fr of a b ha hb (by omega)) ?_
  refine aw_if_ne 56 dX9_favour_34 (by decide) (fun hh => absurd (bI_f (by omega)) hh) (fun _ => ?_)
  refine aw_iload_4 dX9_favour_37 ?_
  refine aw_if_eq 59 dX9_favour_39 (by decide) (fun hh => absurd hh (bI_n ht)) (fun _ => ?_)
  refine aw_aload_0 dX9_favour_42 ?_
  refine gf_X9_19 dX9_favour_43 rfl rfl ?_
  refine aw_iload_2 dX9_favour_46 ?_
  refine ce_X9_141 dX9_favour_47 rfl (k_X8_kindOf_0 (ik, rd) (pl, pc) t1 t2 (oc, oa, ob, os) o1 x ra up f0 su nn wk ki we ow fr of b hb (by omega)) ?_
  refine gk_X9_177 (by omega) dX9_favour_50 ?_
  refine aw_topi (th_eq (ki b)) ?_
  refine aw_if_ne 59 dX9_favour_53 (by decide) (fun _ => ?_) (fun hh => absurd hh (bI_n hki))
  refine aw_iload_4 dX9_favour_59 ?_
  refine aw_if_eq 77 dX9_favour_61 (by decide) (fun hh => absurd hh (bI_n ht)) (fun _ => ?_)
  refine aw_aload_0 dX9_favour_64 ?_
  refine gf_X9_19 dX9_favour_65 rfl rfl ?_
  refine aw_iload_1 dX9_favour_68 ?_
  refine aw_iload_2 dX9_favour_69 ?_
  refine aw_iload_3 dX9_favour_70 ?_
  refine ce_X9_181 dX9_favour_71 rfl (k_X8_thank_0 (ik, rd) (pl, pc) t1 t2 (oc, oa, ob, os) o1 x ra up f0 su nn wk ki we ow fr of a b z ha hb (by omega) how hfr hf0) ?_
  refine aw_goto 86 dX9_favour_74 (by decide) ?_
  refine aw_aload_0 dX9_favour_86 ?_
  refine gf_X9_19 dX9_favour_87 rfl rfl ?_
  refine gf_X9_162 dX9_favour_90 rfl rfl ?_
  refine aw_iload_2 dX9_favour_93 ?_
  refine aw_iload_1 dX9_favour_94 ?_
  refine ce_X9_159 dX9_favour_95 (k_X9_pairOf _ b a) ?_
  refine aw_ialdN dX9_favour_98 rfl (by omega) ?_
  exact aw_iret dX9_favour_99 rfl (⟨by unfold va_up; rw [if_pos rfl], rfl⟩)
theorem c_favour_gr (ik : Nat) (rd : Int32) (pl : Nat) (pc : Nat → Nat) (ra up f0 su nn : Nat) (wk : Int32) (ki we ow fr of : Nat → Nat) (t1 t2 : tw_T) (oc : Nat) (oa ob os : Nat → Nat) (o1 : of_T) (x : sc_T) (a b z : Nat) (tk : Prop) [Decidable tk] (ha : a < 5) (hb : b < 5) (h : hb_P nn (nI a) (nI b)) (hz : (1 : Int32) ≤ nI z ∧ nI z ≤ 99) (ho : of (5 * a + b) = 0) (ht : ¬ tk) (hka : ki a ≤ 4) (hsu : su ≤ 9) : AM 8 yX9_favour cX9_favour 5 (some .int) [.ref 0, .int (nI a), .int (nI b), .int (nI z), .int (bI tk)] (cw_C (ik, rd) (pl, pc) (ra, up, f0, su, nn, wk, ki, we, ow, fr, of) t1 t2 (oc, oa, ob, os) o1 x) (ac_R (some (.int (nI (ow (5 * b + a))))) (cw_C (ik, rd) (pl, pc) (ra, up, f0, su, nn, wk, ki, we, ow, fr, (if ki a < 4 then va_up of (5 * a + b) (max (of (5 * a + b)) su) else of)) t1 t2 (oc, oa, ob, os) o1 x)) := by
  refine AM.of (loc := [.ref 0, .int (nI a), .int (nI b), .int (nI z), .int (bI tk)]) RX9 rfl (by decide +kernel) (Nat.le_of_ble_eq_true rfl) rfl ?_
  refine aw_aload_0 dX9_favour_0 ?_
  refine gf_X9_19 dX9_favour_1 rfl rfl ?_
  refine aw_iload_1 dX9_favour_4 ?_
  refine aw_iload_2 dX9_favour_5 ?_
  refine ce_X9_155 dX9_favour_6 rfl (k_X8_hasBoth_0 (ik, rd) (pl, pc) t1 t2 (oc, oa, ob, os) o1 x ra up f0 su nn wk ki we ow fr of (nI a) (nI b)) ?_
  refine aw_if_ne 15 dX9_favour_9 (by decide) (fun _ => ?_) (fun hh => absurd hh (bI_n h))
  refine aw_iload_3 dX9_favour_15 ?_
  refine ce_X9_171 dX9_favour_16 (k_X9_isSize _ (nI z)) ?_
  refine aw_if_ne 25 dX9_favour_19 (by decide) (fun _ => ?_) (fun hh => absurd hh (bI_n hz))
  refine aw_aload_0 dX9_favour_25 ?_
  refine gf_X9_19 dX9_favour_26 rfl rfl ?_
  refine aw_iload_1 dX9_favour_29 ?_
  refine aw_iload_2 dX9_favour_30 ?_
  refine ce_X9_174 dX9_favour_31 rfl (k_X8_isOffended_0 (ik, rd) (pl, pc) t1 t2 (oc, oa, ob, os) o1 x ra up f0 su nn wk ki we ow fr of a b ha hb (by omega)) ?_
  refine aw_if_ne 56 dX9_favour_34 (by decide) (fun hh => absurd (bI_f (by omega)) hh) (fun _ => ?_)
  refine aw_iload_4 dX9_favour_37 ?_
  refine aw_if_eq 59 dX9_favour_39 (by decide) (fun _ => ?_) (fun hh => absurd (bI_f ht) hh)
  refine aw_iload_4 dX9_favour_59 ?_
  refine aw_if_eq 77 dX9_favour_61 (by decide) (fun _ => ?_) (fun hh => absurd (bI_f ht) hh)
  refine aw_aload_0 dX9_favour_77 ?_
  refine gf_X9_19 dX9_favour_78 rfl rfl ?_
  refine aw_iload_1 dX9_favour_81 ?_
  refine aw_iload_2 dX9_favour_82 ?_
  refine ce_X9_185 dX9_favour_83 rfl (k_X8_grunt_0 (ik, rd) (pl, pc) t1 t2 (oc, oa, ob, os) o1 x ra up f0 su nn wk ki we ow fr of a b ha hb hka (by omega) hsu) ?_
  refine aw_aload_0 dX9_favour_86 ?_
  refine gf_X9_19 dX9_favour_87 rfl rfl ?_
  refine gf_X9_162 dX9_favour_90 rfl rfl ?_
  refine aw_iload_2 dX9_favour_93 ?_
  refine aw_iload_1 dX9_favour_94 ?_
  refine ce_X9_159 dX9_favour_95 (k_X9_pairOf _ b a) ?_
  refine aw_ialdN dX9_favour_98 rfl (by omega) ?_
  exact aw_iret dX9_favour_99 rfl (⟨rfl, rfl⟩)
theorem c_week (ik : Nat) (rd : Int32) (pl : Nat) (pc : Nat → Nat) (ra up f0 su nn : Nat) (wk : Int32) (ki we ow fr of : Nat → Nat) (t1 t2 : tw_T) (oc : Nat) (oa ob os : Nat → Nat) (o1 : of_T) (x : sc_T) (hok : ok_T (ra, up, f0, su, nn, wk, ki, we, ow, fr, of)) : AM 8 yX9_week cX9_week 1 (some .int) [.ref 0] (cw_C (ik, rd) (pl, pc) (ra, up, f0, su, nn, wk, ki, we, ow, fr, of) t1 t2 (oc, oa, ob, os) o1 x) (ac_R (some (.int (gs_I nn ra up ki ow fr))) (cw_C (ik, rd) (pl, pc) (ra, up, f0, su, nn, wk + 1, ki, we, wO_N nn ra up ki ow fr, wM_N nn fr, wM_N nn of) t1 t2 (oc, oa, ob, os) o1 x)) := by
  refine AM.of (loc := [.ref 0]) RX9 rfl (by decide +kernel) (Nat.le_of_ble_eq_true rfl) rfl ?_
  refine aw_aload_0 dX9_week_0 ?_
  refine gf_X9_19 dX9_week_1 rfl rfl ?_
  refine ce_X9_189 dX9_week_4 rfl (k_X8_passWeek_0 (ik, rd) (pl, pc) t1 t2 (oc, oa, ob, os) o1 x ra up f0 su nn wk ki we ow fr of hok) ?_
  exact aw_iret dX9_week_7 rfl (⟨rfl, rfl⟩)
