/-! ===== what a town does, as numbers ===== -/
def td_N (i : Nat) : Nat := ([1, 0, 1, 1, 1] : List Nat).getD i 0
def tc_N (i : Nat) : Nat := ([1, 1, 2, 1, 0] : List Nat).getD i 0
theorem td_eq (i : Nat) : ([1, 0, 1, 1, 1] : List Int32).getD i 0 = nI (td_N i) := by
  match i with
  | 0 => rfl
  | 1 => rfl
  | 2 => rfl
  | 3 => rfl
  | 4 => rfl
  | n + 5 => rfl
theorem tc_eq (i : Nat) : ([1, 1, 2, 1, 0] : List Int32).getD i 0 = nI (tc_N i) := by
  match i with
  | 0 => rfl
  | 1 => rfl
  | 2 => rfl
  | 3 => rfl
  | 4 => rfl
  | n + 5 => rfl
theorem th_eq (i : Nat) : ([1, 1, 1, 0, 0] : List Int32).getD i 0 = bI (i < 3) := by
  match i with
  | 0 => rfl
  | 1 => rfl
  | 2 => rfl
  | 3 => rfl
  | 4 => rfl
  | n + 5 => exact (bI_f (by omega)).symm
theorem sk_eq (i : Nat) : ([1, 1, 1, 1, 0] : List Int32).getD i 0 = bI (i < 4) := by
  match i with
  | 0 => rfl
  | 1 => rfl
  | 2 => rfl
  | 3 => rfl
  | 4 => rfl
  | n + 5 => exact (bI_f (by omega)).symm
theorem td_le (i : Nat) : td_N i ≤ 1 := by
  match i with
  | 0 => decide
  | 1 => decide
  | 2 => decide
  | 3 => decide
  | 4 => decide
  | n + 5 => exact Nat.zero_le _
theorem tc_le (i : Nat) : tc_N i ≤ 2 := by
  match i with
  | 0 => decide
  | 1 => decide
  | 2 => decide
  | 3 => decide
  | 4 => decide
  | n + 5 => exact Nat.zero_le _
/-- tenths a week -/
def tn_N (ra kd kc : Nat) : Nat := ra * td_N kd * tc_N kc
theorem tn_le {ra kd kc : Nat} (h : ra ≤ 9) : tn_N ra kd kc ≤ 18 := by
  unfold tn_N
  have h1 := td_le kd
  have h2 := tc_le kc
  calc ra * td_N kd * tc_N kc ≤ 9 * 1 * 2 := Nat.mul_le_mul (Nat.mul_le_mul h h1) h2
    _ = 18 := rfl
/-- what is owed a week later -/
def gr_N (up tn o : Nat) : Nat := min 9999 (o + (if up = 0 then o * tn / 10 else (o * tn + 9) / 10))
theorem gr_le (up tn o : Nat) : gr_N up tn o ≤ 9999 := Nat.min_le_left _ _
/-- what a pair owes a week later -/
def nw_N (ra up : Nat) (ki ow fr : Nat → Nat) (k : Nat) : Nat := if fr k = 0 then gr_N up (tn_N ra (ki (k / 5)) (ki (k % 5))) (ow k) else ow k
/-- a town's numbers are as they must be -/
def ok_T : tw_T → Prop
  | (ra, up, f0, su, nn, _, ki, we, ow, fr, of) => ra ≤ 9 ∧ up ≤ 1 ∧ f0 ≤ 9 ∧ su ≤ 9 ∧ nn ≤ 5 ∧ (∀ k, ki k ≤ 4) ∧ (∀ k, we k ≤ 999) ∧ (∀ k, ow k ≤ 9999) ∧ (∀ k, fr k ≤ 9) ∧ ∀ k, of k ≤ 9
theorem k_X3_tenths_0 (g : Nat × Int32) (P : pg_T) (ta tb : tw_T) (o0 o1 : of_T) (x : sc_T) (ra up f0 su nn : Nat) (wk : Int32) (ki we ow fr of : Nat → Nat) (kd kc : Nat) (hd : kd < 5) (hc : kc < 5) : AM 1 yX3_tenths cX3_tenths 3 (some .int) [.ref 4, .ref (1000 + kd), .ref (1000 + kc)] (cw_C g P (ra, up, f0, su, nn, wk, ki, we, ow, fr, of) ta tb o0 o1 x) (ac_R (some (.int (nI (tn_N ra kd kc)))) (cw_C g P (ra, up, f0, su, nn, wk, ki, we, ow, fr, of) ta tb o0 o1 x)) := by
  refine AM.of (loc := [.ref 4, .ref (1000 + kd), .ref (1000 + kc)]) RX3 rfl (by decide +kernel) (Nat.le_of_ble_eq_true rfl) rfl ?_
  refine aw_aload_0 dX3_tenths_0 ?_
  refine gf_X3_9 dX3_tenths_1 rfl rfl ?_
  refine aw_aload_1 dX3_tenths_4 ?_
  refine gk_X3_35 hd dX3_tenths_5 ?_
  refine aw_topi (td_eq kd) ?_
  refine aw_imulN dX3_tenths_8 ?_
  refine aw_aload_2 dX3_tenths_9 ?_
  refine gk_X3_40 hc dX3_tenths_10 ?_
  refine aw_topi (tc_eq kc) ?_
  refine aw_imulN dX3_tenths_13 ?_
  exact aw_iret dX3_tenths_14 rfl (⟨rfl, rfl⟩)
theorem k_X3_owedNextWeek_0 (g : Nat × Int32) (P : pg_T) (ta tb : tw_T) (o0 o1 : of_T) (x : sc_T) (ra up f0 su nn : Nat) (wk : Int32) (ki we ow fr of : Nat → Nat) (o tn : Nat) (hu : up ≤ 1) (ho : o ≤ 9999) (ht : tn ≤ 18) : AM 1 yX3_owedNextWeek cX3_owedNextWeek 5 (some .int) [.ref 4, .int (nI o), .int (nI tn)] (cw_C g P (ra, up, f0, su, nn, wk, ki, we, ow, fr, of) ta tb o0 o1 x) (ac_R (some (.int (nI (gr_N up tn o)))) (cw_C g P (ra, up, f0, su, nn, wk, ki, we, ow, fr, of) ta tb o0 o1 x)) := by
  have hm : o * tn ≤ 9999 * 18 := Nat.mul_le_mul ho ht
  refine AM.of (loc := [.ref 4, .int (nI o), .int (nI tn), .null, .null]) RX3 rfl (by decide +kernel) (Nat.le_of_ble_eq_true rfl) rfl ?_
  refine aw_iload_1 dX3_owedNextWeek_0 ?_
  refine aw_iload_2 dX3_owedNextWeek_1 ?_
  refine aw_imulN dX3_owedNextWeek_2 ?_
  refine aw_istore_3 dX3_owedNextWeek_3 rfl (Nat.le_of_ble_eq_true rfl) ?_
  refine aw_aload_0 dX3_owedNextWeek_4 ?_
  refine gf_X3_15 dX3_owedNextWeek_5 rfl rfl ?_
  refine aw_if_eqN 21 dX3_owedNextWeek_8 (by decide) (by omega) (fun h1 => ?_) (fun h1 => ?_)
  · refine aw_iload_3 dX3_owedNextWeek_21 ?_
    refine akN_bipush_10 dX3_owedNextWeek_22 ?_
    refine aw_idivN dX3_owedNextWeek_24 (by omega) (by omega) (by omega) ?_
    refine aw_istore_4 dX3_owedNextWeek_25 rfl (Nat.le_of_ble_eq_true rfl) ?_
    refine akN_sipush_9999 dX3_owedNextWeek_27 ?_
    refine aw_iload_1 dX3_owedNextWeek_30 ?_
    refine aw_iload_4 dX3_owedNextWeek_31 ?_
    refine aw_iaddN dX3_owedNextWeek_33 ?_
    refine aw_minN gq_441 dX3_owedNextWeek_34 (Nat.le_of_ble_eq_true rfl) (by decide) (by omega) (by omega) ?_
    exact aw_iret dX3_owedNextWeek_37 rfl (⟨by unfold gr_N; rw [if_pos h1], rfl⟩)
  refine aw_iload_3 dX3_owedNextWeek_11 ?_
  refine akN_bipush_9 dX3_owedNextWeek_12 ?_
  refine aw_iaddN dX3_owedNextWeek_14 ?_
  refine akN_bipush_10 dX3_owedNextWeek_15 ?_
  refine aw_idivN dX3_owedNextWeek_17 (by omega) (by omega) (by omega) ?_
  refine aw_goto 25 dX3_owedNextWeek_18 (by decide) ?_
  refine aw_istore_4 dX3_owedNextWeek_25 rfl (Nat.le_of_ble_eq_true rfl) ?_
  refine akN_sipush_9999 dX3_owedNextWeek_27 ?_
  refine aw_iload_1 dX3_owedNextWeek_30 ?_
  refine aw_iload_4 dX3_owedNextWeek_31 ?_
  refine aw_iaddN dX3_owedNextWeek_33 ?_
  refine aw_minN gq_441 dX3_owedNextWeek_34 (Nat.le_of_ble_eq_true rfl) (by decide) (by omega) (by omega) ?_
  exact aw_iret dX3_owedNextWeek_37 rfl (⟨by unfold gr_N; rw [if_neg h1], rfl⟩)
theorem k_X8_kindOf_0 (g : Nat × Int32) (P : pg_T) (ta tb : tw_T) (o0 o1 : of_T) (x : sc_T) (ra up f0 su nn : Nat) (wk : Int32) (ki we ow fr of : Nat → Nat) (p : Nat) (hp : p < 5) (hk : ki p ≤ 4) : AM 1 yX8_kindOf cX8_kindOf 2 (some (.object "ThanksOwed$Kind")) [.ref 3, .int (nI p)] (cw_C g P (ra, up, f0, su, nn, wk, ki, we, ow, fr, of) ta tb o0 o1 x) (ac_R (some (.ref (1000 + ki p))) (cw_C g P (ra, up, f0, su, nn, wk, ki, we, ow, fr, of) ta tb o0 o1 x)) := by
  refine AM.of (loc := [.ref 3, .int (nI p)]) RX8 rfl (by decide +kernel) (Nat.le_of_ble_eq_true rfl) rfl ?_
  refine aw_kindsN rfl dX8_kindOf_0 ?_
  refine aw_aload_0 dX8_kindOf_3 ?_
  refine gf_X8_18 dX8_kindOf_4 rfl rfl ?_
  refine aw_iload_1 dX8_kindOf_7 ?_
  refine aw_ialdN dX8_kindOf_8 rfl hp ?_
  refine aw_kald dX8_kindOf_9 (vp_in_nI (show ki p < 5 by omega) (by decide)) ?_
  exact aw_aret dX8_kindOf_10 rfl (⟨by rw [nI_clamp (show ki p < 2 ^ 31 by omega)], rfl⟩)
theorem k_X8_hasBoth_0 (g : Nat × Int32) (P : pg_T) (ta tb : tw_T) (o0 o1 : of_T) (x : sc_T) (ra up f0 su nn : Nat) (wk : Int32) (ki we ow fr of : Nat → Nat) (a b : Int32) : AM 2 yX8_hasBoth cX8_hasBoth 3 (some .boolean) [.ref 3, .int a, .int b] (cw_C g P (ra, up, f0, su, nn, wk, ki, we, ow, fr, of) ta tb o0 o1 x) (ac_R (some (.int (bI (hb_P nn a b)))) (cw_C g P (ra, up, f0, su, nn, wk, ki, we, ow, fr, of) ta tb o0 o1 x)) := by
  refine AM.of (loc := [.ref 3, .int a, .int b]) RX8 rfl (by decide +kernel) (Nat.le_of_ble_eq_true rfl) rfl ?_
  by_cases h1 : hs_P nn a
  · by_cases h2 : hs_P nn b
    · refine aw_aload_0 dX8_hasBoth_0 ?_
      refine aw_iload_1 dX8_hasBoth_1 ?_
      refine ce_X8_51 dX8_hasBoth_2 rfl (k_X8_has_0 g P ta tb o0 o1 x ra up f0 su nn wk ki we ow fr of a) ?_
      refine aw_if_eq 25 dX8_hasBoth_5 (by decide) (fun hh => absurd hh (bI_n h1)) (fun _ => ?_)
      refine aw_aload_0 dX8_hasBoth_8 ?_
      refine aw_iload_2 dX8_hasBoth_9 ?_
      refine ce_X8_51 dX8_hasBoth_10 rfl (k_X8_has_0 g P ta tb o0 o1 x ra up f0 su nn wk ki we ow fr of b) ?_
      refine aw_if_eq 25 dX8_hasBoth_13 (by decide) (fun hh => absurd hh (bI_n h2)) (fun _ => ?_)
      refine aw_iload_1 dX8_hasBoth_16 ?_
      refine aw_iload_2 dX8_hasBoth_17 ?_
      refine aw_icmp_eq 25 dX8_hasBoth_18 (by decide) (fun h3 => ?_) (fun h3 => ?_)
      · refine ak_iconst_0 dX8_hasBoth_25 ?_
        exact aw_zret dX8_hasBoth_26 rfl (rfl) (⟨by rw [bI_f (fun q => q.2.2 h3)], rfl⟩)
      refine ak_iconst_1 dX8_hasBoth_21 ?_
      refine aw_goto 26 dX8_hasBoth_22 (by decide) ?_
      exact aw_zret dX8_hasBoth_26 rfl (rfl) (⟨by rw [bI_t ⟨h1, h2, h3⟩], rfl⟩)
    refine aw_aload_0 dX8_hasBoth_0 ?_
    refine aw_iload_1 dX8_hasBoth_1 ?_
    refine ce_X8_51 dX8_hasBoth_2 rfl (k_X8_has_0 g P ta tb o0 o1 x ra up f0 su nn wk ki we ow fr of a) ?_
    refine aw_if_eq 25 dX8_hasBoth_5 (by decide) (fun hh => absurd hh (bI_n h1)) (fun _ => ?_)
    refine aw_aload_0 dX8_hasBoth_8 ?_
    refine aw_iload_2 dX8_hasBoth_9 ?_
    refine ce_X8_51 dX8_hasBoth_10 rfl (k_X8_has_0 g P ta tb o0 o1 x ra up f0 su nn wk ki we ow fr of b) ?_
    refine aw_if_eq 25 dX8_hasBoth_13 (by decide) (fun _ => ?_) (fun hh => absurd (bI_f h2) hh)
    refine ak_iconst_0 dX8_hasBoth_25 ?_
    exact aw_zret dX8_hasBoth_26 rfl (rfl) (⟨by rw [bI_f (fun q => h2 q.2.1)], rfl⟩)
  refine aw_aload_0 dX8_hasBoth_0 ?_
  refine aw_iload_1 dX8_hasBoth_1 ?_
  refine ce_X8_51 dX8_hasBoth_2 rfl (k_X8_has_0 g P ta tb o0 o1 x ra up f0 su nn wk ki we ow fr of a) ?_
  refine aw_if_eq 25 dX8_hasBoth_5 (by decide) (fun _ => ?_) (fun hh => absurd (bI_f h1) hh)
  refine ak_iconst_0 dX8_hasBoth_25 ?_
  exact aw_zret dX8_hasBoth_26 rfl (rfl) (⟨by rw [bI_f (fun q => h1 q.1)], rfl⟩)
theorem k_X8_owedTo_0 (g : Nat × Int32) (P : pg_T) (ta tb : tw_T) (o0 o1 : of_T) (x : sc_T) (ra up f0 su nn : Nat) (wk : Int32) (ki we ow fr of : Nat → Nat) (p : Nat) (hn : nn ≤ 5) (hp : p < 5) : AM 2 yX8_owedTo cX8_owedTo 4 (some .int) [.ref 3, .int (nI p)] (cw_C g P (ra, up, f0, su, nn, wk, ki, we, ow, fr, of) ta tb o0 o1 x) (ac_R (some (.int (nI (fb_sm (fun q => ow (5 * q + p)) nn)))) (cw_C g P (ra, up, f0, su, nn, wk, ki, we, ow, fr, of) ta tb o0 o1 x)) := by
  refine AM.of (loc := [.ref 3, .int (nI p), .null, .null]) RX8 rfl (by decide +kernel) (Nat.le_of_ble_eq_true rfl) rfl ?_
  refine akN_iconst_0 dX8_owedTo_0 ?_
  refine aw_istore_2 dX8_owedTo_1 rfl (Nat.le_of_ble_eq_true rfl) ?_
  refine akN_iconst_0 dX8_owedTo_2 ?_
  refine aw_istore_3 dX8_owedTo_3 rfl (Nat.le_of_ble_eq_true rfl) ?_
  have loop : ∀ k i, i + k = nn → AW 2 RX8 cX8_owedTo 4 (some .int) 41 (ac_R (some (.int (nI (fb_sm (fun q => ow (5 * q + p)) nn)))) (cw_C g P (ra, up, f0, su, nn, wk, ki, we, ow, fr, of) ta tb o0 o1 x)) 4 [.ref 3, .int (nI p), .int (nI (fb_sm (fun q => ow (5 * q + p)) i)), .int (nI i)] [] (cw_C g P (ra, up, f0, su, nn, wk, ki, we, ow, fr, of) ta tb o0 o1 x) := by
    intro k
    induction k with
    | zero =>
      intro i hi
      refine aw_iload_3 dX8_owedTo_4 ?_
      refine aw_aload_0 dX8_owedTo_5 ?_
      refine gf_X8_44 dX8_owedTo_6 rfl rfl ?_
      refine aw_icmp_geN 31 dX8_owedTo_9 (by decide) (by omega) (by omega) (fun _ => ?_) (fun hh => absurd hh (by omega))
      refine aw_iload_2 dX8_owedTo_31 ?_
      obtain rfl : i = nn := by omega
      exact aw_iret dX8_owedTo_32 rfl (⟨rfl, rfl⟩)
    | succ k ih =>
      intro i hi
      refine aw_iload_3 dX8_owedTo_4 ?_
      refine aw_aload_0 dX8_owedTo_5 ?_
      refine gf_X8_44 dX8_owedTo_6 rfl rfl ?_
      refine aw_icmp_geN 31 dX8_owedTo_9 (by decide) (by omega) (by omega) (fun hh => absurd hh (by omega)) (fun _ => ?_)
      refine aw_iload_2 dX8_owedTo_12 ?_
      refine aw_aload_0 dX8_owedTo_13 ?_
      refine gf_X8_25 dX8_owedTo_14 rfl rfl ?_
      refine aw_iload_3 dX8_owedTo_17 ?_
      refine aw_iload_1 dX8_owedTo_18 ?_
      refine ce_X8_59 dX8_owedTo_19 (k_X9_pairOf _ i p) ?_
      refine aw_ialdN dX8_owedTo_22 rfl (by omega) ?_
      refine aw_iaddN dX8_owedTo_23 ?_
      refine aw_istore_2 dX8_owedTo_24 rfl (Nat.le_of_ble_eq_true rfl) ?_
      refine aw_iincN_3 dX8_owedTo_25 rfl (Nat.le_of_ble_eq_true rfl) ?_
      refine aw_goto 4 dX8_owedTo_28 (by decide) ?_
      exact ih (i + 1) (by omega)
  exact loop nn 0 (by omega)
theorem k_X8_isOffended_0 (g : Nat × Int32) (P : pg_T) (ta tb : tw_T) (o0 o1 : of_T) (x : sc_T) (ra up f0 su nn : Nat) (wk : Int32) (ki we ow fr of : Nat → Nat) (a b : Nat) (ha : a < 5) (hb : b < 5) (ho : of (5 * a + b) ≤ 9) : AM 2 yX8_isOffended cX8_isOffended 3 (some .boolean) [.ref 3, .int (nI a), .int (nI b)] (cw_C g P (ra, up, f0, su, nn, wk, ki, we, ow, fr, of) ta tb o0 o1 x) (ac_R (some (.int (bI (0 < of (5 * a + b))))) (cw_C g P (ra, up, f0, su, nn, wk, ki, we, ow, fr, of) ta tb o0 o1 x)) := by
  refine AM.of (loc := [.ref 3, .int (nI a), .int (nI b)]) RX8 rfl (by decide +kernel) (Nat.le_of_ble_eq_true rfl) rfl ?_
  refine aw_aload_0 dX8_isOffended_0 ?_
  refine gf_X8_31 dX8_isOffended_1 rfl rfl ?_
  refine aw_iload_1 dX8_isOffended_4 ?_
  refine aw_iload_2 dX8_isOffended_5 ?_
  refine ce_X8_59 dX8_isOffended_6 (k_X9_pairOf _ a b) ?_
  refine aw_ialdN dX8_isOffended_9 rfl (by omega) ?_
  refine aw_if_leN 17 dX8_isOffended_10 (by decide) (by omega) (fun h1 => ?_) (fun h1 => ?_)
  · refine ak_iconst_0 dX8_isOffended_17 ?_
    exact aw_zret dX8_isOffended_18 rfl (rfl) (⟨by rw [bI_f (by omega)], rfl⟩)
  refine ak_iconst_1 dX8_isOffended_13 ?_
  refine aw_goto 18 dX8_isOffended_14 (by decide) ?_
  exact aw_zret dX8_isOffended_18 rfl (rfl) (⟨by rw [bI_t h1], rfl⟩)
theorem k_X8_thank_0 (g : Nat × Int32) (P : pg_T) (ta tb : tw_T) (o0 o1 : of_T) (x : sc_T) (ra up f0 su nn : Nat) (wk : Int32) (ki we ow fr of : Nat → Nat) (a b z : Nat) (ha : a < 5) (hb : b < 5) (hz : z ≤ 999) (ho : ow (5 * b + a) ≤ 9999) (hf : fr (5 * b + a) ≤ 9) (h0 : f0 ≤ 9) : AM 2 yX8_thank cX8_thank 5 none [.ref 3, .int (nI a), .int (nI b), .int (nI z)] (cw_C g P (ra, up, f0, su, nn, wk, ki, we, ow, fr, of) ta tb o0 o1 x) (ac_R none (cw_C g P (ra, up, f0, su, nn, wk, ki, we, va_up ow (5 * b + a) (min 9999 (ow (5 * b + a) + z)), va_up fr (5 * b + a) (max (fr (5 * b + a)) f0), of) ta tb o0 o1 x)) := by
  refine AM.of (loc := [.ref 3, .int (nI a), .int (nI b), .int (nI z), .null]) RX8 rfl (by decide +kernel) (Nat.le_of_ble_eq_true rfl) rfl ?_
  refine aw_iload_2 dX8_thank_0 ?_
  refine aw_iload_1 dX8_thank_1 ?_
  refine ce_X8_59 dX8_thank_2 (k_X9_pairOf _ b a) ?_
  refine aw_istore_4 dX8_thank_5 rfl (Nat.le_of_ble_eq_true rfl) ?_
  refine aw_aload_0 dX8_thank_7 ?_
  refine gf_X8_25 dX8_thank_8 rfl rfl ?_
  refine aw_iload_4 dX8_thank_11 ?_
  refine akN_sipush_9999 dX8_thank_13 ?_
  refine aw_aload_0 dX8_thank_16 ?_
  refine gf_X8_25 dX8_thank_17 rfl rfl ?_
  refine aw_iload_4 dX8_thank_20 ?_
  refine aw_ialdN dX8_thank_22 rfl (by omega) ?_
  refine aw_iload_3 dX8_thank_23 ?_
  refine aw_iaddN dX8_thank_24 ?_
  refine aw_minN gq_410 dX8_thank_25 (Nat.le_of_ble_eq_true rfl) (by decide) (by omega) (by omega) ?_
  refine aw_iastN dX8_thank_28 rfl (by omega) ?_
  refine aw_w cs_7 ?_
  refine aw_aload_0 dX8_thank_29 ?_
  refine gf_X8_28 dX8_thank_30 rfl rfl ?_
  refine aw_iload_4 dX8_thank_33 ?_
  refine aw_aload_0 dX8_thank_35 ?_
  refine gf_X8_28 dX8_thank_36 rfl rfl ?_
  refine aw_iload_4 dX8_thank_39 ?_
  refine aw_ialdN dX8_thank_41 rfl (by omega) ?_
  refine aw_aload_0 dX8_thank_42 ?_
  refine gf_X8_12 dX8_thank_43 rfl rfl ?_
  refine gf_X8_85 dX8_thank_46 rfl rfl ?_
  refine aw_maxN gq_413 dX8_thank_49 (Nat.le_of_ble_eq_true rfl) (by decide) (by omega) (by omega) ?_
  refine aw_iastN dX8_thank_52 rfl (by omega) ?_
  refine aw_w cs_8 ?_
  exact aw_vret dX8_thank_53 rfl (⟨rfl, rfl⟩)
theorem k_X8_grunt_0 (g : Nat × Int32) (P : pg_T) (ta tb : tw_T) (o0 o1 : of_T) (x : sc_T) (ra up f0 su nn : Nat) (wk : Int32) (ki we ow fr of : Nat → Nat) (a b : Nat) (ha : a < 5) (hb : b < 5) (hk : ki a ≤ 4) (ho : of (5 * a + b) ≤ 9) (h0 : su ≤ 9) : AM 2 yX8_grunt cX8_grunt 4 none [.ref 3, .int (nI a), .int (nI b)] (cw_C g P (ra, up, f0, su, nn, wk, ki, we, ow, fr, of) ta tb o0 o1 x) (ac_R none (cw_C g P (ra, up, f0, su, nn, wk, ki, we, ow, fr, if ki a < 4 then va_up of (5 * a + b) (max (of (5 * a + b)) su) else of) ta tb o0 o1 x)) := by
  refine AM.of (loc := [.ref 3, .int (nI a), .int (nI b), .null]) RX8 rfl (by decide +kernel) (Nat.le_of_ble_eq_true rfl) rfl ?_
  refine aw_aload_0 dX8_grunt_0 ?_
  refine aw_iload_1 dX8_grunt_1 ?_
  refine ce_X8_90 dX8_grunt_2 rfl (k_X8_kindOf_0 g P ta tb o0 o1 x ra up f0 su nn wk ki we ow fr of a ha hk) ?_
  refine gk_X8_94 (show ki a < 5 by omega) dX8_grunt_5 ?_
  refine aw_topi (sk_eq (ki a)) ?_
  by_cases h1 : ki a < 4
  · refine aw_if_eq 39 dX8_grunt_8 (by decide) (fun hh => absurd hh (bI_n h1)) (fun _ => ?_)
    refine aw_iload_1 dX8_grunt_11 ?_
    refine aw_iload_2 dX8_grunt_12 ?_
    refine ce_X8_59 dX8_grunt_13 (k_X9_pairOf _ a b) ?_
    refine aw_istore_3 dX8_grunt_16 rfl (Nat.le_of_ble_eq_true rfl) ?_
    refine aw_aload_0 dX8_grunt_17 ?_
    refine gf_X8_31 dX8_grunt_18 rfl rfl ?_
    refine aw_iload_3 dX8_grunt_21 ?_
    refine aw_aload_0 dX8_grunt_22 ?_
    refine gf_X8_31 dX8_grunt_23 rfl rfl ?_
    refine aw_iload_3 dX8_grunt_26 ?_
    refine aw_ialdN dX8_grunt_27 rfl (by omega) ?_
    refine aw_aload_0 dX8_grunt_28 ?_
    refine gf_X8_12 dX8_grunt_29 rfl rfl ?_
    refine gf_X8_100 dX8_grunt_32 rfl rfl ?_
    refine aw_maxN gq_413 dX8_grunt_35 (Nat.le_of_ble_eq_true rfl) (by decide) (by omega) (by omega) ?_
    refine aw_iastN dX8_grunt_38 rfl (by omega) ?_
    refine aw_w cs_9 ?_
    rw [if_pos h1]
    exact aw_vret dX8_grunt_39 rfl (⟨rfl, rfl⟩)
  refine aw_if_eq 39 dX8_grunt_8 (by decide) (fun _ => ?_) (fun hh => absurd (bI_f h1) hh)
  rw [if_neg h1]
  exact aw_vret dX8_grunt_39 rfl (⟨rfl, rfl⟩)
theorem k_X8_passPairWeek_0 (g : Nat × Int32) (P : pg_T) (ta tb : tw_T) (o0 o1 : of_T) (x : sc_T) (ra up f0 su nn : Nat) (wk : Int32) (ki we ow fr of : Nat → Nat) (a b : Nat) (ha : a < 5) (hb : b < 5) (hra : ra ≤ 9) (hu : up ≤ 1) (hka : ki a ≤ 4) (hkb : ki b ≤ 4) (ho : ow (5 * a + b) ≤ 9999) (hf : fr (5 * a + b) ≤ 9) (hx : of (5 * a + b) ≤ 9) : AM 2 yX8_passPairWeek cX8_passPairWeek 5 (some .int) [.ref 3, .int (nI a), .int (nI b)] (cw_C g P (ra, up, f0, su, nn, wk, ki, we, ow, fr, of) ta tb o0 o1 x) (ac_R (some (.int (nI (nw_N ra up ki ow fr (5 * a + b)) - nI (ow (5 * a + b))))) (cw_C g P (ra, up, f0, su, nn, wk, ki, we, va_up ow (5 * a + b) (nw_N ra up ki ow fr (5 * a + b)), va_up fr (5 * a + b) (fr (5 * a + b) - 1), va_up of (5 * a + b) (of (5 * a + b) - 1)) ta tb o0 o1 x)) := by
  have e1 : (5 * a + b) / 5 = a := by omega
  have e2 : (5 * a + b) % 5 = b := by omega
  have hmax : ∀ y : Nat, y ≤ 9 → (if (0 : Int32) < nI y - 1 then nI y - 1 else 0) = nI (y - 1) := by
    intro y hy
    match y, hy with
    | 0, _ => rfl
    | y + 1, hy =>
      rw [show nI (y + 1) - 1 = nI y from nI_pred y, show y + 1 - 1 = y from rfl]
      by_cases h : 0 < y
      · exact if_pos (show (0 : Int32) < nI y from (nI_ltI (by decide : (0 : Nat) < 2147483648) (by omega)).mpr h)
      · obtain rfl : y = 0 := by omega
        rfl
  have tail : ∀ v : Nat, v ≤ 9999 → AW 2 RX8 cX8_passPairWeek 5 (some .int) 41 (ac_R (some (.int (nI (nw_N ra up ki ow fr (5 * a + b)) - nI (ow (5 * a + b))))) (cw_C g P (ra, up, f0, su, nn, wk, ki, we, va_up ow (5 * a + b) (nw_N ra up ki ow fr (5 * a + b)), va_up fr (5 * a + b) (fr (5 * a + b) - 1), va_up of (5 * a + b) (of (5 * a + b) - 1)) ta tb o0 o1 x)) 60 [.ref 3, .int (nI a), .int (nI b), .int (nI (5 * a + b)), .int (nI (ow (5 * a + b)))] [] (cw_C g P (ra, up, f0, su, nn, wk, ki, we, va_up ow (5 * a + b) v, fr, of) ta tb o0 o1 x) ∨ v ≠ nw_N ra up ki ow fr (5 * a + b) := by
    intro v hv
    by_cases hq : v = nw_N ra up ki ow fr (5 * a + b)
    · left
      refine aw_aload_0 dX8_passPairWeek_60 ?_
      refine gf_X8_28 dX8_passPairWeek_61 rfl rfl ?_
      refine aw_iload_3 dX8_passPairWeek_64 ?_
      refine akN_iconst_0 dX8_passPairWeek_65 ?_
      refine aw_aload_0 dX8_passPairWeek_66 ?_
      refine gf_X8_28 dX8_passPairWeek_67 rfl rfl ?_
      refine aw_iload_3 dX8_passPairWeek_70 ?_
      refine aw_ialdN dX8_passPairWeek_71 rfl (by omega) ?_
      refine ak_iconst_1 dX8_passPairWeek_72 ?_
      refine aw_isub dX8_passPairWeek_73 ?_
      refine aw_max gq_413 dX8_passPairWeek_74 (Nat.le_of_ble_eq_true rfl) (by decide) ?_
      refine aw_topi (hmax _ hf) ?_
      refine aw_iastN dX8_passPairWeek_77 rfl (by omega) ?_
      refine aw_w cs_8 ?_
      refine aw_aload_0 dX8_passPairWeek_78 ?_
      refine gf_X8_31 dX8_passPairWeek_79 rfl rfl ?_
      refine aw_iload_3 dX8_passPairWeek_82 ?_
      refine akN_iconst_0 dX8_passPairWeek_83 ?_
      refine aw_aload_0 dX8_passPairWeek_84 ?_
      refine gf_X8_31 dX8_passPairWeek_85 rfl rfl ?_
      refine aw_iload_3 dX8_passPairWeek_88 ?_
      refine aw_ialdN dX8_passPairWeek_89 rfl (by omega) ?_
      refine ak_iconst_1 dX8_passPairWeek_90 ?_
      refine aw_isub dX8_passPairWeek_91 ?_
      refine aw_max gq_413 dX8_passPairWeek_92 (Nat.le_of_ble_eq_true rfl) (by decide) ?_
      refine aw_topi (hmax _ hx) ?_
      refine aw_iastN dX8_passPairWeek_95 rfl (by omega) ?_
      refine aw_w cs_9 ?_
      refine aw_aload_0 dX8_passPairWeek_96 ?_
      refine gf_X8_25 dX8_passPairWeek_97 rfl rfl ?_
      refine aw_iload_3 dX8_passPairWeek_100 ?_
      refine aw_ialdN dX8_passPairWeek_101 rfl (by omega) ?_
      refine aw_iload_4 dX8_passPairWeek_102 ?_
      refine aw_isub dX8_passPairWeek_104 ?_
      exact aw_iret dX8_passPairWeek_105 rfl (⟨by rw [hq]; unfold va_up; rw [if_pos rfl], by rw [hq]⟩)
    · exact Or.inr hq
  refine AM.of (loc := [.ref 3, .int (nI a), .int (nI b), .null, .null]) RX8 rfl (by decide +kernel) (Nat.le_of_ble_eq_true rfl) rfl ?_
  refine aw_iload_1 dX8_passPairWeek_0 ?_
  refine aw_iload_2 dX8_passPairWeek_1 ?_
  refine ce_X8_59 dX8_passPairWeek_2 (k_X9_pairOf _ a b) ?_
  refine aw_istore_3 dX8_passPairWeek_5 rfl (Nat.le_of_ble_eq_true rfl) ?_
  refine aw_aload_0 dX8_passPairWeek_6 ?_
  refine gf_X8_25 dX8_passPairWeek_7 rfl rfl ?_
  refine aw_iload_3 dX8_passPairWeek_10 ?_
  refine aw_ialdN dX8_passPairWeek_11 rfl (by omega) ?_
  refine aw_istore_4 dX8_passPairWeek_12 rfl (Nat.le_of_ble_eq_true rfl) ?_
  refine aw_aload_0 dX8_passPairWeek_14 ?_
  refine gf_X8_28 dX8_passPairWeek_15 rfl rfl ?_
  refine aw_iload_3 dX8_passPairWeek_18 ?_
  refine aw_ialdN dX8_passPairWeek_19 rfl (by omega) ?_
  refine aw_if_neN 60 dX8_passPairWeek_20 (by decide) (by omega) (fun h1 => ?_) (fun h1 => ?_)
  · have hq : ow (5 * a + b) = nw_N ra up ki ow fr (5 * a + b) := by unfold nw_N; rw [if_neg h1]
    rcases tail _ ho with h | h
    · refine aw_w ?_ h
      exact congrArg (fun z => cw_C g P (ra, up, f0, su, nn, wk, ki, we, z, fr, of) ta tb o0 o1 x) (funext fun j => by unfold va_up; by_cases e : j = 5 * a + b <;> simp [e])
    · exact absurd hq h
  refine aw_iload_4 dX8_passPairWeek_23 ?_
  refine aw_if_leN 60 dX8_passPairWeek_25 (by decide) (by omega) (fun h2 => ?_) (fun h2 => ?_)
  · have hq : ow (5 * a + b) = nw_N ra up ki ow fr (5 * a + b) := by
      unfold nw_N gr_N
      rw [if_pos h1, show ow (5 * a + b) = 0 by omega]
      simp
    rcases tail _ ho with h | h
    · refine aw_w ?_ h
      exact congrArg (fun z => cw_C g P (ra, up, f0, su, nn, wk, ki, we, z, fr, of) ta tb o0 o1 x) (funext fun j => by unfold va_up; by_cases e : j = 5 * a + b <;> simp [e])
    · exact absurd hq h
  refine aw_aload_0 dX8_passPairWeek_28 ?_
  refine gf_X8_25 dX8_passPairWeek_29 rfl rfl ?_
  refine aw_iload_3 dX8_passPairWeek_32 ?_
  refine aw_aload_0 dX8_passPairWeek_33 ?_
  refine gf_X8_12 dX8_passPairWeek_34 rfl rfl ?_
  refine aw_iload_4 dX8_passPairWeek_37 ?_
  refine aw_aload_0 dX8_passPairWeek_39 ?_
  refine gf_X8_12 dX8_passPairWeek_40 rfl rfl ?_
  refine aw_aload_0 dX8_passPairWeek_43 ?_
  refine aw_iload_1 dX8_passPairWeek_44 ?_
  refine ce_X8_90 dX8_passPairWeek_45 rfl (k_X8_kindOf_0 g P ta tb o0 o1 x ra up f0 su nn wk ki we ow fr of a ha hka) ?_
  refine aw_aload_0 dX8_passPairWeek_48 ?_
  refine aw_iload_2 dX8_passPairWeek_49 ?_
  refine ce_X8_90 dX8_passPairWeek_50 rfl (k_X8_kindOf_0 g P ta tb o0 o1 x ra up f0 su nn wk ki we ow fr of b hb hkb) ?_
  refine ce_X8_106 dX8_passPairWeek_53 rfl (k_X3_tenths_0 g P ta tb o0 o1 x ra up f0 su nn wk ki we ow fr of (ki a) (ki b) (by omega) (by omega)) ?_
  refine ce_X8_110 dX8_passPairWeek_56 rfl (k_X3_owedNextWeek_0 g P ta tb o0 o1 x ra up f0 su nn wk ki we ow fr of (ow (5 * a + b)) (tn_N ra (ki a) (ki b)) hu ho (tn_le hra)) ?_
  refine aw_iastN dX8_passPairWeek_59 rfl (by omega) ?_
  refine aw_w cs_7 ?_
  rcases tail (gr_N up (tn_N ra (ki a) (ki b)) (ow (5 * a + b))) (gr_le _ _ _) with h | h
  · exact h
  · exact absurd (by unfold nw_N; rw [if_pos h1, e1, e2]) h
theorem k_X3_tenths_2 (g : Nat × Int32) (P : pg_T) (ta tb : tw_T) (o0 o1 : of_T) (x : sc_T) (ra up f0 su nn : Nat) (wk : Int32) (ki we ow fr of : Nat → Nat) (kd kc : Nat) (hd : kd < 5) (hc : kc < 5) : AM 1 yX3_tenths cX3_tenths 3 (some .int) [.ref 26, .ref (1000 + kd), .ref (1000 + kc)] (cw_C g P ta tb (ra, up, f0, su, nn, wk, ki, we, ow, fr, of) o0 o1 x) (ac_R (some (.int (nI (tn_N ra kd kc)))) (cw_C g P ta tb (ra, up, f0, su, nn, wk, ki, we, ow, fr, of) o0 o1 x)) := by
  refine AM.of (loc := [.ref 26, .ref (1000 + kd), .ref (1000 + kc)]) RX3 rfl (by decide +kernel) (Nat.le_of_ble_eq_true rfl) rfl ?_
  refine aw_aload_0 dX3_tenths_0 ?_
  refine gf_X3_9 dX3_tenths_1 rfl rfl ?_
  refine aw_aload_1 dX3_tenths_4 ?_
  refine gk_X3_35 hd dX3_tenths_5 ?_
  refine aw_topi (td_eq kd) ?_
  refine aw_imulN dX3_tenths_8 ?_
  refine aw_aload_2 dX3_tenths_9 ?_
  refine gk_X3_40 hc dX3_tenths_10 ?_
  refine aw_topi (tc_eq kc) ?_
  refine aw_imulN dX3_tenths_13 ?_
  exact aw_iret dX3_tenths_14 rfl (⟨rfl, rfl⟩)
theorem k_X3_owedNextWeek_2 (g : Nat × Int32) (P : pg_T) (ta tb : tw_T) (o0 o1 : of_T) (x : sc_T) (ra up f0 su nn : Nat) (wk : Int32) (ki we ow fr of : Nat → Nat) (o tn : Nat) (hu : up ≤ 1) (ho : o ≤ 9999) (ht : tn ≤ 18) : AM 1 yX3_owedNextWeek cX3_owedNextWeek 5 (some .int) [.ref 26, .int (nI o), .int (nI tn)] (cw_C g P ta tb (ra, up, f0, su, nn, wk, ki, we, ow, fr, of) o0 o1 x) (ac_R (some (.int (nI (gr_N up tn o)))) (cw_C g P ta tb (ra, up, f0, su, nn, wk, ki, we, ow, fr, of) o0 o1 x)) := by
  have hm : o * tn ≤ 9999 * 18 := Nat.mul_le_mul ho ht
  refine AM.of (loc := [.ref 26, .int (nI o), .int (nI tn), .null, .null]) RX3 rfl (by decide +kernel) (Nat.le_of_ble_eq_true rfl) rfl ?_
  refine aw_iload_1 dX3_owedNextWeek_0 ?_
  refine aw_iload_2 dX3_owedNextWeek_1 ?_
  refine aw_imulN dX3_owedNextWeek_2 ?_
  refine aw_istore_3 dX3_owedNextWeek_3 rfl (Nat.le_of_ble_eq_true rfl) ?_
  refine aw_aload_0 dX3_owedNextWeek_4 ?_
  refine gf_X3_15 dX3_owedNextWeek_5 rfl rfl ?_
  refine aw_if_eqN 21 dX3_owedNextWeek_8 (by decide) (by omega) (fun h1 => ?_) (fun h1 => ?_)
  · refine aw_iload_3 dX3_owedNextWeek_21 ?_
    refine akN_bipush_10 dX3_owedNextWeek_22 ?_
    refine aw_idivN dX3_owedNextWeek_24 (by omega) (by omega) (by omega) ?_
    refine aw_istore_4 dX3_owedNextWeek_25 rfl (Nat.le_of_ble_eq_true rfl) ?_
    refine akN_sipush_9999 dX3_owedNextWeek_27 ?_
    refine aw_iload_1 dX3_owedNextWeek_30 ?_
    refine aw_iload_4 dX3_owedNextWeek_31 ?_
    refine aw_iaddN dX3_owedNextWeek_33 ?_
    refine aw_minN gq_441 dX3_owedNextWeek_34 (Nat.le_of_ble_eq_true rfl) (by decide) (by omega) (by omega) ?_
    exact aw_iret dX3_owedNextWeek_37 rfl (⟨by unfold gr_N; rw [if_pos h1], rfl⟩)
  refine aw_iload_3 dX3_owedNextWeek_11 ?_
  refine akN_bipush_9 dX3_owedNextWeek_12 ?_
  refine aw_iaddN dX3_owedNextWeek_14 ?_
  refine akN_bipush_10 dX3_owedNextWeek_15 ?_
  refine aw_idivN dX3_owedNextWeek_17 (by omega) (by omega) (by omega) ?_
  refine aw_goto 25 dX3_owedNextWeek_18 (by decide) ?_
  refine aw_istore_4 dX3_owedNextWeek_25 rfl (Nat.le_of_ble_eq_true rfl) ?_
  refine akN_sipush_9999 dX3_owedNextWeek_27 ?_
  refine aw_iload_1 dX3_owedNextWeek_30 ?_
  refine aw_iload_4 dX3_owedNextWeek_31 ?_
  refine aw_iaddN dX3_owedNextWeek_33 ?_
  refine aw_minN gq_441 dX3_owedNextWeek_34 (Nat.le_of_ble_eq_true rfl) (by decide) (by omega) (by omega) ?_
  exact aw_iret dX3_owedNextWeek_37 rfl (⟨by unfold gr_N; rw [if_neg h1], rfl⟩)
theorem k_X8_kindOf_2 (g : Nat × Int32) (P : pg_T) (ta tb : tw_T) (o0 o1 : of_T) (x : sc_T) (ra up f0 su nn : Nat) (wk : Int32) (ki we ow fr of : Nat → Nat) (p : Nat) (hp : p < 5) (hk : ki p ≤ 4) : AM 1 yX8_kindOf cX8_kindOf 2 (some (.object "ThanksOwed$Kind")) [.ref 25, .int (nI p)] (cw_C g P ta tb (ra, up, f0, su, nn, wk, ki, we, ow, fr, of) o0 o1 x) (ac_R (some (.ref (1000 + ki p))) (cw_C g P ta tb (ra, up, f0, su, nn, wk, ki, we, ow, fr, of) o0 o1 x)) := by
  refine AM.of (loc := [.ref 25, .int (nI p)]) RX8 rfl (by decide +kernel) (Nat.le_of_ble_eq_true rfl) rfl ?_
  refine aw_kindsN rfl dX8_kindOf_0 ?_
  refine aw_aload_0 dX8_kindOf_3 ?_
  refine gf_X8_18 dX8_kindOf_4 rfl rfl ?_
  refine aw_iload_1 dX8_kindOf_7 ?_
  refine aw_ialdN dX8_kindOf_8 rfl hp ?_
  refine aw_kald dX8_kindOf_9 (vp_in_nI (show ki p < 5 by omega) (by decide)) ?_
  exact aw_aret dX8_kindOf_10 rfl (⟨by rw [nI_clamp (show ki p < 2 ^ 31 by omega)], rfl⟩)
theorem k_X8_hasBoth_2 (g : Nat × Int32) (P : pg_T) (ta tb : tw_T) (o0 o1 : of_T) (x : sc_T) (ra up f0 su nn : Nat) (wk : Int32) (ki we ow fr of : Nat → Nat) (a b : Int32) : AM 2 yX8_hasBoth cX8_hasBoth 3 (some .boolean) [.ref 25, .int a, .int b] (cw_C g P ta tb (ra, up, f0, su, nn, wk, ki, we, ow, fr, of) o0 o1 x) (ac_R (some (.int (bI (hb_P nn a b)))) (cw_C g P ta tb (ra, up, f0, su, nn, wk, ki, we, ow, fr, of) o0 o1 x)) := by
  refine AM.of (loc := [.ref 25, .int a, .int b]) RX8 rfl (by decide +kernel) (Nat.le_of_ble_eq_true rfl) rfl ?_
  by_cases h1 : hs_P nn a
  · by_cases h2 : hs_P nn b
    · refine aw_aload_0 dX8_hasBoth_0 ?_
      refine aw_iload_1 dX8_hasBoth_1 ?_
      refine ce_X8_51 dX8_hasBoth_2 rfl (k_X8_has_2 g P ta tb o0 o1 x ra up f0 su nn wk ki we ow fr of a) ?_
      refine aw_if_eq 25 dX8_hasBoth_5 (by decide) (fun hh => absurd hh (bI_n h1)) (fun _ => ?_)
      refine aw_aload_0 dX8_hasBoth_8 ?_
      refine aw_iload_2 dX8_hasBoth_9 ?_
      refine ce_X8_51 dX8_hasBoth_10 rfl (k_X8_has_2 g P ta tb o0 o1 x ra up f0 su nn wk ki we ow fr of b) ?_
      refine aw_if_eq 25 dX8_hasBoth_13 (by decide) (fun hh => absurd hh (bI_n h2)) (fun _ => ?_)
      refine aw_iload_1 dX8_hasBoth_16 ?_
      refine aw_iload_2 dX8_hasBoth_17 ?_
      refine aw_icmp_eq 25 dX8_hasBoth_18 (by decide) (fun h3 => ?_) (fun h3 => ?_)
      · refine ak_iconst_0 dX8_hasBoth_25 ?_
        exact aw_zret dX8_hasBoth_26 rfl (rfl) (⟨by rw [bI_f (fun q => q.2.2 h3)], rfl⟩)
      refine ak_iconst_1 dX8_hasBoth_21 ?_
      refine aw_goto 26 dX8_hasBoth_22 (by decide) ?_
      exact aw_zret dX8_hasBoth_26 rfl (rfl) (⟨by rw [bI_t ⟨h1, h2, h3⟩], rfl⟩)
    refine aw_aload_0 dX8_hasBoth_0 ?_
    refine aw_iload_1 dX8_hasBoth_1 ?_
    refine ce_X8_51 dX8_hasBoth_2 rfl (k_X8_has_2 g P ta tb o0 o1 x ra up f0 su nn wk ki we ow fr of a) ?_
    refine aw_if_eq 25 dX8_hasBoth_5 (by decide) (fun hh => absurd hh (bI_n h1)) (fun _ => ?_)
    refine aw_aload_0 dX8_hasBoth_8 ?_
    refine aw_iload_2 dX8_hasBoth_9 ?_
    refine ce_X8_51 dX8_hasBoth_10 rfl (k_X8_has_2 g P ta tb o0 o1 x ra up f0 su nn wk ki we ow fr of b) ?_
    refine aw_if_eq 25 dX8_hasBoth_13 (by decide) (fun _ => ?_) (fun hh => absurd (bI_f h2) hh)
    refine ak_iconst_0 dX8_hasBoth_25 ?_
    exact aw_zret dX8_hasBoth_26 rfl (rfl) (⟨by rw [bI_f (fun q => h2 q.2.1)], rfl⟩)
  refine aw_aload_0 dX8_hasBoth_0 ?_
  refine aw_iload_1 dX8_hasBoth_1 ?_
  refine ce_X8_51 dX8_hasBoth_2 rfl (k_X8_has_2 g P ta tb o0 o1 x ra up f0 su nn wk ki we ow fr of a) ?_
  refine aw_if_eq 25 dX8_hasBoth_5 (by decide) (fun _ => ?_) (fun hh => absurd (bI_f h1) hh)
  refine ak_iconst_0 dX8_hasBoth_25 ?_
  exact aw_zret dX8_hasBoth_26 rfl (rfl) (⟨by rw [bI_f (fun q => h1 q.1)], rfl⟩)
theorem k_X8_owedTo_2 (g : Nat × Int32) (P : pg_T) (ta tb : tw_T) (o0 o1 : of_T) (x : sc_T) (ra up f0 su nn : Nat) (wk : Int32) (ki we ow fr of : Nat → Nat) (p : Nat) (hn : nn ≤ 5) (hp : p < 5) : AM 2 yX8_owedTo cX8_owedTo 4 (some .int) [.ref 25, .int (nI p)] (cw_C g P ta tb (ra, up, f0, su, nn, wk, ki, we, ow, fr, of) o0 o1 x) (ac_R (some (.int (nI (fb_sm (fun q => ow (5 * q + p)) nn)))) (cw_C g P ta tb (ra, up, f0, su, nn, wk, ki, we, ow, fr, of) o0 o1 x)) := by
  refine AM.of (loc := [.ref 25, .int (nI p), .null, .null]) RX8 rfl (by decide +kernel) (Nat.le_of_ble_eq_true rfl) rfl ?_
  refine akN_iconst_0 dX8_owedTo_0 ?_
  refine aw_istore_2 dX8_owedTo_1 rfl (Nat.le_of_ble_eq_true rfl) ?_
  refine akN_iconst_0 dX8_owedTo_2 ?_
  refine aw_istore_3 dX8_owedTo_3 rfl (Nat.le_of_ble_eq_true rfl) ?_
  have loop : ∀ k i, i + k = nn → AW 2 RX8 cX8_owedTo 4 (some .int) 41 (ac_R (some (.int (nI (fb_sm (fun q => ow (5 * q + p)) nn)))) (cw_C g P ta tb (ra, up, f0, su, nn, wk, ki, we, ow, fr, of) o0 o1 x)) 4 [.ref 25, .int (nI p), .int (nI (fb_sm (fun q => ow (5 * q + p)) i)), .int (nI i)] [] (cw_C g P ta tb (ra, up, f0, su, nn, wk, ki, we, ow, fr, of) o0 o1 x) := by
    intro k
    induction k with
    | zero =>
      intro i hi
      refine aw_iload_3 dX8_owedTo_4 ?_
      refine aw_aload_0 dX8_owedTo_5 ?_
      refine gf_X8_44 dX8_owedTo_6 rfl rfl ?_
      refine aw_icmp_geN 31 dX8_owedTo_9 (by decide) (by omega) (by omega) (fun _ => ?_) (fun hh => absurd hh (by omega))
      refine aw_iload_2 dX8_owedTo_31 ?_
      obtain rfl : i = nn := by omega
      exact aw_iret dX8_owedTo_32 rfl (⟨rfl, rfl⟩)
    | succ k ih =>
      intro i hi
      refine aw_iload_3 dX8_owedTo_4 ?_
      refine aw_aload_0 dX8_owedTo_5 ?_
      refine gf_X8_44 dX8_owedTo_6 rfl rfl ?_
      refine aw_icmp_geN 31 dX8_owedTo_9 (by decide) (by omega) (by omega) (fun hh => absurd hh (by omega)) (fun _ => ?_)
      refine aw_iload_2 dX8_owedTo_12 ?_
      refine aw_aload_0 dX8_owedTo_13 ?_
      refine gf_X8_25 dX8_owedTo_14 rfl rfl ?_
      refine aw_iload_3 dX8_owedTo_17 ?_
      refine aw_iload_1 dX8_owedTo_18 ?_
      refine ce_X8_59 dX8_owedTo_19 (k_X9_pairOf _ i p) ?_
      refine aw_ialdN dX8_owedTo_22 rfl (by omega) ?_
      refine aw_iaddN dX8_owedTo_23 ?_
      refine aw_istore_2 dX8_owedTo_24 rfl (Nat.le_of_ble_eq_true rfl) ?_
      refine aw_iincN_3 dX8_owedTo_25 rfl (Nat.le_of_ble_eq_true rfl) ?_
      refine aw_goto 4 dX8_owedTo_28 (by decide) ?_
      exact ih (i + 1) (by omega)
  exact loop nn 0 (by omega)
theorem k_X8_isOffended_2 (g : Nat × Int32) (P : pg_T) (ta tb : tw_T) (o0 o1 : of_T) (x : sc_T) (ra up f0 su nn : Nat) (wk : Int32) (ki we ow fr of : Nat → Nat) (a b : Nat) (ha : a < 5) (hb : b < 5) (ho : of (5 * a + b) ≤ 9) : AM 2 yX8_isOffended cX8_isOffended 3 (some .boolean) [.ref 25, .int (nI a), .int (nI b)] (cw_C g P ta tb (ra, up, f0, su, nn, wk, ki, we, ow, fr, of) o0 o1 x) (ac_R (some (.int (bI (0 < of (5 * a + b))))) (cw_C g P ta tb (ra, up, f0, su, nn, wk, ki, we, ow, fr, of) o0 o1 x)) := by
  refine AM.of (loc := [.ref 25, .int (nI a), .int (nI b)]) RX8 rfl (by decide +kernel) (Nat.le_of_ble_eq_true rfl) rfl ?_
  refine aw_aload_0 dX8_isOffended_0 ?_
  refine gf_X8_31 dX8_isOffended_1 rfl rfl ?_
  refine aw_iload_1 dX8_isOffended_4 ?_
  refine aw_iload_2 dX8_isOffended_5 ?_
  refine ce_X8_59 dX8_isOffended_6 (k_X9_pairOf _ a b) ?_
  refine aw_ialdN dX8_isOffended_9 rfl (by omega) ?_
  refine aw_if_leN 17 dX8_isOffended_10 (by decide) (by omega) (fun h1 => ?_) (fun h1 => ?_)
  · refine ak_iconst_0 dX8_isOffended_17 ?_
    exact aw_zret dX8_isOffended_18 rfl (rfl) (⟨by rw [bI_f (by omega)], rfl⟩)
  refine ak_iconst_1 dX8_isOffended_13 ?_
  refine aw_goto 18 dX8_isOffended_14 (by decide) ?_
  exact aw_zret dX8_isOffended_18 rfl (rfl) (⟨by rw [bI_t h1], rfl⟩)
theorem k_X8_thank_2 (g : Nat × Int32) (P : pg_T) (ta tb : tw_T) (o0 o1 : of_T) (x : sc_T) (ra up f0 su nn : Nat) (wk : Int32) (ki we ow fr of : Nat → Nat) (a b z : Nat) (ha : a < 5) (hb : b < 5) (hz : z ≤ 999) (ho : ow (5 * b + a) ≤ 9999) (hf : fr (5 * b + a) ≤ 9) (h0 : f0 ≤ 9) : AM 2 yX8_thank cX8_thank 5 none [.ref 25, .int (nI a), .int (nI b), .int (nI z)] (cw_C g P ta tb (ra, up, f0, su, nn, wk, ki, we, ow, fr, of) o0 o1 x) (ac_R none (cw_C g P ta tb (ra, up, f0, su, nn, wk, ki, we, va_up ow (5 * b + a) (min 9999 (ow (5 * b + a) + z)), va_up fr (5 * b + a) (max (fr (5 * b + a)) f0), of) o0 o1 x)) := by
  refine AM.of (loc := [.ref 25, .int (nI a), .int (nI b), .int (nI z), .null]) RX8 rfl (by decide +kernel) (Nat.le_of_ble_eq_true rfl) rfl ?_
  refine aw_iload_2 dX8_thank_0 ?_
  refine aw_iload_1 dX8_thank_1 ?_
  refine ce_X8_59 dX8_thank_2 (k_X9_pairOf _ b a) ?_
  refine aw_istore_4 dX8_thank_5 rfl (Nat.le_of_ble_eq_true rfl) ?_
  refine aw_aload_0 dX8_thank_7 ?_
  refine gf_X8_25 dX8_thank_8 rfl rfl ?_
  refine aw_iload_4 dX8_thank_11 ?_
  refine akN_sipush_9999 dX8_thank_13 ?_
  refine aw_aload_0 dX8_thank_16 ?_
  refine gf_X8_25 dX8_thank_17 rfl rfl ?_
  refine aw_iload_4 dX8_thank_20 ?_
  refine aw_ialdN dX8_thank_22 rfl (by omega) ?_
  refine aw_iload_3 dX8_thank_23 ?_
  refine aw_iaddN dX8_thank_24 ?_
  refine aw_minN gq_410 dX8_thank_25 (Nat.le_of_ble_eq_true rfl) (by decide) (by omega) (by omega) ?_
  refine aw_iastN dX8_thank_28 rfl (by omega) ?_
  refine aw_w cs_29 ?_
  refine aw_aload_0 dX8_thank_29 ?_
  refine gf_X8_28 dX8_thank_30 rfl rfl ?_
  refine aw_iload_4 dX8_thank_33 ?_
  refine aw_aload_0 dX8_thank_35 ?_
  refine gf_X8_28 dX8_thank_36 rfl rfl ?_
  refine aw_iload_4 dX8_thank_39 ?_
  refine aw_ialdN dX8_thank_41 rfl (by omega) ?_
  refine aw_aload_0 dX8_thank_42 ?_
  refine gf_X8_12 dX8_thank_43 rfl rfl ?_
  refine gf_X8_85 dX8_thank_46 rfl rfl ?_
  refine aw_maxN gq_413 dX8_thank_49 (Nat.le_of_ble_eq_true rfl) (by decide) (by omega) (by omega) ?_
  refine aw_iastN dX8_thank_52 rfl (by omega) ?_
  refine aw_w cs_30 ?_
  exact aw_vret dX8_thank_53 rfl (⟨rfl, rfl⟩)
theorem k_X8_grunt_2 (g : Nat × Int32) (P : pg_T) (ta tb : tw_T) (o0 o1 : of_T) (x : sc_T) (ra up f0 su nn : Nat) (wk : Int32) (ki we ow fr of : Nat → Nat) (a b : Nat) (ha : a < 5) (hb : b < 5) (hk : ki a ≤ 4) (ho : of (5 * a + b) ≤ 9) (h0 : su ≤ 9) : AM 2 yX8_grunt cX8_grunt 4 none [.ref 25, .int (nI a), .int (nI b)] (cw_C g P ta tb (ra, up, f0, su, nn, wk, ki, we, ow, fr, of) o0 o1 x) (ac_R none (cw_C g P ta tb (ra, up, f0, su, nn, wk, ki, we, ow, fr, if ki a < 4 then va_up of (5 * a + b) (max (of (5 * a + b)) su) else of) o0 o1 x)) := by
  refine AM.of (loc := [.ref 25, .int (nI a), .int (nI b), .null]) RX8 rfl (by decide +kernel) (Nat.le_of_ble_eq_true rfl) rfl ?_
  refine aw_aload_0 dX8_grunt_0 ?_
  refine aw_iload_1 dX8_grunt_1 ?_
  refine ce_X8_90 dX8_grunt_2 rfl (k_X8_kindOf_2 g P ta tb o0 o1 x ra up f0 su nn wk ki we ow fr of a ha hk) ?_
  refine gk_X8_94 (show ki a < 5 by omega) dX8_grunt_5 ?_
  refine aw_topi (sk_eq (ki a)) ?_
  by_cases h1 : ki a < 4
  · refine aw_if_eq 39 dX8_grunt_8 (by decide) (fun hh => absurd hh (bI_n h1)) (fun _ => ?_)
    refine aw_iload_1 dX8_grunt_11 ?_
    refine aw_iload_2 dX8_grunt_12 ?_
    refine ce_X8_59 dX8_grunt_13 (k_X9_pairOf _ a b) ?_
    refine aw_istore_3 dX8_grunt_16 rfl (Nat.le_of_ble_eq_true rfl) ?_
    refine aw_aload_0 dX8_grunt_17 ?_
    refine gf_X8_31 dX8_grunt_18 rfl rfl ?_
    refine aw_iload_3 dX8_grunt_21 ?_
    refine aw_aload_0 dX8_grunt_22 ?_
    refine gf_X8_31 dX8_grunt_23 rfl rfl ?_
    refine aw_iload_3 dX8_grunt_26 ?_
    refine aw_ialdN dX8_grunt_27 rfl (by omega) ?_
    refine aw_aload_0 dX8_grunt_28 ?_
    refine gf_X8_12 dX8_grunt_29 rfl rfl ?_
    refine gf_X8_100 dX8_grunt_32 rfl rfl ?_
    refine aw_maxN gq_413 dX8_grunt_35 (Nat.le_of_ble_eq_true rfl) (by decide) (by omega) (by omega) ?_
    refine aw_iastN dX8_grunt_38 rfl (by omega) ?_
    refine aw_w cs_31 ?_
    rw [if_pos h1]
    exact aw_vret dX8_grunt_39 rfl (⟨rfl, rfl⟩)
  refine aw_if_eq 39 dX8_grunt_8 (by decide) (fun _ => ?_) (fun hh => absurd (bI_f h1) hh)
  rw [if_neg h1]
  exact aw_vret dX8_grunt_39 rfl (⟨rfl, rfl⟩)
theorem k_X8_passPairWeek_2 (g : Nat × Int32) (P : pg_T) (ta tb : tw_T) (o0 o1 : of_T) (x : sc_T) (ra up f0 su nn : Nat) (wk : Int32) (ki we ow fr of : Nat → Nat) (a b : Nat) (ha : a < 5) (hb : b < 5) (hra : ra ≤ 9) (hu : up ≤ 1) (hka : ki a ≤ 4) (hkb : ki b ≤ 4) (ho : ow (5 * a + b) ≤ 9999) (hf : fr (5 * a + b) ≤ 9) (hx : of (5 * a + b) ≤ 9) : AM 2 yX8_passPairWeek cX8_passPairWeek 5 (some .int) [.ref 25, .int (nI a), .int (nI b)] (cw_C g P ta tb (ra, up, f0, su, nn, wk, ki, we, ow, fr, of) o0 o1 x) (ac_R (some (.int (nI (nw_N ra up ki ow fr (5 * a + b)) - nI (ow (5 * a + b))))) (cw_C g P ta tb (ra, up, f0, su, nn, wk, ki, we, va_up ow (5 * a + b) (nw_N ra up ki ow fr (5 * a + b)), va_up fr (5 * a + b) (fr (5 * a + b) - 1), va_up of (5 * a + b) (of (5 * a + b) - 1)) o0 o1 x)) := by
  have e1 : (5 * a + b) / 5 = a := by omega
  have e2 : (5 * a + b) % 5 = b := by omega
  have hmax : ∀ y : Nat, y ≤ 9 → (if (0 : Int32) < nI y - 1 then nI y - 1 else 0) = nI (y - 1) := by
    intro y hy
    match y, hy with
    | 0, _ => rfl
    | y + 1, hy =>
      rw [show nI (y + 1) - 1 = nI y from nI_pred y, show y + 1 - 1 = y from rfl]
      by_cases h : 0 < y
      · exact if_pos (show (0 : Int32) < nI y from (nI_ltI (by decide : (0 : Nat) < 2147483648) (by omega)).mpr h)
      · obtain rfl : y = 0 := by omega
        rfl
  have tail : ∀ v : Nat, v ≤ 9999 → AW 2 RX8 cX8_passPairWeek 5 (some .int) 41 (ac_R (some (.int (nI (nw_N ra up ki ow fr (5 * a + b)) - nI (ow (5 * a + b))))) (cw_C g P ta tb (ra, up, f0, su, nn, wk, ki, we, va_up ow (5 * a + b) (nw_N ra up ki ow fr (5 * a + b)), va_up fr (5 * a + b) (fr (5 * a + b) - 1), va_up of (5 * a + b) (of (5 * a + b) - 1)) o0 o1 x)) 60 [.ref 25, .int (nI a), .int (nI b), .int (nI (5 * a + b)), .int (nI (ow (5 * a + b)))] [] (cw_C g P ta tb (ra, up, f0, su, nn, wk, ki, we, va_up ow (5 * a + b) v, fr, of) o0 o1 x) ∨ v ≠ nw_N ra up ki ow fr (5 * a + b) := by
    intro v hv
    by_cases hq : v = nw_N ra up ki ow fr (5 * a + b)
    · left
      refine aw_aload_0 dX8_passPairWeek_60 ?_
      refine gf_X8_28 dX8_passPairWeek_61 rfl rfl ?_
      refine aw_iload_3 dX8_passPairWeek_64 ?_
      refine akN_iconst_0 dX8_passPairWeek_65 ?_
      refine aw_aload_0 dX8_passPairWeek_66 ?_
      refine gf_X8_28 dX8_passPairWeek_67 rfl rfl ?_
      refine aw_iload_3 dX8_passPairWeek_70 ?_
      refine aw_ialdN dX8_passPairWeek_71 rfl (by omega) ?_
      refine ak_iconst_1 dX8_passPairWeek_72 ?_
      refine aw_isub dX8_passPairWeek_73 ?_
      refine aw_max gq_413 dX8_passPairWeek_74 (Nat.le_of_ble_eq_true rfl) (by decide) ?_
      refine aw_topi (hmax _ hf) ?_
      refine aw_iastN dX8_passPairWeek_77 rfl (by omega) ?_
      refine aw_w cs_30 ?_
      refine aw_aload_0 dX8_passPairWeek_78 ?_
      refine gf_X8_31 dX8_passPairWeek_79 rfl rfl ?_
      refine aw_iload_3 dX8_passPairWeek_82 ?_
      refine akN_iconst_0 dX8_passPairWeek_83 ?_
      refine aw_aload_0 dX8_passPairWeek_84 ?_
      refine gf_X8_31 dX8_passPairWeek_85 rfl rfl ?_
      refine aw_iload_3 dX8_passPairWeek_88 ?_
      refine aw_ialdN dX8_passPairWeek_89 rfl (by omega) ?_
      refine ak_iconst_1 dX8_passPairWeek_90 ?_
      refine aw_isub dX8_passPairWeek_91 ?_
      refine aw_max gq_413 dX8_passPairWeek_92 (Nat.le_of_ble_eq_true rfl) (by decide) ?_
      refine aw_topi (hmax _ hx) ?_
      refine aw_iastN dX8_passPairWeek_95 rfl (by omega) ?_
      refine aw_w cs_31 ?_
      refine aw_aload_0 dX8_passPairWeek_96 ?_
      refine gf_X8_25 dX8_passPairWeek_97 rfl rfl ?_
      refine aw_iload_3 dX8_passPairWeek_100 ?_
      refine aw_ialdN dX8_passPairWeek_101 rfl (by omega) ?_
      refine aw_iload_4 dX8_passPairWeek_102 ?_
      refine aw_isub dX8_passPairWeek_104 ?_
      exact aw_iret dX8_passPairWeek_105 rfl (⟨by rw [hq]; unfold va_up; rw [if_pos rfl], by rw [hq]⟩)
    · exact Or.inr hq
  refine AM.of (loc := [.ref 25, .int (nI a), .int (nI b), .null, .null]) RX8 rfl (by decide +kernel) (Nat.le_of_ble_eq_true rfl) rfl ?_
  refine aw_iload_1 dX8_passPairWeek_0 ?_
  refine aw_iload_2 dX8_passPairWeek_1 ?_
  refine ce_X8_59 dX8_passPairWeek_2 (k_X9_pairOf _ a b) ?_
  refine aw_istore_3 dX8_passPairWeek_5 rfl (Nat.le_of_ble_eq_true rfl) ?_
  refine aw_aload_0 dX8_passPairWeek_6 ?_
  refine gf_X8_25 dX8_passPairWeek_7 rfl rfl ?_
  refine aw_iload_3 dX8_passPairWeek_10 ?_
  refine aw_ialdN dX8_passPairWeek_11 rfl (by omega) ?_
  refine aw_istore_4 dX8_passPairWeek_12 rfl (Nat.le_of_ble_eq_true rfl) ?_
  refine aw_aload_0 dX8_passPairWeek_14 ?_
  refine gf_X8_28 dX8_passPairWeek_15 rfl rfl ?_
  refine aw_iload_3 dX8_passPairWeek_18 ?_
  refine aw_ialdN dX8_passPairWeek_19 rfl (by omega) ?_
  refine aw_if_neN 60 dX8_passPairWeek_20 (by decide) (by omega) (fun h1 => ?_) (fun h1 => ?_)
  · have hq : ow (5 * a + b) = nw_N ra up ki ow fr (5 * a + b) := by unfold nw_N; rw [if_neg h1]
    rcases tail _ ho with h | h
    · refine aw_w ?_ h
      exact congrArg (fun z => cw_C g P ta tb (ra, up, f0, su, nn, wk, ki, we, z, fr, of) o0 o1 x) (funext fun j => by unfold va_up; by_cases e : j = 5 * a + b <;> simp [e])
    · exact absurd hq h
  refine aw_iload_4 dX8_passPairWeek_23 ?_
  refine aw_if_leN 60 dX8_passPairWeek_25 (by decide) (by omega) (fun h2 => ?_) (fun h2 => ?_)
  · have hq : ow (5 * a + b) = nw_N ra up ki ow fr (5 * a + b) := by
      unfold nw_N gr_N
      rw [if_pos h1, show ow (5 * a + b) = 0 by omega]
      simp
    rcases tail _ ho with h | h
    · refine aw_w ?_ h
      exact congrArg (fun z => cw_C g P ta tb (ra, up, f0, su, nn, wk, ki, we, z, fr, of) o0 o1 x) (funext fun j => by unfold va_up; by_cases e : j = 5 * a + b <;> simp [e])
    · exact absurd hq h
  refine aw_aload_0 dX8_passPairWeek_28 ?_
  refine gf_X8_25 dX8_passPairWeek_29 rfl rfl ?_
  refine aw_iload_3 dX8_passPairWeek_32 ?_
  refine aw_aload_0 dX8_passPairWeek_33 ?_
  refine gf_X8_12 dX8_passPairWeek_34 rfl rfl ?_
  refine aw_iload_4 dX8_passPairWeek_37 ?_
  refine aw_aload_0 dX8_passPairWeek_39 ?_
  refine gf_X8_12 dX8_passPairWeek_40 rfl rfl ?_
  refine aw_aload_0 dX8_passPairWeek_43 ?_
  refine aw_iload_1 dX8_passPairWeek_44 ?_
  refine ce_X8_90 dX8_passPairWeek_45 rfl (k_X8_kindOf_2 g P ta tb o0 o1 x ra up f0 su nn wk ki we ow fr of a ha hka) ?_
  refine aw_aload_0 dX8_passPairWeek_48 ?_
  refine aw_iload_2 dX8_passPairWeek_49 ?_
  refine ce_X8_90 dX8_passPairWeek_50 rfl (k_X8_kindOf_2 g P ta tb o0 o1 x ra up f0 su nn wk ki we ow fr of b hb hkb) ?_
  refine ce_X8_106 dX8_passPairWeek_53 rfl (k_X3_tenths_2 g P ta tb o0 o1 x ra up f0 su nn wk ki we ow fr of (ki a) (ki b) (by omega) (by omega)) ?_
  refine ce_X8_110 dX8_passPairWeek_56 rfl (k_X3_owedNextWeek_2 g P ta tb o0 o1 x ra up f0 su nn wk ki we ow fr of (ow (5 * a + b)) (tn_N ra (ki a) (ki b)) hu ho (tn_le hra)) ?_
  refine aw_iastN dX8_passPairWeek_59 rfl (by omega) ?_
  refine aw_w cs_29 ?_
  rcases tail (gr_N up (tn_N ra (ki a) (ki b)) (ow (5 * a + b))) (gr_le _ _ _) with h | h
  · exact h
  · exact absurd (by unfold nw_N; rw [if_pos h1, e1, e2]) h
