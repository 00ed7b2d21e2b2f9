/-! ===== the page, the law, debts behind weeks, bankrupts, offers ===== -/
theorem ni_sub_toInt {a b : Nat} (ha : a < 2147483648) (hb : b < 2147483648) : (nI a - nI b).toInt = (a : Int) - b := by
  have h1 : (nI a).toInt = (a : Int) := nI_toInt ha
  have h2 : (nI b).toInt = (b : Int) := nI_toInt hb
  rw [fb_subI (by rw [h1, h2]; omega) (by rw [h1, h2]; omega), h1, h2]
/-- the letter at a place is one that a law has there -/
def ft_B (pc : Nat → Nat) (k : Nat) : Bool := decide (k < 4) && (if k = 1 then decide (pc 1 = 117 ∨ pc 1 = 100) else decide (48 ≤ pc k ∧ pc k ≤ 57))
def fl_N (pl : Nat) (pc : Nat → Nat) : Nat := fa_first (fun k => !ft_B pc k) pl
theorem first_at {p : Nat → Bool} {n i : Nat} (hi : i < n) (h : ∀ j, j < i → p j = false) (hp : p i = true) : fa_first p n = i := by
  rcases Nat.lt_trichotomy (fa_first p n) i with q | q | q
  · have h1 := fa_first_yes p n (Nat.lt_trans q hi)
    rw [h _ q] at h1
    cases h1
  · exact q
  · have h1 := fa_first_no p n i q
    rw [hp] at h1
    cases h1
theorem first_no {p : Nat → Bool} {n : Nat} (h : ∀ j, j < n → p j = false) : fa_first p n = n := by
  rcases Nat.lt_or_ge (fa_first p n) n with q | q
  · have h1 := fa_first_yes p n q
    rw [h _ q] at h1
    cases h1
  · exact Nat.le_antisymm (fa_first_le p n) q
theorem dg_in {c : Nat} (h : c ≤ 126) : ((0 : Int32) ≤ nI c - 48 ∧ nI c - 48 ≤ 9) ↔ (48 ≤ c ∧ c ≤ 57) := by
  have e : (nI c - 48 : Int32).toInt = (c : Int) - 48 := ni_sub_toInt (by omega) (by decide : (48 : Nat) < 2147483648)
  rw [fa_le, fa_le, e, show (0 : Int32).toInt = 0 from rfl, show (9 : Int32).toInt = 9 from rfl]
  omega
/-- so many weeks of growing -/
def ig_N (up tn : Nat) : Nat → Nat → Nat
  | 0, o => o
  | m + 1, o => ig_N up tn m (gr_N up tn o)
theorem ig_fix {up tn o : Nat} (h : gr_N up tn o = o) : ∀ m, ig_N up tn m o = o
  | 0 => rfl
  | m + 1 => by rw [ig_N, h]; exact ig_fix h m
theorem ig_le {up tn : Nat} : ∀ (m : Nat) {o : Nat}, o ≤ 9999 → ig_N up tn m o ≤ 9999
  | 0, _, h => h
  | m + 1, o, _ => ig_le m (gr_le up tn o)
theorem k_X5_digit (g : Nat × Int32) (pl : Nat) (pc : Nat → Nat) (t0 t1 t2 : tw_T) (o0 o1 : of_T) (x : sc_T) (k : Nat) (hk : k < 6) : AM 1 yX5_digit cX5_digit 2 (some .int) [.ref 1, .int (nI k)] (cw_C g (pl, pc) t0 t1 t2 o0 o1 x) (ac_R (some (.int (nI (pc k) - 48))) (cw_C g (pl, pc) t0 t1 t2 o0 o1 x)) := by
  refine AM.of (loc := [.ref 1, .int (nI k)]) RX5 rfl (by decide +kernel) (Nat.le_of_ble_eq_true rfl) rfl ?_
  refine aw_aload_0 dX5_digit_0 ?_
  refine gf_X5_9 dX5_digit_1 rfl rfl ?_
  refine aw_iload_1 dX5_digit_4 ?_
  refine aw_ialdN dX5_digit_5 rfl hk ?_
  refine ak_bipush_48 dX5_digit_6 ?_
  refine aw_isub dX5_digit_8 ?_
  exact aw_iret dX5_digit_9 rfl (⟨rfl, rfl⟩)
theorem k_X5_fits (g : Nat × Int32) (pl : Nat) (pc : Nat → Nat) (t0 t1 t2 : tw_T) (o0 o1 : of_T) (x : sc_T) (k : Nat) (hk : k < 6) (hc : ∀ k, pc k ≤ 126) : AM 2 yX5_fits cX5_fits 2 (some .boolean) [.ref 1, .int (nI k)] (cw_C g (pl, pc) t0 t1 t2 o0 o1 x) (ac_R (some (.int (bI (ft_B pc k = true)))) (cw_C g (pl, pc) t0 t1 t2 o0 o1 x)) := by
  have hck := hc k
  refine AM.of (loc := [.ref 1, .int (nI k)]) RX5 rfl (by decide +kernel) (Nat.le_of_ble_eq_true rfl) rfl ?_
  refine aw_iload_1 dX5_fits_0 ?_
  refine akN_iconst_4 dX5_fits_1 ?_
  refine aw_icmp_ltN 7 dX5_fits_2 (by decide) (by omega) (by omega) (fun h1 => ?_) (fun h1 => ?_)
  · refine aw_iload_1 dX5_fits_7 ?_
    refine akN_iconst_1 dX5_fits_8 ?_
    refine aw_icmp_neN 40 dX5_fits_9 (by decide) (by omega) (by omega) (fun h2 => ?_) (fun h2 => ?_)
    · refine aw_aload_0 dX5_fits_40 ?_
      refine aw_iload_1 dX5_fits_41 ?_
      refine ce_X5_27 dX5_fits_42 rfl (k_X5_digit g pl pc t0 t1 t2 o0 o1 x k hk) ?_
      refine ak_iconst_0 dX5_fits_45 ?_
      refine ak_bipush_9 dX5_fits_46 ?_
      refine ce_X5_31 dX5_fits_48 (k_X9_within _ (nI (pc k) - 48) 0 9) ?_
      exact aw_zret dX5_fits_51 rfl (bI_1) (⟨by rw [bI_c (dg_in (hc k))]; refine congrArg (fun z => some (Value.int z)) (bI_c ?_); unfold ft_B; rw [if_neg h2]; simp [h1], rfl⟩)
    subst h2
    refine aw_aload_0 dX5_fits_12 ?_
    refine gf_X5_9 dX5_fits_13 rfl rfl ?_
    refine aw_iload_1 dX5_fits_16 ?_
    refine aw_ialdN dX5_fits_17 rfl (by omega) ?_
    refine akN_bipush_117 dX5_fits_18 ?_
    refine aw_icmp_eqN 34 dX5_fits_20 (by decide) (by omega) (by omega) (fun h3 => ?_) (fun h3 => ?_)
    · refine ak_iconst_1 dX5_fits_34 ?_
      refine aw_goto 39 dX5_fits_35 (by decide) ?_
      exact aw_zret dX5_fits_39 rfl (rfl) (⟨by rw [bI_t (by unfold ft_B; rw [h3]; rfl)], rfl⟩)
    refine aw_aload_0 dX5_fits_23 ?_
    refine gf_X5_9 dX5_fits_24 rfl rfl ?_
    refine aw_iload_1 dX5_fits_27 ?_
    refine aw_ialdN dX5_fits_28 rfl (by omega) ?_
    refine akN_bipush_100 dX5_fits_29 ?_
    refine aw_icmp_neN 38 dX5_fits_31 (by decide) (by omega) (by omega) (fun h4 => ?_) (fun h4 => ?_)
    · refine ak_iconst_0 dX5_fits_38 ?_
      exact aw_zret dX5_fits_39 rfl (rfl) (⟨by rw [bI_f (by unfold ft_B; simp [h3, h4])], rfl⟩)
    refine ak_iconst_1 dX5_fits_34 ?_
    refine aw_goto 39 dX5_fits_35 (by decide) ?_
    exact aw_zret dX5_fits_39 rfl (rfl) (⟨by rw [bI_t (by unfold ft_B; rw [h4]; rfl)], rfl⟩)
  refine ak_iconst_0 dX5_fits_5 ?_
  exact aw_zret dX5_fits_6 rfl (rfl) (⟨by rw [bI_f (by unfold ft_B; rw [decide_eq_false (by omega)]; simp)], rfl⟩)
theorem k_X5_firstFault (g : Nat × Int32) (pl : Nat) (pc : Nat → Nat) (t0 t1 t2 : tw_T) (o0 o1 : of_T) (x : sc_T) (hp : pl ≤ 6) (hc : ∀ k, pc k ≤ 126) : AM 3 yX5_firstFault cX5_firstFault 2 (some .int) [.ref 1] (cw_C g (pl, pc) t0 t1 t2 o0 o1 x) (ac_R (some (.int (nI (fl_N pl pc)))) (cw_C g (pl, pc) t0 t1 t2 o0 o1 x)) := by
  refine AM.of (loc := [.ref 1, .null]) RX5 rfl (by decide +kernel) (Nat.le_of_ble_eq_true rfl) rfl ?_
  refine akN_iconst_0 dX5_firstFault_0 ?_
  refine aw_istore_1 dX5_firstFault_1 rfl (Nat.le_of_ble_eq_true rfl) ?_
  have loop : ∀ k i, i + k = pl → (∀ j, j < i → (!ft_B pc j) = false) → AW 3 RX5 cX5_firstFault 2 (some .int) 41 (ac_R (some (.int (nI (fl_N pl pc)))) (cw_C g (pl, pc) t0 t1 t2 o0 o1 x)) 2 [.ref 1, .int (nI i)] [] (cw_C g (pl, pc) t0 t1 t2 o0 o1 x) := by
    intro k
    induction k with
    | zero =>
      intro i hi hj
      obtain rfl : i = pl := by omega
      refine aw_iload_1 dX5_firstFault_2 ?_
      refine aw_aload_0 dX5_firstFault_3 ?_
      refine gf_X5_15 dX5_firstFault_4 rfl rfl ?_
      refine aw_icmp_geN 26 dX5_firstFault_7 (by decide) (by omega) (by omega) (fun _ => ?_) (fun hh => absurd hh (by omega))
      refine aw_aload_0 dX5_firstFault_26 ?_
      refine gf_X5_15 dX5_firstFault_27 rfl rfl ?_
      exact aw_iret dX5_firstFault_30 rfl (⟨by rw [fl_N, first_no hj], rfl⟩)
    | succ k ih =>
      intro i hi hj
      refine aw_iload_1 dX5_firstFault_2 ?_
      refine aw_aload_0 dX5_firstFault_3 ?_
      refine gf_X5_15 dX5_firstFault_4 rfl rfl ?_
      refine aw_icmp_geN 26 dX5_firstFault_7 (by decide) (by omega) (by omega) (fun hh => absurd hh (by omega)) (fun _ => ?_)
      refine aw_aload_0 dX5_firstFault_10 ?_
      refine aw_iload_1 dX5_firstFault_11 ?_
      refine ce_X5_19 dX5_firstFault_12 rfl (k_X5_fits g pl pc t0 t1 t2 o0 o1 x i (by omega) hc) ?_
      by_cases h1 : ft_B pc i = true
      · refine aw_if_ne 20 dX5_firstFault_15 (by decide) (fun _ => ?_) (fun hh => absurd hh (bI_n h1))
        refine aw_iincN_1 dX5_firstFault_20 rfl (Nat.le_of_ble_eq_true rfl) ?_
        refine aw_goto 2 dX5_firstFault_23 (by decide) ?_
        exact ih (i + 1) (by omega) (lt_s hj (by rw [h1]; rfl))
      · refine aw_if_ne 20 dX5_firstFault_15 (by decide) (fun hh => absurd (bI_f h1) hh) (fun _ => ?_)
        refine aw_iload_1 dX5_firstFault_18 ?_
        exact aw_iret dX5_firstFault_19 rfl (⟨by rw [fl_N, first_at (show i < pl by omega) hj (by simpa using h1)], rfl⟩)
  exact loop pl 0 (by omega) (fun j h => absurd h (Nat.not_lt_zero j))
theorem k_X5_isLaw (g : Nat × Int32) (pl : Nat) (pc : Nat → Nat) (t0 t1 t2 : tw_T) (o0 o1 : of_T) (x : sc_T) (hp : pl ≤ 6) (hc : ∀ k, pc k ≤ 126) : AM 4 yX5_isLaw cX5_isLaw 1 (some .boolean) [.ref 1] (cw_C g (pl, pc) t0 t1 t2 o0 o1 x) (ac_R (some (.int (bI (pl = 4 ∧ fl_N pl pc = 4)))) (cw_C g (pl, pc) t0 t1 t2 o0 o1 x)) := by
  have hfl : fl_N pl pc ≤ pl := fa_first_le _ _
  refine AM.of (loc := [.ref 1]) RX5 rfl (by decide +kernel) (Nat.le_of_ble_eq_true rfl) rfl ?_
  refine aw_aload_0 dX5_isLaw_0 ?_
  refine gf_X5_15 dX5_isLaw_1 rfl rfl ?_
  refine akN_iconst_4 dX5_isLaw_4 ?_
  refine aw_icmp_neN 20 dX5_isLaw_5 (by decide) (by omega) (by omega) (fun h1 => ?_) (fun h1 => ?_)
  · refine ak_iconst_0 dX5_isLaw_20 ?_
    exact aw_zret dX5_isLaw_21 rfl (rfl) (⟨by rw [bI_f (fun q => h1 q.1)], rfl⟩)
  refine aw_aload_0 dX5_isLaw_8 ?_
  refine ce_X5_23 dX5_isLaw_9 rfl (k_X5_firstFault g pl pc t0 t1 t2 o0 o1 x hp hc) ?_
  refine akN_iconst_4 dX5_isLaw_12 ?_
  refine aw_icmp_neN 20 dX5_isLaw_13 (by decide) (by omega) (by omega) (fun h2 => ?_) (fun h2 => ?_)
  · refine ak_iconst_0 dX5_isLaw_20 ?_
    exact aw_zret dX5_isLaw_21 rfl (rfl) (⟨by rw [bI_f (fun q => h2 q.2)], rfl⟩)
  refine ak_iconst_1 dX5_isLaw_16 ?_
  refine aw_goto 21 dX5_isLaw_17 (by decide) ?_
  exact aw_zret dX5_isLaw_21 rfl (rfl) (⟨by rw [bI_t ⟨h1, h2⟩], rfl⟩)
theorem k_X5_put (g : Nat × Int32) (pl : Nat) (pc : Nat → Nat) (t0 t1 t2 : tw_T) (o0 o1 : of_T) (x : sc_T) (c : Nat) (hp : pl < 6) : AM 1 yX5_put cX5_put 2 none [.ref 1, .int (nI c)] (cw_C g (pl, pc) t0 t1 t2 o0 o1 x) (ac_R none (cw_C g (pl + 1, va_up pc pl c) t0 t1 t2 o0 o1 x)) := by
  refine AM.of (loc := [.ref 1, .int (nI c)]) RX5 rfl (by decide +kernel) (Nat.le_of_ble_eq_true rfl) rfl ?_
  refine aw_aload_0 dX5_put_0 ?_
  refine gf_X5_15 dX5_put_1 rfl rfl ?_
  refine akN_bipush_6 dX5_put_4 ?_
  refine aw_icmp_geN 29 dX5_put_6 (by decide) (by omega) (by omega) (fun hh => absurd hh (by omega)) (fun _ => ?_)
  refine aw_aload_0 dX5_put_9 ?_
  refine gf_X5_9 dX5_put_10 rfl rfl ?_
  refine aw_aload_0 dX5_put_13 ?_
  refine gf_X5_15 dX5_put_14 rfl rfl ?_
  refine aw_iload_1 dX5_put_17 ?_
  refine aw_iastN dX5_put_18 rfl hp ?_
  refine aw_w cs_2 ?_
  refine aw_aload_0 dX5_put_19 ?_
  refine aw_dup dX5_put_20 rfl ?_
  refine gf_X5_15 dX5_put_21 rfl rfl ?_
  refine akN_iconst_1 dX5_put_24 ?_
  refine aw_iaddN dX5_put_25 ?_
  refine pf_X5_15 dX5_put_26 rfl (Nat.le_of_ble_eq_true rfl) ?_
  refine aw_w cs_1_1 ?_
  exact aw_vret dX5_put_29 rfl (⟨rfl, rfl⟩)
theorem k_X3_readFrom (g : Nat × Int32) (pl : Nat) (pc : Nat → Nat) (ta tb : tw_T) (o0 o1 : of_T) (x : sc_T) (ra up f0 su nn : Nat) (wk : Int32) (ki we ow fr of : Nat → Nat) (h0 : 48 ≤ pc 0) (h1 : pc 1 ≤ 126) (h2 : 48 ≤ pc 2) (h3 : 48 ≤ pc 3) : AM 2 yX3_readFrom cX3_readFrom 2 none [.ref 4, .ref 1] (cw_C g (pl, pc) (ra, up, f0, su, nn, wk, ki, we, ow, fr, of) ta tb o0 o1 x) (ac_R none (cw_C g (pl, pc) (pc 0 - 48, (if pc 1 = 117 then 1 else 0), pc 2 - 48, pc 3 - 48, nn, wk, ki, we, ow, fr, of) ta tb o0 o1 x)) := by
  refine AM.of (loc := [.ref 4, .ref 1]) RX3 rfl (by decide +kernel) (Nat.le_of_ble_eq_true rfl) rfl ?_
  refine aw_aload_0 dX3_readFrom_0 ?_
  refine aw_aload_1 dX3_readFrom_1 ?_
  refine akN_iconst_0 dX3_readFrom_2 ?_
  refine ce_X3_19 dX3_readFrom_3 rfl (k_X5_digit g pl pc _ ta tb o0 o1 x 0 (by omega)) ?_
  refine aw_topi (pk_sub h0 : nI (pc 0) - nI 48 = nI (pc 0 - 48)) ?_
  refine pf_X3_9 dX3_readFrom_6 rfl (Nat.le_of_ble_eq_true rfl) ?_
  refine aw_w cs_4_0 ?_
  refine aw_aload_0 dX3_readFrom_9 ?_
  refine aw_aload_1 dX3_readFrom_10 ?_
  refine gf_X3_25 dX3_readFrom_11 rfl rfl ?_
  refine akN_iconst_1 dX3_readFrom_14 ?_
  refine aw_ialdN dX3_readFrom_15 rfl (by omega) ?_
  refine akN_bipush_117 dX3_readFrom_16 ?_
  have tail : ∀ u : Nat, u = (if pc 1 = 117 then 1 else 0) → AW 2 RX3 cX3_readFrom 2 none 41 (ac_R none (cw_C g (pl, pc) (pc 0 - 48, (if pc 1 = 117 then 1 else 0), pc 2 - 48, pc 3 - 48, nn, wk, ki, we, ow, fr, of) ta tb o0 o1 x)) 26 [.ref 4, .ref 1] [.int (nI u), .ref 4] (cw_C g (pl, pc) (pc 0 - 48, up, f0, su, nn, wk, ki, we, ow, fr, of) ta tb o0 o1 x) := by
    intro u hu
    have hu1 : u ≤ 1 := by rw [hu]; split <;> omega
    refine pf_X3_15 dX3_readFrom_26 rfl (Nat.le_of_ble_eq_true rfl) (nn_b1 hu1) ?_
    refine aw_w cs_4_1 ?_
    refine aw_aload_0 dX3_readFrom_29 ?_
    refine aw_aload_1 dX3_readFrom_30 ?_
    refine akN_iconst_2 dX3_readFrom_31 ?_
    refine ce_X3_19 dX3_readFrom_32 rfl (k_X5_digit g pl pc _ ta tb o0 o1 x 2 (by omega)) ?_
    refine aw_topi (pk_sub h2 : nI (pc 2) - nI 48 = nI (pc 2 - 48)) ?_
    refine pf_X3_29 dX3_readFrom_35 rfl (Nat.le_of_ble_eq_true rfl) ?_
    refine aw_w cs_4_2 ?_
    refine aw_aload_0 dX3_readFrom_38 ?_
    refine aw_aload_1 dX3_readFrom_39 ?_
    refine akN_iconst_3 dX3_readFrom_40 ?_
    refine ce_X3_19 dX3_readFrom_41 rfl (k_X5_digit g pl pc _ ta tb o0 o1 x 3 (by omega)) ?_
    refine aw_topi (pk_sub h3 : nI (pc 3) - nI 48 = nI (pc 3 - 48)) ?_
    refine pf_X3_32 dX3_readFrom_44 rfl (Nat.le_of_ble_eq_true rfl) ?_
    refine aw_w cs_4_3 ?_
    rw [hu]
    exact aw_vret dX3_readFrom_47 rfl (⟨rfl, rfl⟩)
  refine aw_icmp_neN 25 dX3_readFrom_18 (by decide) (by omega) (by omega) (fun h4 => ?_) (fun h4 => ?_)
  · refine akN_iconst_0 dX3_readFrom_25 ?_
    exact tail 0 (if_neg h4).symm
  refine akN_iconst_1 dX3_readFrom_21 ?_
  refine aw_goto 26 dX3_readFrom_22 (by decide) ?_
  exact tail 1 (if_pos h4).symm
theorem k_X3_owedAfter_0 (g : Nat × Int32) (P : pg_T) (ta tb : tw_T) (o0 o1 : of_T) (x : sc_T) (ra up f0 su nn : Nat) (wk : Int32) (ki we ow fr of : Nat → Nat) (o fw wks tn : Nat) (hu : up ≤ 1) (ho : o ≤ 9999) (ht : tn ≤ 18) (hf : fw ≤ 1000) (hw : wks ≤ 1000) : AM 2 yX3_owedAfter cX3_owedAfter 8 (some .int) [.ref 4, .int (nI o), .int (nI fw), .int (nI wks), .int (nI tn)] (cw_C g P (ra, up, f0, su, nn, wk, ki, we, ow, fr, of) ta tb o0 o1 x) (ac_R (some (.int (nI (ig_N up tn (wks - fw) o)))) (cw_C g P (ra, up, f0, su, nn, wk, ki, we, ow, fr, of) ta tb o0 o1 x)) := by
  refine AM.of (loc := [.ref 4, .int (nI o), .int (nI fw), .int (nI wks), .int (nI tn), .null, .null, .null]) RX3 rfl (by decide +kernel) (Nat.le_of_ble_eq_true rfl) rfl ?_
  refine aw_iload_1 dX3_owedAfter_0 ?_
  refine aw_istore_5 dX3_owedAfter_1 rfl (Nat.le_of_ble_eq_true rfl) ?_
  refine aw_iload_2 dX3_owedAfter_3 ?_
  refine aw_istore_6 dX3_owedAfter_4 rfl (Nat.le_of_ble_eq_true rfl) ?_
  have loop : ∀ m p o' jk, wks - p = m → p ≤ 1000 → o' ≤ 9999 → ig_N up tn m o' = ig_N up tn (wks - fw) o → jk = Value.null ∨ jk.category = 1 → AW 2 RX3 cX3_owedAfter 8 (some .int) 41 (ac_R (some (.int (nI (ig_N up tn (wks - fw) o)))) (cw_C g P (ra, up, f0, su, nn, wk, ki, we, ow, fr, of) ta tb o0 o1 x)) 6 [.ref 4, .int (nI o), .int (nI fw), .int (nI wks), .int (nI tn), .int (nI o'), .int (nI p), jk] [] (cw_C g P (ra, up, f0, su, nn, wk, ki, we, ow, fr, of) ta tb o0 o1 x) := by
    intro m
    induction m with
    | zero =>
      intro p o' jk hm hp ho' he hjk
      refine aw_iload_6 dX3_owedAfter_6 ?_
      refine aw_iload_3 dX3_owedAfter_8 ?_
      refine aw_icmp_geN 42 dX3_owedAfter_9 (by decide) (by omega) (by omega) (fun _ => ?_) (fun hh => absurd hh (by omega))
      refine aw_iload_5 dX3_owedAfter_42 ?_
      exact aw_iret dX3_owedAfter_44 rfl (⟨by rw [← he]; rfl, rfl⟩)
    | succ m ih =>
      intro p o' jk hm hp ho' he hjk
      have hg := gr_le up tn o'
      refine aw_iload_6 dX3_owedAfter_6 ?_
      refine aw_iload_3 dX3_owedAfter_8 ?_
      refine aw_icmp_geN 42 dX3_owedAfter_9 (by decide) (by omega) (by omega) (fun hh => absurd hh (by omega)) (fun _ => ?_)
      refine aw_aload_0 dX3_owedAfter_12 ?_
      refine aw_iload_5 dX3_owedAfter_13 ?_
      refine aw_iload_4 dX3_owedAfter_15 ?_
      refine ce_X3_49 dX3_owedAfter_17 rfl (k_X3_owedNextWeek_0 g P ta tb o0 o1 x ra up f0 su nn wk ki we ow fr of o' tn hu ho' ht) ?_
      refine aw_istore_7 dX3_owedAfter_20 rfl (Nat.le_of_ble_eq_true rfl) ?_
      refine aw_iload_7 dX3_owedAfter_22 ?_
      refine aw_iload_5 dX3_owedAfter_24 ?_
      refine aw_icmp_neN 32 dX3_owedAfter_26 (by decide) (by omega) (by omega) (fun h1 => ?_) (fun h1 => ?_)
      · refine aw_iload_7 dX3_owedAfter_32 ?_
        refine aw_istore_5 dX3_owedAfter_34 rfl (Nat.le_of_ble_eq_true rfl) ?_
        refine aw_iincN_6 dX3_owedAfter_36 rfl (Nat.le_of_ble_eq_true rfl) ?_
        refine aw_goto 6 dX3_owedAfter_39 (by decide) ?_
        exact ih (p + 1) (gr_N up tn o') _ (by omega) (by omega) hg he (Or.inr rfl)
      · refine aw_iload_5 dX3_owedAfter_29 ?_
        exact aw_iret dX3_owedAfter_31 rfl (⟨by rw [← he, ig_fix h1], rfl⟩)
  exact loop _ fw o .null rfl hf ho rfl (Or.inl rfl)
theorem k_X2_isA (w : List ac_T) (i j : Nat) (hi : i < 5) (hj : j < 5) : AM 1 yX2_isA cX2_isA 2 (some .boolean) [.ref (1000 + i), .ref (1000 + j)] w (ac_R (some (.int (bI (j = i ∨ j = 0 ∨ (i = 4 ∧ j = 3))))) w) := by
  refine AM.of (loc := [.ref (1000 + i), .ref (1000 + j)]) RX2 rfl (by decide +kernel) (Nat.le_of_ble_eq_true rfl) rfl ?_
  refine aw_aload_1 dX2_isA_0 ?_
  refine aw_aload_0 dX2_isA_1 ?_
  refine aw_acmp_eq 26 (hj) (hi) dX2_isA_2 (by decide) (fun h1 => ?_) (fun h1 => ?_)
  · refine ak_iconst_1 dX2_isA_26 ?_
    refine aw_goto 31 dX2_isA_27 (by decide) ?_
    exact aw_zret dX2_isA_31 rfl (rfl) (⟨by rw [bI_t (Or.inl h1)], rfl⟩)
  refine aw_aload_1 dX2_isA_5 ?_
  refine gs_X2_3 dX2_isA_6 ?_
  refine aw_acmp_eq 26 (hj) ((by decide)) dX2_isA_9 (by decide) (fun h2 => ?_) (fun h2 => ?_)
  · refine ak_iconst_1 dX2_isA_26 ?_
    refine aw_goto 31 dX2_isA_27 (by decide) ?_
    exact aw_zret dX2_isA_31 rfl (rfl) (⟨by rw [bI_t (Or.inr (Or.inl h2))], rfl⟩)
  refine aw_aload_0 dX2_isA_12 ?_
  refine gs_X2_16 dX2_isA_13 ?_
  refine aw_acmp_ne 30 (hi) ((by decide)) dX2_isA_16 (by decide) (fun h3 => ?_) (fun h3 => ?_)
  · refine ak_iconst_0 dX2_isA_30 ?_
    exact aw_zret dX2_isA_31 rfl (rfl) (⟨by rw [bI_f (fun q => by omega)], rfl⟩)
  refine aw_aload_1 dX2_isA_19 ?_
  refine gs_X2_13 dX2_isA_20 ?_
  refine aw_acmp_ne 30 (hj) ((by decide)) dX2_isA_23 (by decide) (fun h4 => ?_) (fun h4 => ?_)
  · refine ak_iconst_0 dX2_isA_30 ?_
    exact aw_zret dX2_isA_31 rfl (rfl) (⟨by rw [bI_f (fun q => by omega)], rfl⟩)
  refine ak_iconst_1 dX2_isA_26 ?_
  refine aw_goto 31 dX2_isA_27 (by decide) ?_
  exact aw_zret dX2_isA_31 rfl (rfl) (⟨by rw [bI_t (Or.inr (Or.inr ⟨h3, h4⟩))], rfl⟩)
