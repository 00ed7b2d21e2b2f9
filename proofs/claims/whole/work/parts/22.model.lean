/-! ===== the reference ===== -/
section ByteRow
variable {d : Nat} {own : String} {cc : ByteArray} {mL : Nat} {rt : Option FieldType} {n : Nat} {Po : Option Value → List ac_T → Prop} {pc : Nat} {loc st : List Value} {w : List ac_T}
theorem aw_bastN {g : Nat → Nat} {i N id x : Nat} (hd : decode cc pc = .ok (.bastore, 1)) (he : w[id]? = some (.inl (1, N, fun j => nI (g j)))) (hk : i < N ∧ x < 128) (k : AW d own cc mL rt n Po (pc + 1) loc st (w.set id (.inl (1, N, fun j => nI (va_up g i x j))))) (hN : Nat.blt N 2147483648 = true := by rfl) : AW d own cc mL rt n Po pc loc (.int (nI x) :: .int (nI i) :: .ref id :: st) w := by
  have hN' : N < 2147483648 := by simpa using hN
  refine aw_bast hd he (vp_in_nI hk.1 hN') ?_
  rw [nI_clamp (show i < 2 ^ 31 by omega), vp_nar_byte, fa_byte_small hk.2]
  have e : upd (fun j => nI (g j)) i (nI x) = fun j => nI (va_up g i x j) := funext (nn_up g i x)
  rw [e]
  exact k
end ByteRow
theorem k_X10_within (w : List ac_T) (a b c : Int32) : AM 1 yX10_within cX10_within 3 (some .boolean) [.int a, .int b, .int c] w (ac_R (some (.int (bI (b ≤ a ∧ a ≤ c)))) w) := by
  refine AM.of (loc := [.int a, .int b, .int c]) RX10 rfl (by decide +kernel) (Nat.le_of_ble_eq_true rfl) rfl ?_
  refine aw_iload_0 dX10_within_0 ?_
  refine aw_iload_1 dX10_within_1 ?_
  refine aw_icmp_lt 14 dX10_within_2 (by decide) (fun h1 => ?_) (fun h1 => ?_)
  · refine ak_iconst_0 dX10_within_14 ?_
    exact aw_zret dX10_within_15 rfl (rfl) (⟨by rw [bI_f (fun q => by have := q.1; rw [fa_le] at this; rw [fa_lt] at h1; omega)], rfl⟩)
  refine aw_iload_0 dX10_within_5 ?_
  refine aw_iload_2 dX10_within_6 ?_
  refine aw_icmp_gt 14 dX10_within_7 (by decide) (fun h2 => ?_) (fun h2 => ?_)
  · refine ak_iconst_0 dX10_within_14 ?_
    exact aw_zret dX10_within_15 rfl (rfl) (⟨by rw [bI_f (fun q => by have := q.2; rw [fa_le] at this; rw [fa_lt] at h2; omega)], rfl⟩)
  refine ak_iconst_1 dX10_within_10 ?_
  refine aw_goto 15 dX10_within_11 (by decide) ?_
  exact aw_zret dX10_within_15 rfl (rfl) (⟨by rw [bI_t ⟨by rw [fa_le]; rw [fa_lt] at h1; omega, by rw [fa_le]; rw [fa_lt] at h2; omega⟩], rfl⟩)
theorem k_X10_less (w : List ac_T) (a b : Nat) (ha : a < 2147483648) (hb : b < 2147483648) : AM 1 yX10_less cX10_less 2 (some .int) [.int (nI a), .int (nI b)] w (ac_R (some (.int (nI (min a b)))) w) := by
  refine AM.of (loc := [.int (nI a), .int (nI b)]) RX10 rfl (by decide +kernel) (Nat.le_of_ble_eq_true rfl) rfl ?_
  refine aw_iload_0 dX10_less_0 ?_
  refine aw_iload_1 dX10_less_1 ?_
  refine aw_icmp_geN 9 dX10_less_2 (by decide) (by omega) (by omega) (fun h1 => ?_) (fun h1 => ?_)
  · refine aw_iload_1 dX10_less_9 ?_
    exact aw_iret dX10_less_10 rfl (⟨by rw [Nat.min_eq_right h1], rfl⟩)
  refine aw_iload_0 dX10_less_5 ?_
  refine aw_goto 10 dX10_less_6 (by decide) ?_
  exact aw_iret dX10_less_10 rfl (⟨by rw [Nat.min_eq_left (by omega)], rfl⟩)
theorem k_X10_more (w : List ac_T) (a b : Nat) (ha : a < 2147483648) (hb : b < 2147483648) : AM 1 yX10_more cX10_more 2 (some .int) [.int (nI a), .int (nI b)] w (ac_R (some (.int (nI (max a b)))) w) := by
  refine AM.of (loc := [.int (nI a), .int (nI b)]) RX10 rfl (by decide +kernel) (Nat.le_of_ble_eq_true rfl) rfl ?_
  refine aw_iload_0 dX10_more_0 ?_
  refine aw_iload_1 dX10_more_1 ?_
  refine aw_icmp_leN 9 dX10_more_2 (by decide) (by omega) (by omega) (fun h1 => ?_) (fun h1 => ?_)
  · refine aw_iload_1 dX10_more_9 ?_
    exact aw_iret dX10_more_10 rfl (⟨by rw [Nat.max_eq_right h1], rfl⟩)
  refine aw_iload_0 dX10_more_5 ?_
  refine aw_goto 10 dX10_more_6 (by decide) ?_
  exact aw_iret dX10_more_10 rfl (⟨by rw [Nat.max_eq_left (by omega)], rfl⟩)
theorem k_X10_size (w : List ac_T) (c : Nat) (hc : c < 64) : AM 1 yX10_size cX10_size 3 (some .int) [.int (nI c)] w (ac_R (some (.int (nI (pn_N c)))) w) := by
  refine AM.of (loc := [.int (nI c), .null, .null]) RX10 rfl (by decide +kernel) (Nat.le_of_ble_eq_true rfl) rfl ?_
  refine akN_iconst_0 dX10_size_0 ?_
  refine aw_istore_1 dX10_size_1 rfl (Nat.le_of_ble_eq_true rfl) ?_
  refine akN_iconst_0 dX10_size_2 ?_
  refine aw_istore_2 dX10_size_3 rfl (Nat.le_of_ble_eq_true rfl) ?_
  have loop : ∀ k i, i + k = 6 → AW 1 RX10 cX10_size 3 (some .int) w.length (ac_R (some (.int (nI (pn_N c)))) w) 4 [.int (nI c), .int (nI (fb_sm (fun k => c / 2 ^ k % 2) i)), .int (nI i)] [] w := by
    intro k
    induction k with
    | zero =>
      intro i hi
      obtain rfl : i = 6 := by omega
      refine aw_iload_2 dX10_size_4 ?_
      refine akN_bipush_6 dX10_size_5 ?_
      refine aw_icmp_geN 24 dX10_size_7 (by decide) (by omega) (by omega) (fun _ => ?_) (fun hh => absurd hh (by omega))
      refine aw_iload_1 dX10_size_24 ?_
      exact aw_iret dX10_size_25 rfl (⟨rfl, rfl⟩)
    | succ k ih =>
      intro i hi
      have hd : c / 2 ^ i ≤ c := Nat.div_le_self _ _
      refine aw_iload_2 dX10_size_4 ?_
      refine akN_bipush_6 dX10_size_5 ?_
      refine aw_icmp_geN 24 dX10_size_7 (by decide) (by omega) (by omega) (fun hh => absurd hh (by omega)) (fun _ => ?_)
      refine aw_iload_1 dX10_size_10 ?_
      refine aw_iload_0 dX10_size_11 ?_
      refine aw_iload_2 dX10_size_12 ?_
      refine aw_ishr dX10_size_13 ?_
      refine aw_topi (sh_shr (by omega) (by omega)) ?_
      refine ak_iconst_1 dX10_size_14 ?_
      refine aw_iand dX10_size_15 ?_
      refine aw_topi (pk_andN (by omega) 1 rfl : nI (c / 2 ^ i) &&& 1 = nI (c / 2 ^ i % 2 ^ 1)) ?_
      refine aw_iaddN dX10_size_16 ?_
      refine aw_istore_1 dX10_size_17 rfl (Nat.le_of_ble_eq_true rfl) ?_
      refine aw_iincN_2 dX10_size_18 rfl (Nat.le_of_ble_eq_true rfl) ?_
      refine aw_goto 4 dX10_size_21 (by decide) ?_
      exact ih (i + 1) (by omega)
  exact loop 6 0 (by omega)
theorem k_X10_isGood (rd : Int32) (pl : Nat) (pc : Nat → Nat) (ra up f0 su nn : Nat) (wk : Int32) (ki we ow fr of : Nat → Nat) (oc : Nat) (oa ob os : Nat → Nat) (K : mk_T) (x : ms_T) (k : Nat) (hk : k < 6) (hc : ∀ k, pc k ≤ 126) : AM 2 yX10_isGood cX10_isGood 2 (some .boolean) [.ref 0, .int (nI k)] (mw_M (rd, (pl, pc), (ra, up, f0, su, nn, wk), ki, (we, ow, fr, of), (oc, oa, ob, os)) K x) (ac_R (some (.int (bI (ft_B pc k = true)))) (mw_M (rd, (pl, pc), (ra, up, f0, su, nn, wk), ki, (we, ow, fr, of), (oc, oa, ob, os)) K x)) := by
  have hck := hc k
  have hc1 := hc 1
  refine AM.of (loc := [.ref 0, .int (nI k)]) RX10 rfl (by decide +kernel) (Nat.le_of_ble_eq_true rfl) rfl ?_
  refine aw_iload_1 dX10_isGood_0 ?_
  refine akN_iconst_1 dX10_isGood_1 ?_
  refine aw_icmp_neN 35 dX10_isGood_2 (by decide) (by omega) (by omega) (fun h2 => ?_) (fun h2 => ?_)
  · refine aw_iload_1 dX10_isGood_35 ?_
    refine akN_iconst_4 dX10_isGood_36 ?_
    refine aw_icmp_geN 62 dX10_isGood_37 (by decide) (by omega) (by omega) (fun h1 => ?_) (fun h1 => ?_)
    · refine ak_iconst_0 dX10_isGood_62 ?_
      exact aw_zret dX10_isGood_63 rfl (rfl) (⟨by rw [bI_f (by unfold ft_B; rw [decide_eq_false (by omega)]; simp)], rfl⟩)
    refine aw_aload_0 dX10_isGood_40 ?_
    refine gf_X10_41 dX10_isGood_41 rfl rfl ?_
    refine aw_iload_1 dX10_isGood_44 ?_
    refine aw_baldN dX10_isGood_45 rfl hk ?_
    refine ak_bipush_48 dX10_isGood_46 ?_
    refine aw_isub dX10_isGood_48 ?_
    refine ak_iconst_0 dX10_isGood_49 ?_
    refine ak_bipush_9 dX10_isGood_50 ?_
    refine ce_X10_69 dX10_isGood_52 (k_X10_within _ (nI (pc k) - 48) 0 9) ?_
    by_cases q : (0 : Int32) ≤ nI (pc k) - 48 ∧ nI (pc k) - 48 ≤ 9
    · refine aw_if_eq 62 dX10_isGood_55 (by decide) (fun hh => absurd hh (bI_n q)) (fun _ => ?_)
      refine ak_iconst_1 dX10_isGood_58 ?_
      refine aw_goto 63 dX10_isGood_59 (by decide) ?_
      exact aw_zret dX10_isGood_63 rfl (rfl) (⟨by rw [bI_t (by unfold ft_B; rw [if_neg h2, decide_eq_true h1, decide_eq_true ((dg_in (hc k)).mp q)]; rfl)], rfl⟩)
    refine aw_if_eq 62 dX10_isGood_55 (by decide) (fun _ => ?_) (fun hh => absurd (bI_f q) hh)
    refine ak_iconst_0 dX10_isGood_62 ?_
    exact aw_zret dX10_isGood_63 rfl (rfl) (⟨by rw [bI_f (by unfold ft_B; rw [if_neg h2, decide_eq_false (fun z => q ((dg_in (hc k)).mpr z))]; simp)], rfl⟩)
  subst h2
  refine aw_aload_0 dX10_isGood_5 ?_
  refine gf_X10_41 dX10_isGood_6 rfl rfl ?_
  refine akN_iconst_1 dX10_isGood_9 ?_
  refine aw_baldN dX10_isGood_10 rfl (by omega) ?_
  refine akN_bipush_117 dX10_isGood_11 ?_
  refine aw_icmp_eqN 27 dX10_isGood_13 (by decide) (by omega) (by omega) (fun h3 => ?_) (fun h3 => ?_)
  · refine ak_iconst_1 dX10_isGood_27 ?_
    refine aw_goto 63 dX10_isGood_28 (by decide) ?_
    exact aw_zret dX10_isGood_63 rfl (rfl) (⟨by rw [bI_t (by unfold ft_B; rw [h3]; rfl)], rfl⟩)
  refine aw_aload_0 dX10_isGood_16 ?_
  refine gf_X10_41 dX10_isGood_17 rfl rfl ?_
  refine akN_iconst_1 dX10_isGood_20 ?_
  refine aw_baldN dX10_isGood_21 rfl (by omega) ?_
  refine akN_bipush_100 dX10_isGood_22 ?_
  refine aw_icmp_neN 31 dX10_isGood_24 (by decide) (by omega) (by omega) (fun h4 => ?_) (fun h4 => ?_)
  · refine ak_iconst_0 dX10_isGood_31 ?_
    refine aw_goto 63 dX10_isGood_32 (by decide) ?_
    exact aw_zret dX10_isGood_63 rfl (rfl) (⟨by rw [bI_f (by unfold ft_B; simp [h3, h4])], rfl⟩)
  refine ak_iconst_1 dX10_isGood_27 ?_
  refine aw_goto 63 dX10_isGood_28 (by decide) ?_
  exact aw_zret dX10_isGood_63 rfl (rfl) (⟨by rw [bI_t (by unfold ft_B; rw [h4]; rfl)], rfl⟩)
theorem k_X10_faultNow (rd : Int32) (pl : Nat) (pc : Nat → Nat) (ra up f0 su nn : Nat) (wk : Int32) (ki we ow fr of : Nat → Nat) (oc : Nat) (oa ob os : Nat → Nat) (K : mk_T) (x : ms_T) (hp : pl ≤ 6) (hc : ∀ k, pc k ≤ 126) : AM 3 yX10_faultNow cX10_faultNow 2 (some .int) [.ref 0] (mw_M (rd, (pl, pc), (ra, up, f0, su, nn, wk), ki, (we, ow, fr, of), (oc, oa, ob, os)) K x) (ac_R (some (.int (nI (fl_N pl pc)))) (mw_M (rd, (pl, pc), (ra, up, f0, su, nn, wk), ki, (we, ow, fr, of), (oc, oa, ob, os)) K x)) := by
  refine AM.of (loc := [.ref 0, .null]) RX10 rfl (by decide +kernel) (Nat.le_of_ble_eq_true rfl) rfl ?_
  refine akN_iconst_0 dX10_faultNow_0 ?_
  refine aw_istore_1 dX10_faultNow_1 rfl (Nat.le_of_ble_eq_true rfl) ?_
  have loop : ∀ k i, i + k = pl → (∀ j, j < i → (!ft_B pc j) = false) → AW 3 RX10 cX10_faultNow 2 (some .int) 18 (ac_R (some (.int (nI (fl_N pl pc)))) (mw_M (rd, (pl, pc), (ra, up, f0, su, nn, wk), ki, (we, ow, fr, of), (oc, oa, ob, os)) K x)) 2 [.ref 0, .int (nI i)] [] (mw_M (rd, (pl, pc), (ra, up, f0, su, nn, wk), ki, (we, ow, fr, of), (oc, oa, ob, os)) K x) := by
    intro k
    induction k with
    | zero =>
      intro i hi hj
      obtain rfl : i = pl := by omega
      refine aw_iload_1 dX10_faultNow_2 ?_
      refine aw_aload_0 dX10_faultNow_3 ?_
      refine gf_X10_73 dX10_faultNow_4 rfl rfl ?_
      refine aw_icmp_geN 24 dX10_faultNow_7 (by decide) (by omega) (by omega) (fun _ => ?_) (fun hh => absurd hh (by omega))
      refine aw_iload_1 dX10_faultNow_24 ?_
      exact aw_iret dX10_faultNow_25 rfl (⟨by rw [fl_N, first_no hj], rfl⟩)
    | succ k ih =>
      intro i hi hj
      refine aw_iload_1 dX10_faultNow_2 ?_
      refine aw_aload_0 dX10_faultNow_3 ?_
      refine gf_X10_73 dX10_faultNow_4 rfl rfl ?_
      refine aw_icmp_geN 24 dX10_faultNow_7 (by decide) (by omega) (by omega) (fun hh => absurd hh (by omega)) (fun _ => ?_)
      refine aw_aload_0 dX10_faultNow_10 ?_
      refine aw_iload_1 dX10_faultNow_11 ?_
      refine ce_X10_76 dX10_faultNow_12 rfl (k_X10_isGood rd pl pc ra up f0 su nn wk ki we ow fr of oc oa ob os K x i (by omega) hc) ?_
      by_cases h1 : ft_B pc i = true
      · refine aw_if_eq 24 dX10_faultNow_15 (by decide) (fun hh => absurd hh (bI_n h1)) (fun _ => ?_)
        refine aw_iincN_1 dX10_faultNow_18 rfl (Nat.le_of_ble_eq_true rfl) ?_
        refine aw_goto 2 dX10_faultNow_21 (by decide) ?_
        exact ih (i + 1) (by omega) (lt_s hj (by rw [h1]; rfl))
      · refine aw_if_eq 24 dX10_faultNow_15 (by decide) (fun _ => ?_) (fun hh => absurd (bI_f h1) hh)
        refine aw_iload_1 dX10_faultNow_24 ?_
        exact aw_iret dX10_faultNow_25 rfl (⟨by rw [fl_N, first_at (show i < pl by omega) hj (by simpa using h1)], rfl⟩)
  exact loop pl 0 (by omega) (fun j h => absurd h (Nat.not_lt_zero j))
theorem m_letter_out (rd : Int32) (pl : Nat) (pc : Nat → Nat) (ra up f0 su nn : Nat) (wk : Int32) (ki we ow fr of : Nat → Nat) (oc : Nat) (oa ob os : Nat → Nat) (K : mk_T) (x : ms_T) (c : Int32) (h : ¬ (32 ≤ c ∧ c ≤ 126)) : AM 8 yX10_letter cX10_letter 2 (some .int) [.ref 0, .int c] (mw_M (rd, (pl, pc), (ra, up, f0, su, nn, wk), ki, (we, ow, fr, of), (oc, oa, ob, os)) K x) (ac_R (some (.int (-102))) (mw_M (rd, (pl, pc), (ra, up, f0, su, nn, wk), ki, (we, ow, fr, of), (oc, oa, ob, os)) K x)) := by
  refine AM.of (loc := [.ref 0, .int c]) RX10 rfl (by decide +kernel) (Nat.le_of_ble_eq_true rfl) rfl ?_
  refine aw_iload_1 dX10_letter_0 ?_
  refine ak_bipush_32 dX10_letter_1 ?_
  refine ak_bipush_126 dX10_letter_3 ?_
  refine ce_X10_69 dX10_letter_5 (k_X10_within _ c 32 126) ?_
  refine aw_if_ne 14 dX10_letter_8 (by decide) (fun hh => absurd (bI_f h) hh) (fun _ => ?_)
  refine ak_bipush_m102 dX10_letter_11 ?_
  exact aw_iret dX10_letter_13 rfl (⟨rfl, rfl⟩)
theorem m_letter_full (rd : Int32) (pl : Nat) (pc : Nat → Nat) (ra up f0 su nn : Nat) (wk : Int32) (ki we ow fr of : Nat → Nat) (oc : Nat) (oa ob os : Nat → Nat) (K : mk_T) (x : ms_T) (c : Int32) (h : 32 ≤ c ∧ c ≤ 126) (hp : pl = 6) : AM 8 yX10_letter cX10_letter 2 (some .int) [.ref 0, .int c] (mw_M (rd, (pl, pc), (ra, up, f0, su, nn, wk), ki, (we, ow, fr, of), (oc, oa, ob, os)) K x) (ac_R (some (.int (-104))) (mw_M (rd, (pl, pc), (ra, up, f0, su, nn, wk), ki, (we, ow, fr, of), (oc, oa, ob, os)) K x)) := by
  refine AM.of (loc := [.ref 0, .int c]) RX10 rfl (by decide +kernel) (Nat.le_of_ble_eq_true rfl) rfl ?_
  refine aw_iload_1 dX10_letter_0 ?_
  refine ak_bipush_32 dX10_letter_1 ?_
  refine ak_bipush_126 dX10_letter_3 ?_
  refine ce_X10_69 dX10_letter_5 (k_X10_within _ c 32 126) ?_
  refine aw_if_ne 14 dX10_letter_8 (by decide) (fun _ => ?_) (fun hh => absurd hh (bI_n h))
  refine aw_aload_0 dX10_letter_14 ?_
  refine gf_X10_73 dX10_letter_15 rfl rfl ?_
  refine akN_bipush_6 dX10_letter_18 ?_
  refine aw_icmp_neN 26 dX10_letter_20 (by decide) (by omega) (by omega) (fun hh => absurd hh (by omega)) (fun _ => ?_)
  refine ak_bipush_m104 dX10_letter_23 ?_
  exact aw_iret dX10_letter_25 rfl (⟨rfl, rfl⟩)
theorem m_letter_ok (rd : Int32) (pl : Nat) (pc : Nat → Nat) (ra up f0 su nn : Nat) (wk : Int32) (ki we ow fr of : Nat → Nat) (oc : Nat) (oa ob os : Nat → Nat) (K : mk_T) (x : ms_T) (c : Nat) (h : (32 : Int32) ≤ nI c ∧ nI c ≤ 126) (hc : c < 128) (hp : pl < 6) : AM 8 yX10_letter cX10_letter 2 (some .int) [.ref 0, .int (nI c)] (mw_M (rd, (pl, pc), (ra, up, f0, su, nn, wk), ki, (we, ow, fr, of), (oc, oa, ob, os)) K x) (ac_R (some (.int (nI (pl + 1)))) (mw_M (rd, (pl + 1, va_up pc pl c), (ra, up, f0, su, nn, wk), ki, (we, ow, fr, of), (oc, oa, ob, os)) K x)) := by
  refine AM.of (loc := [.ref 0, .int (nI c)]) RX10 rfl (by decide +kernel) (Nat.le_of_ble_eq_true rfl) rfl ?_
  refine aw_iload_1 dX10_letter_0 ?_
  refine ak_bipush_32 dX10_letter_1 ?_
  refine ak_bipush_126 dX10_letter_3 ?_
  refine ce_X10_69 dX10_letter_5 (k_X10_within _ (nI c) 32 126) ?_
  refine aw_if_ne 14 dX10_letter_8 (by decide) (fun _ => ?_) (fun hh => absurd hh (bI_n h))
  refine aw_aload_0 dX10_letter_14 ?_
  refine gf_X10_73 dX10_letter_15 rfl rfl ?_
  refine akN_bipush_6 dX10_letter_18 ?_
  refine aw_icmp_neN 26 dX10_letter_20 (by decide) (by omega) (by omega) (fun _ => ?_) (fun hh => absurd hh (by omega))
  refine aw_aload_0 dX10_letter_26 ?_
  refine gf_X10_41 dX10_letter_27 rfl rfl ?_
  refine aw_aload_0 dX10_letter_30 ?_
  refine gf_X10_73 dX10_letter_31 rfl rfl ?_
  refine aw_iload_1 dX10_letter_34 ?_
  refine aw_i2b dX10_letter_35 ?_
  refine aw_topi (fa_byte_small hc) ?_
  refine aw_bastN dX10_letter_36 rfl (⟨hp, hc⟩) ?_
  refine aw_w cm_9 ?_
  refine aw_aload_0 dX10_letter_37 ?_
  refine aw_dup dX10_letter_38 rfl ?_
  refine gf_X10_73 dX10_letter_39 rfl rfl ?_
  refine akN_iconst_1 dX10_letter_42 ?_
  refine aw_iaddN dX10_letter_43 ?_
  refine pf_X10_73 dX10_letter_44 rfl (Nat.le_of_ble_eq_true rfl) ?_
  refine aw_w cm_0_16 ?_
  refine aw_aload_0 dX10_letter_47 ?_
  refine gf_X10_73 dX10_letter_48 rfl rfl ?_
  exact aw_iret dX10_letter_51 rfl (⟨rfl, rfl⟩)
theorem m_blank (rd : Int32) (pl : Nat) (pc : Nat → Nat) (ra up f0 su nn : Nat) (wk : Int32) (ki we ow fr of : Nat → Nat) (oc : Nat) (oa ob os : Nat → Nat) (K : mk_T) (x : ms_T) : AM 8 yX10_blank cX10_blank 2 (some .int) [.ref 0] (mw_M (rd, (pl, pc), (ra, up, f0, su, nn, wk), ki, (we, ow, fr, of), (oc, oa, ob, os)) K x) (ac_R (some (.int (nI pl))) (mw_M (rd, (0, pc), (ra, up, f0, su, nn, wk), ki, (we, ow, fr, of), (oc, oa, ob, os)) K x)) := by
  refine AM.of (loc := [.ref 0, .null]) RX10 rfl (by decide +kernel) (Nat.le_of_ble_eq_true rfl) rfl ?_
  refine aw_aload_0 dX10_blank_0 ?_
  refine gf_X10_73 dX10_blank_1 rfl rfl ?_
  refine aw_istore_1 dX10_blank_4 rfl (Nat.le_of_ble_eq_true rfl) ?_
  refine aw_aload_0 dX10_blank_5 ?_
  refine akN_iconst_0 dX10_blank_6 ?_
  refine pf_X10_73 dX10_blank_7 rfl (Nat.le_of_ble_eq_true rfl) ?_
  refine aw_w cm_0_16 ?_
  refine aw_iload_1 dX10_blank_10 ?_
  exact aw_iret dX10_blank_11 rfl (⟨rfl, rfl⟩)
theorem m_fault (rd : Int32) (pl : Nat) (pc : Nat → Nat) (ra up f0 su nn : Nat) (wk : Int32) (ki we ow fr of : Nat → Nat) (oc : Nat) (oa ob os : Nat → Nat) (K : mk_T) (x : ms_T) (hp : pl ≤ 6) (hc : ∀ k, pc k ≤ 126) : AM 8 yX10_fault cX10_fault 1 (some .int) [.ref 0] (mw_M (rd, (pl, pc), (ra, up, f0, su, nn, wk), ki, (we, ow, fr, of), (oc, oa, ob, os)) K x) (ac_R (some (.int (nI (fl_N pl pc)))) (mw_M (rd, (pl, pc), (ra, up, f0, su, nn, wk), ki, (we, ow, fr, of), (oc, oa, ob, os)) K x)) := by
  refine AM.of (loc := [.ref 0]) RX10 rfl (by decide +kernel) (Nat.le_of_ble_eq_true rfl) rfl ?_
  refine aw_aload_0 dX10_fault_0 ?_
  refine ce_X10_80 dX10_fault_1 rfl (k_X10_faultNow rd pl pc ra up f0 su nn wk ki we ow fr of oc oa ob os K x hp hc) ?_
  exact aw_iret dX10_fault_4 rfl (⟨rfl, rfl⟩)
theorem m_law_no (rd : Int32) (pl : Nat) (pc : Nat → Nat) (ra up f0 su nn : Nat) (wk : Int32) (ki we ow fr of : Nat → Nat) (oc : Nat) (oa ob os : Nat → Nat) (K : mk_T) (x : ms_T) (hp : pl ≤ 6) (hc : ∀ k, pc k ≤ 126) (h : ¬ (pl = 4 ∧ fl_N pl pc = 4)) : AM 8 yX10_law cX10_law 1 (some .int) [.ref 0] (mw_M (rd, (pl, pc), (ra, up, f0, su, nn, wk), ki, (we, ow, fr, of), (oc, oa, ob, os)) K x) (ac_R (some (.int (-103))) (mw_M (rd, (pl, pc), (ra, up, f0, su, nn, wk), ki, (we, ow, fr, of), (oc, oa, ob, os)) K x)) := by
  have hfl : fl_N pl pc ≤ pl := fa_first_le _ _
  refine AM.of (loc := [.ref 0]) RX10 rfl (by decide +kernel) (Nat.le_of_ble_eq_true rfl) rfl ?_
  refine aw_aload_0 dX10_law_0 ?_
  refine ce_X10_80 dX10_law_1 rfl (k_X10_faultNow rd pl pc ra up f0 su nn wk ki we ow fr of oc oa ob os K x hp hc) ?_
  refine aw_aload_0 dX10_law_4 ?_
  refine gf_X10_73 dX10_law_5 rfl rfl ?_
  refine aw_icmp_neN 19 dX10_law_8 (by decide) (by omega) (by omega) (fun q => ?_) (fun q => ?_)
  · refine ak_bipush_m103 dX10_law_19 ?_
    exact aw_iret dX10_law_21 rfl (⟨rfl, rfl⟩)
  refine aw_aload_0 dX10_law_11 ?_
  refine gf_X10_73 dX10_law_12 rfl rfl ?_
  refine akN_iconst_4 dX10_law_15 ?_
  refine aw_icmp_eqN 22 dX10_law_16 (by decide) (by omega) (by omega) (fun q2 => ?_) (fun q2 => ?_)
  · exact absurd ⟨q2, by omega⟩ h
  refine ak_bipush_m103 dX10_law_19 ?_
  exact aw_iret dX10_law_21 rfl (⟨rfl, rfl⟩)
theorem m_law_ok (rd : Int32) (pl : Nat) (pc : Nat → Nat) (ra up f0 su nn : Nat) (wk : Int32) (ki we ow fr of : Nat → Nat) (oc : Nat) (oa ob os : Nat → Nat) (K : mk_T) (x : ms_T) (hp : pl ≤ 6) (hc : ∀ k, pc k ≤ 126) (h : pl = 4 ∧ fl_N pl pc = 4) : AM 8 yX10_law cX10_law 1 (some .int) [.ref 0] (mw_M (rd, (pl, pc), (ra, up, f0, su, nn, wk), ki, (we, ow, fr, of), (oc, oa, ob, os)) K x) (ac_R (some (.int (rd + 1))) (mw_M (rd + 1, (0, pc), (pc 0 - 48, (if pc 1 = 117 then 1 else 0), pc 2 - 48, pc 3 - 48, nn, wk), ki, (we, ow, fr, of), (oc, oa, ob, os)) K x)) := by
  have hf : ∀ k, k < 4 → ft_B pc k = true := fun k hk => fl_all (pl := pl) (by omega) (by omega)
  have h0 := (fl_dig (hf 0 (by omega)) (by decide)).1
  have h2 := (fl_dig (hf 2 (by omega)) (by decide)).1
  have h3 := (fl_dig (hf 3 (by omega)) (by decide)).1
  have hc1 := hc 1
  refine AM.of (loc := [.ref 0]) RX10 rfl (by decide +kernel) (Nat.le_of_ble_eq_true rfl) rfl ?_
  refine aw_aload_0 dX10_law_0 ?_
  refine ce_X10_80 dX10_law_1 rfl (k_X10_faultNow rd pl pc ra up f0 su nn wk ki we ow fr of oc oa ob os K x hp hc) ?_
  refine aw_aload_0 dX10_law_4 ?_
  refine gf_X10_73 dX10_law_5 rfl rfl ?_
  refine aw_icmp_neN 19 dX10_law_8 (by decide) (by omega) (by omega) (fun hh => absurd hh (by omega)) (fun _ => ?_)
  refine aw_aload_0 dX10_law_11 ?_
  refine gf_X10_73 dX10_law_12 rfl rfl ?_
  refine akN_iconst_4 dX10_law_15 ?_
  refine aw_icmp_eqN 22 dX10_law_16 (by decide) (by omega) (by omega) (fun _ => ?_) (fun hh => absurd hh (by omega))
  refine aw_aload_0 dX10_law_22 ?_
  refine aw_aload_0 dX10_law_23 ?_
  refine gf_X10_41 dX10_law_24 rfl rfl ?_
  refine akN_iconst_0 dX10_law_27 ?_
  refine aw_baldN dX10_law_28 rfl (by omega) ?_
  refine akN_bipush_48 dX10_law_29 ?_
  refine aw_isubN dX10_law_31 h0 ?_
  refine pf_X10_7 dX10_law_32 rfl (Nat.le_of_ble_eq_true rfl) ?_
  refine aw_w cm_0_1 ?_
  refine aw_aload_0 dX10_law_35 ?_
  refine aw_aload_0 dX10_law_36 ?_
  refine gf_X10_41 dX10_law_37 rfl rfl ?_
  refine akN_iconst_1 dX10_law_40 ?_
  refine aw_baldN dX10_law_41 rfl (by omega) ?_
  refine akN_bipush_117 dX10_law_42 ?_
  have tail : ∀ u : Nat, u = (if pc 1 = 117 then 1 else 0) → AW 8 RX10 cX10_law 1 (some .int) 18 (ac_R (some (.int (rd + 1))) (mw_M (rd + 1, (0, pc), (pc 0 - 48, (if pc 1 = 117 then 1 else 0), pc 2 - 48, pc 3 - 48, nn, wk), ki, (we, ow, fr, of), (oc, oa, ob, os)) K x)) 52 [.ref 0] [.int (nI u), .ref 0] (mw_M (rd, (pl, pc), (pc 0 - 48, up, f0, su, nn, wk), ki, (we, ow, fr, of), (oc, oa, ob, os)) K x) := by
    intro u hu
    refine pf_X10_13 dX10_law_52 rfl (Nat.le_of_ble_eq_true rfl) ?_
    refine aw_w cm_0_2 ?_
    refine aw_aload_0 dX10_law_55 ?_
    refine aw_aload_0 dX10_law_56 ?_
    refine gf_X10_41 dX10_law_57 rfl rfl ?_
    refine akN_iconst_2 dX10_law_60 ?_
    refine aw_baldN dX10_law_61 rfl (by omega) ?_
    refine akN_bipush_48 dX10_law_62 ?_
    refine aw_isubN dX10_law_64 h2 ?_
    refine pf_X10_84 dX10_law_65 rfl (Nat.le_of_ble_eq_true rfl) ?_
    refine aw_w cm_0_3 ?_
    refine aw_aload_0 dX10_law_68 ?_
    refine aw_aload_0 dX10_law_69 ?_
    refine gf_X10_41 dX10_law_70 rfl rfl ?_
    refine akN_iconst_3 dX10_law_73 ?_
    refine aw_baldN dX10_law_74 rfl (by omega) ?_
    refine akN_bipush_48 dX10_law_75 ?_
    refine aw_isubN dX10_law_77 h3 ?_
    refine pf_X10_87 dX10_law_78 rfl (Nat.le_of_ble_eq_true rfl) ?_
    refine aw_w cm_0_4 ?_
    refine aw_aload_0 dX10_law_81 ?_
    refine aw_dup dX10_law_82 rfl ?_
    refine gf_X10_90 dX10_law_83 rfl rfl ?_
    refine ak_iconst_1 dX10_law_86 ?_
    refine aw_iadd dX10_law_87 ?_
    refine pf_X10_90 dX10_law_88 rfl (Nat.le_of_ble_eq_true rfl) ?_
    refine aw_w cm_0_0 ?_
    refine aw_aload_0 dX10_law_91 ?_
    refine akN_iconst_0 dX10_law_92 ?_
    refine pf_X10_73 dX10_law_93 rfl (Nat.le_of_ble_eq_true rfl) ?_
    refine aw_w cm_0_16 ?_
    refine aw_aload_0 dX10_law_96 ?_
    refine gf_X10_90 dX10_law_97 rfl rfl ?_
    rw [hu]
    exact aw_iret dX10_law_100 rfl (⟨rfl, rfl⟩)
  refine aw_icmp_neN 51 dX10_law_44 (by decide) (by omega) (by omega) (fun h4 => ?_) (fun h4 => ?_)
  · refine akN_iconst_0 dX10_law_51 ?_
    exact tail 0 (if_neg h4).symm
  refine akN_iconst_1 dX10_law_47 ?_
  refine aw_goto 52 dX10_law_48 (by decide) ?_
  exact tail 1 (if_pos h4).symm
theorem hs_iff {nn : Nat} (hn : nn ≤ 5) (a : Int32) : (0 ≤ a ∧ a ≤ nI nn - 1) ↔ hs_P nn a := by
  have e : (nI nn - 1 : Int32).toInt = (nn : Int) - 1 := ni_sub_toInt (by omega) (by decide : (1 : Nat) < 2147483648)
  have e2 : (nI nn).toInt = (nn : Int) := nI_toInt (show nn < 2 ^ 31 by omega)
  unfold hs_P
  rw [fa_le, fa_le, fa_lt, e, e2]
  omega
theorem k_X10_isPerson (rd : Int32) (pl : Nat) (pc : Nat → Nat) (ra up f0 su nn : Nat) (wk : Int32) (ki we ow fr of : Nat → Nat) (oc : Nat) (oa ob os : Nat → Nat) (K : mk_T) (x : ms_T) (a : Int32) (hn : nn ≤ 5) : AM 2 yX10_isPerson cX10_isPerson 2 (some .boolean) [.ref 0, .int a] (mw_M (rd, (pl, pc), (ra, up, f0, su, nn, wk), ki, (we, ow, fr, of), (oc, oa, ob, os)) K x) (ac_R (some (.int (bI (hs_P nn a)))) (mw_M (rd, (pl, pc), (ra, up, f0, su, nn, wk), ki, (we, ow, fr, of), (oc, oa, ob, os)) K x)) := by
  refine AM.of (loc := [.ref 0, .int a]) RX10 rfl (by decide +kernel) (Nat.le_of_ble_eq_true rfl) rfl ?_
  refine aw_iload_1 dX10_isPerson_0 ?_
  refine ak_iconst_0 dX10_isPerson_1 ?_
  refine aw_aload_0 dX10_isPerson_2 ?_
  refine gf_X10_93 dX10_isPerson_3 rfl rfl ?_
  refine ak_iconst_1 dX10_isPerson_6 ?_
  refine aw_isub dX10_isPerson_7 ?_
  refine ce_X10_69 dX10_isPerson_8 (k_X10_within _ a 0 (nI nn - 1)) ?_
  exact aw_zret dX10_isPerson_11 rfl (bI_1) (⟨by rw [bI_c (hs_iff hn a)], rfl⟩)
theorem k_X10_areTwo (rd : Int32) (pl : Nat) (pc : Nat → Nat) (ra up f0 su nn : Nat) (wk : Int32) (ki we ow fr of : Nat → Nat) (oc : Nat) (oa ob os : Nat → Nat) (K : mk_T) (x : ms_T) (a b : Int32) (hn : nn ≤ 5) : AM 3 yX10_areTwo cX10_areTwo 3 (some .boolean) [.ref 0, .int a, .int b] (mw_M (rd, (pl, pc), (ra, up, f0, su, nn, wk), ki, (we, ow, fr, of), (oc, oa, ob, os)) K x) (ac_R (some (.int (bI (hb_P nn a b)))) (mw_M (rd, (pl, pc), (ra, up, f0, su, nn, wk), ki, (we, ow, fr, of), (oc, oa, ob, os)) K x)) := by
  refine AM.of (loc := [.ref 0, .int a, .int b]) RX10 rfl (by decide +kernel) (Nat.le_of_ble_eq_true rfl) rfl ?_
  by_cases h1 : hs_P nn a
  · by_cases h2 : hs_P nn b
    · refine aw_aload_0 dX10_areTwo_0 ?_
      refine aw_iload_1 dX10_areTwo_1 ?_
      refine ce_X10_96 dX10_areTwo_2 rfl (k_X10_isPerson rd pl pc ra up f0 su nn wk ki we ow fr of oc oa ob os K x a hn) ?_
      refine aw_if_eq 25 dX10_areTwo_5 (by decide) (fun hh => absurd hh (bI_n h1)) (fun _ => ?_)
      refine aw_aload_0 dX10_areTwo_8 ?_
      refine aw_iload_2 dX10_areTwo_9 ?_
      refine ce_X10_96 dX10_areTwo_10 rfl (k_X10_isPerson rd pl pc ra up f0 su nn wk ki we ow fr of oc oa ob os K x b hn) ?_
      refine aw_if_eq 25 dX10_areTwo_13 (by decide) (fun hh => absurd hh (bI_n h2)) (fun _ => ?_)
      refine aw_iload_1 dX10_areTwo_16 ?_
      refine aw_iload_2 dX10_areTwo_17 ?_
      refine aw_icmp_eq 25 dX10_areTwo_18 (by decide) (fun h3 => ?_) (fun h3 => ?_)
      · refine ak_iconst_0 dX10_areTwo_25 ?_
        exact aw_zret dX10_areTwo_26 rfl (rfl) (⟨by rw [bI_f (fun q => q.2.2 h3)], rfl⟩)
      refine ak_iconst_1 dX10_areTwo_21 ?_
      refine aw_goto 26 dX10_areTwo_22 (by decide) ?_
      exact aw_zret dX10_areTwo_26 rfl (rfl) (⟨by rw [bI_t ⟨h1, h2, h3⟩], rfl⟩)
    refine aw_aload_0 dX10_areTwo_0 ?_
    refine aw_iload_1 dX10_areTwo_1 ?_
    refine ce_X10_96 dX10_areTwo_2 rfl (k_X10_isPerson rd pl pc ra up f0 su nn wk ki we ow fr of oc oa ob os K x a hn) ?_
    refine aw_if_eq 25 dX10_areTwo_5 (by decide) (fun hh => absurd hh (bI_n h1)) (fun _ => ?_)
    refine aw_aload_0 dX10_areTwo_8 ?_
    refine aw_iload_2 dX10_areTwo_9 ?_
    refine ce_X10_96 dX10_areTwo_10 rfl (k_X10_isPerson rd pl pc ra up f0 su nn wk ki we ow fr of oc oa ob os K x b hn) ?_
    refine aw_if_eq 25 dX10_areTwo_13 (by decide) (fun _ => ?_) (fun hh => absurd (bI_f h2) hh)
    refine ak_iconst_0 dX10_areTwo_25 ?_
    exact aw_zret dX10_areTwo_26 rfl (rfl) (⟨by rw [bI_f (fun q => h2 q.2.1)], rfl⟩)
  refine aw_aload_0 dX10_areTwo_0 ?_
  refine aw_iload_1 dX10_areTwo_1 ?_
  refine ce_X10_96 dX10_areTwo_2 rfl (k_X10_isPerson rd pl pc ra up f0 su nn wk ki we ow fr of oc oa ob os K x a hn) ?_
  refine aw_if_eq 25 dX10_areTwo_5 (by decide) (fun _ => ?_) (fun hh => absurd (bI_f h1) hh)
  refine ak_iconst_0 dX10_areTwo_25 ?_
  exact aw_zret dX10_areTwo_26 rfl (rfl) (⟨by rw [bI_f (fun q => h1 q.1)], rfl⟩)
theorem k_X10_clearPair (rd : Int32) (pl : Nat) (pc : Nat → Nat) (ra up f0 su nn : Nat) (wk : Int32) (ki we ow fr of : Nat → Nat) (oc : Nat) (oa ob os : Nat → Nat) (K : mk_T) (x : ms_T) (k : Nat) (hk : k < 25) : AM 1 yX10_clearPair cX10_clearPair 2 none [.ref 0, .int (nI k)] (mw_M (rd, (pl, pc), (ra, up, f0, su, nn, wk), ki, (we, ow, fr, of), (oc, oa, ob, os)) K x) (ac_R none (mw_M (rd, (pl, pc), (ra, up, f0, su, nn, wk), ki, (we, va_up ow k 0, va_up fr k 0, va_up of k 0), (oc, oa, ob, os)) K x)) := by
  refine AM.of (loc := [.ref 0, .int (nI k)]) RX10 rfl (by decide +kernel) (Nat.le_of_ble_eq_true rfl) rfl ?_
  refine aw_aload_0 dX10_clearPair_0 ?_
  refine gf_X10_23 dX10_clearPair_1 rfl rfl ?_
  refine aw_iload_1 dX10_clearPair_4 ?_
  refine akN_iconst_0 dX10_clearPair_5 ?_
  refine aw_iastN dX10_clearPair_6 rfl (by omega) ?_
  refine aw_w cm_3 ?_
  refine aw_aload_0 dX10_clearPair_7 ?_
  refine gf_X10_26 dX10_clearPair_8 rfl rfl ?_
  refine aw_iload_1 dX10_clearPair_11 ?_
  refine akN_iconst_0 dX10_clearPair_12 ?_
  refine aw_iastN dX10_clearPair_13 rfl (by omega) ?_
  refine aw_w cm_4 ?_
  refine aw_aload_0 dX10_clearPair_14 ?_
  refine gf_X10_29 dX10_clearPair_15 rfl rfl ?_
  refine aw_iload_1 dX10_clearPair_18 ?_
  refine akN_iconst_0 dX10_clearPair_19 ?_
  refine aw_iastN dX10_clearPair_20 rfl (by omega) ?_
  refine aw_w cm_5 ?_
  exact aw_vret dX10_clearPair_21 rfl (⟨rfl, rfl⟩)
theorem m_person_out (rd : Int32) (pl : Nat) (pc : Nat → Nat) (ra up f0 su nn : Nat) (wk : Int32) (ki we ow fr of : Nat → Nat) (oc : Nat) (oa ob os : Nat → Nat) (K : mk_T) (x : ms_T) (k z : Int32) (h : ¬ ((0 ≤ k ∧ k ≤ 4) ∧ 0 ≤ z ∧ z ≤ 99)) : AM 8 yX10_person cX10_person 4 (some .int) [.ref 0, .int k, .int z] (mw_M (rd, (pl, pc), (ra, up, f0, su, nn, wk), ki, (we, ow, fr, of), (oc, oa, ob, os)) K x) (ac_R (some (.int (-102))) (mw_M (rd, (pl, pc), (ra, up, f0, su, nn, wk), ki, (we, ow, fr, of), (oc, oa, ob, os)) K x)) := by
  refine AM.of (loc := [.ref 0, .int k, .int z, .null]) RX10 rfl (by decide +kernel) (Nat.le_of_ble_eq_true rfl) rfl ?_
  by_cases h1 : 0 ≤ k ∧ k ≤ 4
  · refine aw_iload_1 dX10_person_0 ?_
    refine ak_iconst_0 dX10_person_1 ?_
    refine ak_iconst_4 dX10_person_2 ?_
    refine ce_X10_69 dX10_person_3 (k_X10_within _ k 0 4) ?_
    refine aw_if_eq 19 dX10_person_6 (by decide) (fun hh => absurd hh (bI_n h1)) (fun _ => ?_)
    refine aw_iload_2 dX10_person_9 ?_
    refine ak_iconst_0 dX10_person_10 ?_
    refine ak_bipush_99 dX10_person_11 ?_
    refine ce_X10_69 dX10_person_13 (k_X10_within _ z 0 99) ?_
    refine aw_if_ne 22 dX10_person_16 (by decide) (fun hh => absurd (bI_f (fun q => h ⟨h1, q⟩)) hh) (fun _ => ?_)
    refine ak_bipush_m102 dX10_person_19 ?_
    exact aw_iret dX10_person_21 rfl (⟨rfl, rfl⟩)
  refine aw_iload_1 dX10_person_0 ?_
  refine ak_iconst_0 dX10_person_1 ?_
  refine ak_iconst_4 dX10_person_2 ?_
  refine ce_X10_69 dX10_person_3 (k_X10_within _ k 0 4) ?_
  refine aw_if_eq 19 dX10_person_6 (by decide) (fun _ => ?_) (fun hh => absurd (bI_f h1) hh)
  refine ak_bipush_m102 dX10_person_19 ?_
  exact aw_iret dX10_person_21 rfl (⟨rfl, rfl⟩)
theorem m_person_full (rd : Int32) (pl : Nat) (pc : Nat → Nat) (ra up f0 su nn : Nat) (wk : Int32) (ki we ow fr of : Nat → Nat) (oc : Nat) (oa ob os : Nat → Nat) (K : mk_T) (x : ms_T) (k z : Int32) (h : (0 ≤ k ∧ k ≤ 4) ∧ 0 ≤ z ∧ z ≤ 99) (hn : nn = 5) : AM 8 yX10_person cX10_person 4 (some .int) [.ref 0, .int k, .int z] (mw_M (rd, (pl, pc), (ra, up, f0, su, nn, wk), ki, (we, ow, fr, of), (oc, oa, ob, os)) K x) (ac_R (some (.int (-104))) (mw_M (rd, (pl, pc), (ra, up, f0, su, nn, wk), ki, (we, ow, fr, of), (oc, oa, ob, os)) K x)) := by
  refine AM.of (loc := [.ref 0, .int k, .int z, .null]) RX10 rfl (by decide +kernel) (Nat.le_of_ble_eq_true rfl) rfl ?_
  refine aw_iload_1 dX10_person_0 ?_
  refine ak_iconst_0 dX10_person_1 ?_
  refine ak_iconst_4 dX10_person_2 ?_
  refine ce_X10_69 dX10_person_3 (k_X10_within _ k 0 4) ?_
  refine aw_if_eq 19 dX10_person_6 (by decide) (fun hh => absurd hh (bI_n h.1)) (fun _ => ?_)
  refine aw_iload_2 dX10_person_9 ?_
  refine ak_iconst_0 dX10_person_10 ?_
  refine ak_bipush_99 dX10_person_11 ?_
  refine ce_X10_69 dX10_person_13 (k_X10_within _ z 0 99) ?_
  refine aw_if_ne 22 dX10_person_16 (by decide) (fun _ => ?_) (fun hh => absurd hh (bI_n h.2))
  refine aw_aload_0 dX10_person_22 ?_
  refine gf_X10_93 dX10_person_23 rfl rfl ?_
  refine akN_iconst_5 dX10_person_26 ?_
  refine aw_icmp_neN 33 dX10_person_27 (by decide) (by omega) (by omega) (fun hh => absurd hh (by omega)) (fun _ => ?_)
  refine ak_bipush_m104 dX10_person_30 ?_
  exact aw_iret dX10_person_32 rfl (⟨rfl, rfl⟩)
/-- the pairs of one, cleared -/
def cp_N (nn j : Nat) (f : Nat → Nat) : Nat → Nat
  | k => match j with
    | 0 => f k
    | j + 1 => va_up (va_up (cp_N nn j f) (5 * nn + j) 0) (5 * j + nn) 0 k
theorem m_person_ok (rd : Int32) (pl : Nat) (pc : Nat → Nat) (ra up f0 su nn : Nat) (wk : Int32) (ki we ow fr of : Nat → Nat) (oc : Nat) (oa ob os : Nat → Nat) (K : mk_T) (x : ms_T) (k z : Nat) (h : ((0 : Int32) ≤ nI k ∧ nI k ≤ 4) ∧ (0 : Int32) ≤ nI z ∧ nI z ≤ 99) (hn : nn < 5) : AM 8 yX10_person cX10_person 4 (some .int) [.ref 0, .int (nI k), .int (nI z)] (mw_M (rd, (pl, pc), (ra, up, f0, su, nn, wk), ki, (we, ow, fr, of), (oc, oa, ob, os)) K x) (ac_R (some (.int (nI nn))) (mw_M (rd, (pl, pc), (ra, up, f0, su, nn + 1, wk), va_up ki nn k, (va_up we nn z, cp_N nn 5 ow, cp_N nn 5 fr, cp_N nn 5 of), (oc, oa, ob, os)) K x)) := by
  refine AM.of (loc := [.ref 0, .int (nI k), .int (nI z), .null]) RX10 rfl (by decide +kernel) (Nat.le_of_ble_eq_true rfl) rfl ?_
  refine aw_iload_1 dX10_person_0 ?_
  refine ak_iconst_0 dX10_person_1 ?_
  refine ak_iconst_4 dX10_person_2 ?_
  refine ce_X10_69 dX10_person_3 (k_X10_within _ (nI k) 0 4) ?_
  refine aw_if_eq 19 dX10_person_6 (by decide) (fun hh => absurd hh (bI_n h.1)) (fun _ => ?_)
  refine aw_iload_2 dX10_person_9 ?_
  refine ak_iconst_0 dX10_person_10 ?_
  refine ak_bipush_99 dX10_person_11 ?_
  refine ce_X10_69 dX10_person_13 (k_X10_within _ (nI z) 0 99) ?_
  refine aw_if_ne 22 dX10_person_16 (by decide) (fun _ => ?_) (fun hh => absurd hh (bI_n h.2))
  refine aw_aload_0 dX10_person_22 ?_
  refine gf_X10_93 dX10_person_23 rfl rfl ?_
  refine akN_iconst_5 dX10_person_26 ?_
  refine aw_icmp_neN 33 dX10_person_27 (by decide) (by omega) (by omega) (fun _ => ?_) (fun hh => absurd hh (by omega))
  refine aw_aload_0 dX10_person_33 ?_
  refine gf_X10_16 dX10_person_34 rfl rfl ?_
  refine aw_aload_0 dX10_person_37 ?_
  refine gf_X10_93 dX10_person_38 rfl rfl ?_
  refine aw_iload_1 dX10_person_41 ?_
  refine aw_iastN dX10_person_42 rfl hn ?_
  refine aw_w cm_1 ?_
  refine aw_aload_0 dX10_person_43 ?_
  refine gf_X10_20 dX10_person_44 rfl rfl ?_
  refine aw_aload_0 dX10_person_47 ?_
  refine gf_X10_93 dX10_person_48 rfl rfl ?_
  refine aw_iload_2 dX10_person_51 ?_
  refine aw_iastN dX10_person_52 rfl (by omega) ?_
  refine aw_w cm_2 ?_
  refine akN_iconst_0 dX10_person_53 ?_
  refine aw_istore_3 dX10_person_54 rfl (Nat.le_of_ble_eq_true rfl) ?_
  have loop : ∀ m j, j + m = 5 → AW 8 RX10 cX10_person 4 (some .int) 18 (ac_R (some (.int (nI nn))) (mw_M (rd, (pl, pc), (ra, up, f0, su, nn + 1, wk), va_up ki nn k, (va_up we nn z, cp_N nn 5 ow, cp_N nn 5 fr, cp_N nn 5 of), (oc, oa, ob, os)) K x)) 55 [.ref 0, .int (nI k), .int (nI z), .int (nI j)] [] (mw_M (rd, (pl, pc), (ra, up, f0, su, nn, wk), va_up ki nn k, (va_up we nn z, cp_N nn j ow, cp_N nn j fr, cp_N nn j of), (oc, oa, ob, os)) K x) := by
    intro m
    induction m with
    | zero =>
      intro j hj
      obtain rfl : j = 5 := by omega
      refine aw_iload_3 dX10_person_55 ?_
      refine akN_iconst_5 dX10_person_56 ?_
      refine aw_icmp_geN 90 dX10_person_57 (by decide) (by omega) (by omega) (fun _ => ?_) (fun hh => absurd hh (by omega))
      refine aw_aload_0 dX10_person_90 ?_
      refine aw_dup dX10_person_91 rfl ?_
      refine gf_X10_93 dX10_person_92 rfl rfl ?_
      refine akN_iconst_1 dX10_person_95 ?_
      refine aw_iaddN dX10_person_96 ?_
      refine pf_X10_93 dX10_person_97 rfl (Nat.le_of_ble_eq_true rfl) ?_
      refine aw_w cm_0_5 ?_
      refine aw_aload_0 dX10_person_100 ?_
      refine gf_X10_93 dX10_person_101 rfl rfl ?_
      refine akN_iconst_1 dX10_person_104 ?_
      refine aw_isubN dX10_person_105 (by omega) ?_
      exact aw_iret dX10_person_106 rfl (⟨rfl, rfl⟩)
    | succ m ih =>
      intro j hj
      refine aw_iload_3 dX10_person_55 ?_
      refine akN_iconst_5 dX10_person_56 ?_
      refine aw_icmp_geN 90 dX10_person_57 (by decide) (by omega) (by omega) (fun hh => absurd hh (by omega)) (fun _ => ?_)
      refine aw_aload_0 dX10_person_60 ?_
      refine akN_iconst_5 dX10_person_61 ?_
      refine aw_aload_0 dX10_person_62 ?_
      refine gf_X10_93 dX10_person_63 rfl rfl ?_
      refine aw_imulN dX10_person_66 ?_
      refine aw_iload_3 dX10_person_67 ?_
      refine aw_iaddN dX10_person_68 ?_
      refine ce_X10_99 dX10_person_69 rfl (k_X10_clearPair rd pl pc ra up f0 su nn wk _ _ _ _ _ oc oa ob os K x (5 * nn + j) (by omega)) ?_
      refine aw_aload_0 dX10_person_72 ?_
      refine akN_iconst_5 dX10_person_73 ?_
      refine aw_iload_3 dX10_person_74 ?_
      refine aw_imulN dX10_person_75 ?_
      refine aw_aload_0 dX10_person_76 ?_
      refine gf_X10_93 dX10_person_77 rfl rfl ?_
      refine aw_iaddN dX10_person_80 ?_
      refine ce_X10_99 dX10_person_81 rfl (k_X10_clearPair rd pl pc ra up f0 su nn wk _ _ _ _ _ oc oa ob os K x (5 * j + nn) (by omega)) ?_
      refine aw_iincN_3 dX10_person_84 rfl (Nat.le_of_ble_eq_true rfl) ?_
      refine aw_goto 55 dX10_person_87 (by decide) ?_
      exact ih (j + 1) (by omega)
  exact loop 5 0 (by omega)
