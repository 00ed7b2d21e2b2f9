/-! ===== small functions of the class ===== -/
theorem k_X9_within (w : List ac_T) (a b c : Int32) : AM 1 yX9_within cX9_within 3 (some .boolean) [.int a, .int b, .int c] w (ac_R (some (.int (bI (b ≤ a ∧ a ≤ c)))) w) := by
  refine AM.of (loc := [.int a, .int b, .int c]) RX9 rfl (by decide +kernel) (Nat.le_of_ble_eq_true rfl) rfl ?_
  refine aw_iload_0 dX9_within_0 ?_
  refine aw_iload_1 dX9_within_1 ?_
  refine aw_icmp_lt 14 dX9_within_2 (by decide) (fun h1 => ?_) (fun h1 => ?_)
  · refine ak_iconst_0 dX9_within_14 ?_
    exact aw_zret dX9_within_15 rfl (rfl) (⟨by rw [bI_f (fun q => by have := q.1; rw [fa_le] at this; rw [fa_lt] at h1; omega)], rfl⟩)
  refine aw_iload_0 dX9_within_5 ?_
  refine aw_iload_2 dX9_within_6 ?_
  refine aw_icmp_gt 14 dX9_within_7 (by decide) (fun h2 => ?_) (fun h2 => ?_)
  · refine ak_iconst_0 dX9_within_14 ?_
    exact aw_zret dX9_within_15 rfl (rfl) (⟨by rw [bI_f (fun q => by have := q.2; rw [fa_le] at this; rw [fa_lt] at h2; omega)], rfl⟩)
  refine ak_iconst_1 dX9_within_10 ?_
  refine aw_goto 15 dX9_within_11 (by decide) ?_
  exact aw_zret dX9_within_15 rfl (rfl) (⟨by rw [bI_t ⟨by rw [fa_le]; rw [fa_lt] at h1; omega, by rw [fa_le]; rw [fa_lt] at h2; omega⟩], rfl⟩)
theorem k_X9_pairOf (w : List ac_T) (a b : Nat) : AM 1 yX9_pairOf cX9_pairOf 2 (some .int) [.int (nI a), .int (nI b)] w (ac_R (some (.int (nI (5 * a + b)))) w) := by
  refine AM.of (loc := [.int (nI a), .int (nI b)]) RX9 rfl (by decide +kernel) (Nat.le_of_ble_eq_true rfl) rfl ?_
  refine aw_iload_0 dX9_pairOf_0 ?_
  refine ak_iconst_5 dX9_pairOf_1 ?_
  refine aw_imul dX9_pairOf_2 ?_
  refine aw_iload_1 dX9_pairOf_3 ?_
  refine aw_iadd dX9_pairOf_4 ?_
  exact aw_iret dX9_pairOf_5 rfl (⟨by rw [nn_pair], rfl⟩)
theorem k_X9_oneIf (w : List ac_T) (c : Prop) [Decidable c] : AM 1 yX9_oneIf cX9_oneIf 1 (some .int) [.int (bI c)] w (ac_R (some (.int (bI c))) w) := by
  refine AM.of (loc := [.int (bI c)]) RX9 rfl (by decide +kernel) (Nat.le_of_ble_eq_true rfl) rfl ?_
  refine aw_iload_0 dX9_oneIf_0 ?_
  refine aw_if_eq 8 dX9_oneIf_1 (by decide) (fun h1 => ?_) (fun h1 => ?_)
  · refine ak_iconst_0 dX9_oneIf_8 ?_
    exact aw_iret dX9_oneIf_9 rfl (⟨by rw [h1], rfl⟩)
  refine ak_iconst_1 dX9_oneIf_4 ?_
  refine aw_goto 9 dX9_oneIf_5 (by decide) ?_
  exact aw_iret dX9_oneIf_9 rfl (⟨by rw [bI_t (Classical.byContradiction fun q => h1 (bI_f q))], rfl⟩)
theorem k_X9_isKind (w : List ac_T) (a : Int32) : AM 2 yX9_isKind cX9_isKind 1 (some .boolean) [.int a] w (ac_R (some (.int (bI (0 ≤ a ∧ a ≤ 4)))) w) := by
  refine AM.of (loc := [.int a]) RX9 rfl (by decide +kernel) (Nat.le_of_ble_eq_true rfl) rfl ?_
  refine aw_iload_0 dX9_isKind_0 ?_
  refine ak_iconst_0 dX9_isKind_1 ?_
  refine gs_X9_145 dX9_isKind_2 ?_
  refine aw_klen dX9_isKind_5 ?_
  refine ak_iconst_1 dX9_isKind_6 ?_
  refine aw_isub dX9_isKind_7 ?_
  refine aw_topi (show (5 : Int32) - 1 = 4 from rfl) ?_
  refine ce_X9_71 dX9_isKind_8 (k_X9_within w a 0 4) ?_
  exact aw_zret dX9_isKind_11 rfl (bI_1) (⟨rfl, rfl⟩)
theorem k_X9_isSize (w : List ac_T) (a : Int32) : AM 2 yX9_isSize cX9_isSize 1 (some .boolean) [.int a] w (ac_R (some (.int (bI (1 ≤ a ∧ a ≤ 99)))) w) := by
  refine AM.of (loc := [.int a]) RX9 rfl (by decide +kernel) (Nat.le_of_ble_eq_true rfl) rfl ?_
  refine aw_iload_0 dX9_isSize_0 ?_
  refine ak_iconst_1 dX9_isSize_1 ?_
  refine ak_bipush_99 dX9_isSize_2 ?_
  refine ce_X9_71 dX9_isSize_4 (k_X9_within w a 1 99) ?_
  exact aw_zret dX9_isSize_7 rfl (bI_1) (⟨rfl, rfl⟩)
theorem k_X8_has_0 (g : Nat × Int32) (P : pg_T) (ta tb : tw_T) (o0 o1 : of_T) (x : sc_T) (ra up f0 su nn : Nat) (wk : Int32) (ki we ow fr of : Nat → Nat) (a : Int32) : AM 1 yX8_has cX8_has 2 (some .boolean) [.ref 3, .int a] (cw_C g P (ra, up, f0, su, nn, wk, ki, we, ow, fr, of) ta tb o0 o1 x) (ac_R (some (.int (bI (hs_P nn a)))) (cw_C g P (ra, up, f0, su, nn, wk, ki, we, ow, fr, of) ta tb o0 o1 x)) := by
  refine AM.of (loc := [.ref 3, .int a]) RX8 rfl (by decide +kernel) (Nat.le_of_ble_eq_true rfl) rfl ?_
  refine aw_iload_1 dX8_has_0 ?_
  refine aw_if_lt 16 dX8_has_1 (by decide) (fun h1 => ?_) (fun h1 => ?_)
  · refine ak_iconst_0 dX8_has_16 ?_
    exact aw_zret dX8_has_17 rfl (rfl) (⟨by rw [bI_f (fun q => by have := q.1; rw [fa_le] at this; rw [fa_lt] at h1; omega)], rfl⟩)
  refine aw_iload_1 dX8_has_4 ?_
  refine aw_aload_0 dX8_has_5 ?_
  refine gf_X8_44 dX8_has_6 rfl rfl ?_
  refine aw_icmp_ge 16 dX8_has_9 (by decide) (fun h2 => ?_) (fun h2 => ?_)
  · refine ak_iconst_0 dX8_has_16 ?_
    exact aw_zret dX8_has_17 rfl (rfl) (⟨by rw [bI_f (fun q => by have := q.2; rw [fa_lt] at this; rw [fa_le] at h2; omega)], rfl⟩)
  refine ak_iconst_1 dX8_has_12 ?_
  refine aw_goto 17 dX8_has_13 (by decide) ?_
  exact aw_zret dX8_has_17 rfl (rfl) (⟨by rw [bI_t ⟨by rw [fa_le]; rw [fa_lt] at h1; omega, by rw [fa_lt]; rw [fa_le] at h2; omega⟩], rfl⟩)
set_option maxHeartbeats 2000000 in
theorem k_X8_owedBy_0 (g : Nat × Int32) (P : pg_T) (ta tb : tw_T) (o0 o1 : of_T) (x : sc_T) (ra up f0 su nn : Nat) (wk : Int32) (ki we ow fr of : Nat → Nat) (p : Nat) (hn : nn ≤ 5) (hp : p < 5) : AM 2 yX8_owedBy cX8_owedBy 4 (some .int) [.ref 3, .int (nI p)] (cw_C g P (ra, up, f0, su, nn, wk, ki, we, ow, fr, of) ta tb o0 o1 x) (ac_R (some (.int (nI (fb_sm (fun q => ow (5 * p + q)) nn)))) (cw_C g P (ra, up, f0, su, nn, wk, ki, we, ow, fr, of) ta tb o0 o1 x)) := by
  refine AM.of (loc := [.ref 3, .int (nI p), .null, .null]) RX8 rfl (by decide +kernel) (Nat.le_of_ble_eq_true rfl) rfl ?_
  refine akN_iconst_0 dX8_owedBy_0 ?_
  refine aw_istore_2 dX8_owedBy_1 rfl (Nat.le_of_ble_eq_true rfl) ?_
  refine akN_iconst_0 dX8_owedBy_2 ?_
  refine aw_istore_3 dX8_owedBy_3 rfl (Nat.le_of_ble_eq_true rfl) ?_
  have loop : ∀ k i, i + k = nn → AW 2 RX8 cX8_owedBy 4 (some .int) 41 (ac_R (some (.int (nI (fb_sm (fun q => ow (5 * p + q)) nn)))) (cw_C g P (ra, up, f0, su, nn, wk, ki, we, ow, fr, of) ta tb o0 o1 x)) 4 [.ref 3, .int (nI p), .int (nI (fb_sm (fun q => ow (5 * p + q)) i)), .int (nI i)] [] (cw_C g P (ra, up, f0, su, nn, wk, ki, we, ow, fr, of) ta tb o0 o1 x) := by
    intro k
    induction k with
    | zero =>
      intro i hi
      refine aw_iload_3 dX8_owedBy_4 ?_
      refine aw_aload_0 dX8_owedBy_5 ?_
      refine gf_X8_44 dX8_owedBy_6 rfl rfl ?_
      refine aw_icmp_geN 31 dX8_owedBy_9 (by decide) (by omega) (by omega) (fun _ => ?_) (fun hh => absurd hh (by omega))
      refine aw_iload_2 dX8_owedBy_31 ?_
      obtain rfl : i = nn := by omega
      exact aw_iret dX8_owedBy_32 rfl (⟨rfl, rfl⟩)
    | succ k ih =>
      intro i hi
      refine aw_iload_3 dX8_owedBy_4 ?_
      refine aw_aload_0 dX8_owedBy_5 ?_
      refine gf_X8_44 dX8_owedBy_6 rfl rfl ?_
      refine aw_icmp_geN 31 dX8_owedBy_9 (by decide) (by omega) (by omega) (fun hh => absurd hh (by omega)) (fun _ => ?_)
      refine aw_iload_2 dX8_owedBy_12 ?_
      refine aw_aload_0 dX8_owedBy_13 ?_
      refine gf_X8_25 dX8_owedBy_14 rfl rfl ?_
      refine aw_iload_1 dX8_owedBy_17 ?_
      refine aw_iload_3 dX8_owedBy_18 ?_
      refine ce_X8_59 dX8_owedBy_19 (k_X9_pairOf _ p i) ?_
      refine aw_ialdN dX8_owedBy_22 rfl (by omega) ?_
      refine aw_iaddN dX8_owedBy_23 ?_
      refine aw_istore_2 dX8_owedBy_24 rfl (Nat.le_of_ble_eq_true rfl) ?_
      refine aw_iincN_3 dX8_owedBy_25 rfl (Nat.le_of_ble_eq_true rfl) ?_
      refine aw_goto 4 dX8_owedBy_28 (by decide) ?_
      exact ih (i + 1) (by omega)
  exact loop nn 0 (by omega)
theorem k_X8_has_2 (g : Nat × Int32) (P : pg_T) (ta tb : tw_T) (o0 o1 : of_T) (x : sc_T) (ra up f0 su nn : Nat) (wk : Int32) (ki we ow fr of : Nat → Nat) (a : Int32) : AM 1 yX8_has cX8_has 2 (some .boolean) [.ref 25, .int a] (cw_C g P ta tb (ra, up, f0, su, nn, wk, ki, we, ow, fr, of) o0 o1 x) (ac_R (some (.int (bI (hs_P nn a)))) (cw_C g P ta tb (ra, up, f0, su, nn, wk, ki, we, ow, fr, of) o0 o1 x)) := by
  refine AM.of (loc := [.ref 25, .int a]) RX8 rfl (by decide +kernel) (Nat.le_of_ble_eq_true rfl) rfl ?_
  refine aw_iload_1 dX8_has_0 ?_
  refine aw_if_lt 16 dX8_has_1 (by decide) (fun h1 => ?_) (fun h1 => ?_)
  · refine ak_iconst_0 dX8_has_16 ?_
    exact aw_zret dX8_has_17 rfl (rfl) (⟨by rw [bI_f (fun q => by have := q.1; rw [fa_le] at this; rw [fa_lt] at h1; omega)], rfl⟩)
  refine aw_iload_1 dX8_has_4 ?_
  refine aw_aload_0 dX8_has_5 ?_
  refine gf_X8_44 dX8_has_6 rfl rfl ?_
  refine aw_icmp_ge 16 dX8_has_9 (by decide) (fun h2 => ?_) (fun h2 => ?_)
  · refine ak_iconst_0 dX8_has_16 ?_
    exact aw_zret dX8_has_17 rfl (rfl) (⟨by rw [bI_f (fun q => by have := q.2; rw [fa_lt] at this; rw [fa_le] at h2; omega)], rfl⟩)
  refine ak_iconst_1 dX8_has_12 ?_
  refine aw_goto 17 dX8_has_13 (by decide) ?_
  exact aw_zret dX8_has_17 rfl (rfl) (⟨by rw [bI_t ⟨by rw [fa_le]; rw [fa_lt] at h1; omega, by rw [fa_lt]; rw [fa_le] at h2; omega⟩], rfl⟩)
set_option maxHeartbeats 2000000 in
theorem k_X8_owedBy_2 (g : Nat × Int32) (P : pg_T) (ta tb : tw_T) (o0 o1 : of_T) (x : sc_T) (ra up f0 su nn : Nat) (wk : Int32) (ki we ow fr of : Nat → Nat) (p : Nat) (hn : nn ≤ 5) (hp : p < 5) : AM 2 yX8_owedBy cX8_owedBy 4 (some .int) [.ref 25, .int (nI p)] (cw_C g P ta tb (ra, up, f0, su, nn, wk, ki, we, ow, fr, of) o0 o1 x) (ac_R (some (.int (nI (fb_sm (fun q => ow (5 * p + q)) nn)))) (cw_C g P ta tb (ra, up, f0, su, nn, wk, ki, we, ow, fr, of) o0 o1 x)) := by
  refine AM.of (loc := [.ref 25, .int (nI p), .null, .null]) RX8 rfl (by decide +kernel) (Nat.le_of_ble_eq_true rfl) rfl ?_
  refine akN_iconst_0 dX8_owedBy_0 ?_
  refine aw_istore_2 dX8_owedBy_1 rfl (Nat.le_of_ble_eq_true rfl) ?_
  refine akN_iconst_0 dX8_owedBy_2 ?_
  refine aw_istore_3 dX8_owedBy_3 rfl (Nat.le_of_ble_eq_true rfl) ?_
  have loop : ∀ k i, i + k = nn → AW 2 RX8 cX8_owedBy 4 (some .int) 41 (ac_R (some (.int (nI (fb_sm (fun q => ow (5 * p + q)) nn)))) (cw_C g P ta tb (ra, up, f0, su, nn, wk, ki, we, ow, fr, of) o0 o1 x)) 4 [.ref 25, .int (nI p), .int (nI (fb_sm (fun q => ow (5 * p + q)) i)), .int (nI i)] [] (cw_C g P ta tb (ra, up, f0, su, nn, wk, ki, we, ow, fr, of) o0 o1 x) := by
    intro k
    induction k with
    | zero =>
      intro i hi
      refine aw_iload_3 dX8_owedBy_4 ?_
      refine aw_aload_0 dX8_owedBy_5 ?_
      refine gf_X8_44 dX8_owedBy_6 rfl rfl ?_
      refine aw_icmp_geN 31 dX8_owedBy_9 (by decide) (by omega) (by omega) (fun _ => ?_) (fun hh => absurd hh (by omega))
      refine aw_iload_2 dX8_owedBy_31 ?_
      obtain rfl : i = nn := by omega
      exact aw_iret dX8_owedBy_32 rfl (⟨rfl, rfl⟩)
    | succ k ih =>
      intro i hi
      refine aw_iload_3 dX8_owedBy_4 ?_
      refine aw_aload_0 dX8_owedBy_5 ?_
      refine gf_X8_44 dX8_owedBy_6 rfl rfl ?_
      refine aw_icmp_geN 31 dX8_owedBy_9 (by decide) (by omega) (by omega) (fun hh => absurd hh (by omega)) (fun _ => ?_)
      refine aw_iload_2 dX8_owedBy_12 ?_
      refine aw_aload_0 dX8_owedBy_13 ?_
      refine gf_X8_25 dX8_owedBy_14 rfl rfl ?_
      refine aw_iload_1 dX8_owedBy_17 ?_
      refine aw_iload_3 dX8_owedBy_18 ?_
      refine ce_X8_59 dX8_owedBy_19 (k_X9_pairOf _ p i) ?_
      refine aw_ialdN dX8_owedBy_22 rfl (by omega) ?_
      refine aw_iaddN dX8_owedBy_23 ?_
      refine aw_istore_2 dX8_owedBy_24 rfl (Nat.le_of_ble_eq_true rfl) ?_
      refine aw_iincN_3 dX8_owedBy_25 rfl (Nat.le_of_ble_eq_true rfl) ?_
      refine aw_goto 4 dX8_owedBy_28 (by decide) ?_
      exact ih (i + 1) (by omega)
  exact loop nn 0 (by omega)
