/-! ===== a town's sums and weeks ===== -/
def si_I (f : Nat → Int32) : Nat → Int32
  | 0 => 0
  | n + 1 => si_I f n + f n
/-- NET -/
def nt_I (nn : Nat) (we ow : Nat → Nat) (p : Nat) : Int32 := nI (we p) + nI (fb_sm (fun q => ow (5 * q + p)) nn) - nI (fb_sm (fun q => ow (5 * p + q)) nn)
def ru_I (nn : Nat) (we ow : Nat → Nat) : Int32 := si_I (fun p => bI (nt_I nn we ow p < 0)) nn
def al_N (nn : Nat) (ow : Nat → Nat) : Nat := fb_sm (fun p => fb_sm (fun q => ow (5 * p + q)) nn) nn
def pt_N (j : Nat) (f g : Nat → Nat) : Nat → Nat := fun k => if k < j then g k else f k
theorem pt_0 (f g : Nat → Nat) : pt_N 0 f g = f := funext fun k => if_neg (Nat.not_lt_zero k)
theorem pt_at (f g : Nat → Nat) (j : Nat) : pt_N j f g j = f j := if_neg (Nat.lt_irrefl j)
theorem pt_up (f g : Nat → Nat) (j v : Nat) (h : v = g j) : va_up (pt_N j f g) j v = pt_N (j + 1) f g := by
  funext k
  unfold va_up pt_N
  by_cases e : k = j
  · subst e; rw [if_pos rfl, if_pos (Nat.lt_succ_self k), h]
  · rw [if_neg e]
    by_cases q : k < j
    · rw [if_pos q, if_pos (by omega)]
    · rw [if_neg q, if_neg (by omega)]
theorem pt_skip (f g : Nat → Nat) {i j : Nat} (hij : i ≤ j) (h : ∀ k, i ≤ k → k < j → g k = f k) : pt_N i f g = pt_N j f g := by
  funext k
  unfold pt_N
  by_cases q : k < i
  · rw [if_pos q, if_pos (by omega)]
  · rw [if_neg q]
    by_cases r : k < j
    · rw [if_pos r, h k (by omega) r]
    · rw [if_neg r]
theorem pt_all (f g : Nat → Nat) {i : Nat} (h : ∀ k, i ≤ k → g k = f k) : pt_N i f g = g := by
  funext k
  unfold pt_N
  by_cases q : k < i
  · rw [if_pos q]
  · rw [if_neg q, h k (by omega)]
/-- what all owe a week later; weeks that are one fewer -/
def wO_N (nn ra up : Nat) (ki ow fr : Nat → Nat) (k : Nat) : Nat := if k / 5 < nn ∧ k % 5 < nn then nw_N ra up ki ow fr k else ow k
def wM_N (nn : Nat) (f : Nat → Nat) (k : Nat) : Nat := if k / 5 < nn ∧ k % 5 < nn then f k - 1 else f k
def wk_T : tw_T → tw_T
  | (ra, up, f0, su, nn, wk, ki, we, ow, fr, of) => (ra, up, f0, su, nn, wk + 1, ki, we, wO_N nn ra up ki ow fr, wM_N nn fr, wM_N nn of)
/-- by how much all grows -/
def gs_I (nn ra up : Nat) (ki ow fr : Nat → Nat) : Int32 := si_I (fun p => si_I (fun q => nI (wO_N nn ra up ki ow fr (5 * p + q)) - nI (ow (5 * p + q))) nn) nn
theorem wO_dom {nn ra up : Nat} {ki ow fr : Nat → Nat} {p q : Nat} (hp : p < nn) (hq : q < nn) (hn : nn ≤ 5) : wO_N nn ra up ki ow fr (5 * p + q) = nw_N ra up ki ow fr (5 * p + q) := if_pos ⟨by omega, by omega⟩
theorem wM_dom {nn : Nat} {f : Nat → Nat} {p q : Nat} (hp : p < nn) (hq : q < nn) (hn : nn ≤ 5) : wM_N nn f (5 * p + q) = f (5 * p + q) - 1 := if_pos ⟨by omega, by omega⟩
theorem sm_le {f : Nat → Nat} {c : Nat} (h : ∀ k, f k ≤ c) (n : Nat) : fb_sm f n ≤ n * c := fb_sm_bound (fun k _ => h k)
theorem nt_lt {a b c : Nat} : nI a + nI b - nI c = nI a + nI b - nI c := rfl
theorem k_X8_net_0 (g : Nat × Int32) (P : pg_T) (ta tb : tw_T) (o0 o1 : of_T) (x : sc_T) (ra up f0 su nn : Nat) (wk : Int32) (ki we ow fr of : Nat → Nat) (p : Nat) (hn : nn ≤ 5) (hp : p < 5) : AM 3 yX8_net cX8_net 2 (some .int) [.ref 3, .int (nI p)] (cw_C g P (ra, up, f0, su, nn, wk, ki, we, ow, fr, of) ta tb o0 o1 x) (ac_R (some (.int (nt_I nn we ow p))) (cw_C g P (ra, up, f0, su, nn, wk, ki, we, ow, fr, of) ta tb o0 o1 x)) := by
  refine AM.of (loc := [.ref 3, .int (nI p)]) RX8 rfl (by decide +kernel) (Nat.le_of_ble_eq_true rfl) rfl ?_
  refine aw_aload_0 dX8_net_0 ?_
  refine gf_X8_22 dX8_net_1 rfl rfl ?_
  refine aw_iload_1 dX8_net_4 ?_
  refine aw_ialdN dX8_net_5 rfl hp ?_
  refine aw_aload_0 dX8_net_6 ?_
  refine aw_iload_1 dX8_net_7 ?_
  refine ce_X8_63 dX8_net_8 rfl (k_X8_owedTo_0 g P ta tb o0 o1 x ra up f0 su nn wk ki we ow fr of p hn hp) ?_
  refine aw_iadd dX8_net_11 ?_
  refine aw_aload_0 dX8_net_12 ?_
  refine aw_iload_1 dX8_net_13 ?_
  refine ce_X8_67 dX8_net_14 rfl (k_X8_owedBy_0 g P ta tb o0 o1 x ra up f0 su nn wk ki we ow fr of p hn hp) ?_
  refine aw_isub dX8_net_17 ?_
  exact aw_iret dX8_net_18 rfl (⟨rfl, rfl⟩)
theorem k_X8_isRuined_0 (g : Nat × Int32) (P : pg_T) (ta tb : tw_T) (o0 o1 : of_T) (x : sc_T) (ra up f0 su nn : Nat) (wk : Int32) (ki we ow fr of : Nat → Nat) (p : Nat) (hn : nn ≤ 5) (hp : p < 5) : AM 4 yX8_isRuined cX8_isRuined 2 (some .boolean) [.ref 3, .int (nI p)] (cw_C g P (ra, up, f0, su, nn, wk, ki, we, ow, fr, of) ta tb o0 o1 x) (ac_R (some (.int (bI (nt_I nn we ow p < 0)))) (cw_C g P (ra, up, f0, su, nn, wk, ki, we, ow, fr, of) ta tb o0 o1 x)) := by
  refine AM.of (loc := [.ref 3, .int (nI p)]) RX8 rfl (by decide +kernel) (Nat.le_of_ble_eq_true rfl) rfl ?_
  refine aw_aload_0 dX8_isRuined_0 ?_
  refine aw_iload_1 dX8_isRuined_1 ?_
  refine ce_X8_70 dX8_isRuined_2 rfl (k_X8_net_0 g P ta tb o0 o1 x ra up f0 su nn wk ki we ow fr of p hn hp) ?_
  refine aw_if_ge 12 dX8_isRuined_5 (by decide) (fun h1 => ?_) (fun h1 => ?_)
  · refine ak_iconst_0 dX8_isRuined_12 ?_
    exact aw_zret dX8_isRuined_13 rfl (rfl) (⟨by rw [bI_f (fun q => by rw [fa_lt] at q; rw [fa_le] at h1; omega)], rfl⟩)
  refine ak_iconst_1 dX8_isRuined_8 ?_
  refine aw_goto 13 dX8_isRuined_9 (by decide) ?_
  exact aw_zret dX8_isRuined_13 rfl (rfl) (⟨by rw [bI_t (by rw [fa_lt]; rw [fa_le] at h1; omega)], rfl⟩)
theorem k_X8_ruinedOnes_0 (g : Nat × Int32) (P : pg_T) (ta tb : tw_T) (o0 o1 : of_T) (x : sc_T) (ra up f0 su nn : Nat) (wk : Int32) (ki we ow fr of : Nat → Nat) (hn : nn ≤ 5) : AM 5 yX8_ruinedOnes cX8_ruinedOnes 3 (some .int) [.ref 3] (cw_C g P (ra, up, f0, su, nn, wk, ki, we, ow, fr, of) ta tb o0 o1 x) (ac_R (some (.int (ru_I nn we ow))) (cw_C g P (ra, up, f0, su, nn, wk, ki, we, ow, fr, of) ta tb o0 o1 x)) := by
  refine AM.of (loc := [.ref 3, .null, .null]) RX8 rfl (by decide +kernel) (Nat.le_of_ble_eq_true rfl) rfl ?_
  refine ak_iconst_0 dX8_ruinedOnes_0 ?_
  refine aw_istore_1 dX8_ruinedOnes_1 rfl (Nat.le_of_ble_eq_true rfl) ?_
  refine akN_iconst_0 dX8_ruinedOnes_2 ?_
  refine aw_istore_2 dX8_ruinedOnes_3 rfl (Nat.le_of_ble_eq_true rfl) ?_
  have loop : ∀ k i, i + k = nn → AW 5 RX8 cX8_ruinedOnes 3 (some .int) 41 (ac_R (some (.int (ru_I nn we ow))) (cw_C g P (ra, up, f0, su, nn, wk, ki, we, ow, fr, of) ta tb o0 o1 x)) 4 [.ref 3, .int (si_I (fun p => bI (nt_I nn we ow p < 0)) i), .int (nI i)] [] (cw_C g P (ra, up, f0, su, nn, wk, ki, we, ow, fr, of) ta tb o0 o1 x) := by
    intro k
    induction k with
    | zero =>
      intro i hi
      refine aw_iload_2 dX8_ruinedOnes_4 ?_
      refine aw_aload_0 dX8_ruinedOnes_5 ?_
      refine gf_X8_44 dX8_ruinedOnes_6 rfl rfl ?_
      refine aw_icmp_geN 29 dX8_ruinedOnes_9 (by decide) (by omega) (by omega) (fun _ => ?_) (fun hh => absurd hh (by omega))
      refine aw_iload_1 dX8_ruinedOnes_29 ?_
      obtain rfl : i = nn := by omega
      exact aw_iret dX8_ruinedOnes_30 rfl (⟨rfl, rfl⟩)
    | succ k ih =>
      intro i hi
      refine aw_iload_2 dX8_ruinedOnes_4 ?_
      refine aw_aload_0 dX8_ruinedOnes_5 ?_
      refine gf_X8_44 dX8_ruinedOnes_6 rfl rfl ?_
      refine aw_icmp_geN 29 dX8_ruinedOnes_9 (by decide) (by omega) (by omega) (fun hh => absurd hh (by omega)) (fun _ => ?_)
      refine aw_iload_1 dX8_ruinedOnes_12 ?_
      refine aw_aload_0 dX8_ruinedOnes_13 ?_
      refine aw_iload_2 dX8_ruinedOnes_14 ?_
      refine ce_X8_73 dX8_ruinedOnes_15 rfl (k_X8_isRuined_0 g P ta tb o0 o1 x ra up f0 su nn wk ki we ow fr of i hn (by omega)) ?_
      refine ce_X8_76 dX8_ruinedOnes_18 (k_X9_oneIf _ _) ?_
      refine aw_iadd dX8_ruinedOnes_21 ?_
      refine aw_istore_1 dX8_ruinedOnes_22 rfl (Nat.le_of_ble_eq_true rfl) ?_
      refine aw_iincN_2 dX8_ruinedOnes_23 rfl (Nat.le_of_ble_eq_true rfl) ?_
      refine aw_goto 4 dX8_ruinedOnes_26 (by decide) ?_
      exact ih (i + 1) (by omega)
  exact loop nn 0 (by omega)
theorem k_X8_allOwed_0 (g : Nat × Int32) (P : pg_T) (ta tb : tw_T) (o0 o1 : of_T) (x : sc_T) (ra up f0 su nn : Nat) (wk : Int32) (ki we ow fr of : Nat → Nat) (hn : nn ≤ 5) : AM 3 yX8_allOwed cX8_allOwed 3 (some .int) [.ref 3] (cw_C g P (ra, up, f0, su, nn, wk, ki, we, ow, fr, of) ta tb o0 o1 x) (ac_R (some (.int (nI (al_N nn ow)))) (cw_C g P (ra, up, f0, su, nn, wk, ki, we, ow, fr, of) ta tb o0 o1 x)) := by
  refine AM.of (loc := [.ref 3, .null, .null]) RX8 rfl (by decide +kernel) (Nat.le_of_ble_eq_true rfl) rfl ?_
  refine akN_iconst_0 dX8_allOwed_0 ?_
  refine aw_istore_1 dX8_allOwed_1 rfl (Nat.le_of_ble_eq_true rfl) ?_
  refine akN_iconst_0 dX8_allOwed_2 ?_
  refine aw_istore_2 dX8_allOwed_3 rfl (Nat.le_of_ble_eq_true rfl) ?_
  have loop : ∀ k i, i + k = nn → AW 3 RX8 cX8_allOwed 3 (some .int) 41 (ac_R (some (.int (nI (al_N nn ow)))) (cw_C g P (ra, up, f0, su, nn, wk, ki, we, ow, fr, of) ta tb o0 o1 x)) 4 [.ref 3, .int (nI (fb_sm (fun p => fb_sm (fun q => ow (5 * p + q)) nn) i)), .int (nI i)] [] (cw_C g P (ra, up, f0, su, nn, wk, ki, we, ow, fr, of) ta tb o0 o1 x) := by
    intro k
    induction k with
    | zero =>
      intro i hi
      refine aw_iload_2 dX8_allOwed_4 ?_
      refine aw_aload_0 dX8_allOwed_5 ?_
      refine gf_X8_44 dX8_allOwed_6 rfl rfl ?_
      refine aw_icmp_geN 26 dX8_allOwed_9 (by decide) (by omega) (by omega) (fun _ => ?_) (fun hh => absurd hh (by omega))
      refine aw_iload_1 dX8_allOwed_26 ?_
      obtain rfl : i = nn := by omega
      exact aw_iret dX8_allOwed_27 rfl (⟨rfl, rfl⟩)
    | succ k ih =>
      intro i hi
      refine aw_iload_2 dX8_allOwed_4 ?_
      refine aw_aload_0 dX8_allOwed_5 ?_
      refine gf_X8_44 dX8_allOwed_6 rfl rfl ?_
      refine aw_icmp_geN 26 dX8_allOwed_9 (by decide) (by omega) (by omega) (fun hh => absurd hh (by omega)) (fun _ => ?_)
      refine aw_iload_1 dX8_allOwed_12 ?_
      refine aw_aload_0 dX8_allOwed_13 ?_
      refine aw_iload_2 dX8_allOwed_14 ?_
      refine ce_X8_67 dX8_allOwed_15 rfl (k_X8_owedBy_0 g P ta tb o0 o1 x ra up f0 su nn wk ki we ow fr of i hn (by omega)) ?_
      refine aw_iaddN dX8_allOwed_18 ?_
      refine aw_istore_1 dX8_allOwed_19 rfl (Nat.le_of_ble_eq_true rfl) ?_
      refine aw_iincN_2 dX8_allOwed_20 rfl (Nat.le_of_ble_eq_true rfl) ?_
      refine aw_goto 4 dX8_allOwed_23 (by decide) ?_
      exact ih (i + 1) (by omega)
  exact loop nn 0 (by omega)
theorem k_X8_passWeek_0 (g : Nat × Int32) (P : pg_T) (ta tb : tw_T) (o0 o1 : of_T) (x : sc_T) (ra up f0 su nn : Nat) (wk : Int32) (ki we ow fr of : Nat → Nat) (hok : ok_T (ra, up, f0, su, nn, wk, ki, we, ow, fr, of)) : AM 3 yX8_passWeek cX8_passWeek 4 (some .int) [.ref 3] (cw_C g P (ra, up, f0, su, nn, wk, ki, we, ow, fr, of) ta tb o0 o1 x) (ac_R (some (.int (gs_I nn ra up ki ow fr))) (cw_C g P (ra, up, f0, su, nn, wk + 1, ki, we, wO_N nn ra up ki ow fr, wM_N nn fr, wM_N nn of) ta tb o0 o1 x)) := by
  obtain ⟨hra, hu, hf0, hsu, hn, hki, hwe, how, hfr, hof⟩ := hok
  refine AM.of (loc := [.ref 3, .null, .null, .null]) RX8 rfl (by decide +kernel) (Nat.le_of_ble_eq_true rfl) rfl ?_
  refine ak_iconst_0 dX8_passWeek_0 ?_
  refine aw_istore_1 dX8_passWeek_1 rfl (Nat.le_of_ble_eq_true rfl) ?_
  refine akN_iconst_0 dX8_passWeek_2 ?_
  refine aw_istore_2 dX8_passWeek_3 rfl (Nat.le_of_ble_eq_true rfl) ?_
  have hpt : ∀ (f gg : Nat → Nat) (c j k : Nat), (∀ k, f k ≤ c) → (∀ k, gg k ≤ c) → pt_N j f gg k ≤ c := by
    intro f gg c j k h1 h2
    unfold pt_N
    split
    · exact h2 k
    · exact h1 k
  have hO : ∀ k, wO_N nn ra up ki ow fr k ≤ 9999 := by
    intro k
    unfold wO_N nw_N
    split
    · split
      · exact gr_le _ _ _
      · exact how k
    · exact how k
  have hM : ∀ (f : Nat → Nat) (k : Nat), (∀ k, f k ≤ 9) → wM_N nn f k ≤ 9 := by
    intro f k h
    unfold wM_N
    have := h k
    split <;> omega
  have outer : ∀ m p, p + m = nn → AW 3 RX8 cX8_passWeek 4 (some .int) 41 (ac_R (some (.int (gs_I nn ra up ki ow fr))) (cw_C g P (ra, up, f0, su, nn, wk + 1, ki, we, wO_N nn ra up ki ow fr, wM_N nn fr, wM_N nn of) ta tb o0 o1 x)) 4 [.ref 3, .int (si_I (fun p => si_I (fun q => nI (wO_N nn ra up ki ow fr (5 * p + q)) - nI (ow (5 * p + q))) nn) p), .int (nI p), .null] [] (cw_C g P (ra, up, f0, su, nn, wk, ki, we, pt_N (5 * p) ow (wO_N nn ra up ki ow fr), pt_N (5 * p) fr (wM_N nn fr), pt_N (5 * p) of (wM_N nn of)) ta tb o0 o1 x) ∧ (∀ jk : Value, jk.category = 1 → AW 3 RX8 cX8_passWeek 4 (some .int) 41 (ac_R (some (.int (gs_I nn ra up ki ow fr))) (cw_C g P (ra, up, f0, su, nn, wk + 1, ki, we, wO_N nn ra up ki ow fr, wM_N nn fr, wM_N nn of) ta tb o0 o1 x)) 4 [.ref 3, .int (si_I (fun p => si_I (fun q => nI (wO_N nn ra up ki ow fr (5 * p + q)) - nI (ow (5 * p + q))) nn) p), .int (nI p), jk] [] (cw_C g P (ra, up, f0, su, nn, wk, ki, we, pt_N (5 * p) ow (wO_N nn ra up ki ow fr), pt_N (5 * p) fr (wM_N nn fr), pt_N (5 * p) of (wM_N nn of)) ta tb o0 o1 x)) := by
    intro m
    induction m with
    | zero =>
      intro p hp
      have key : ∀ jk : Value, jk.category = 1 → AW 3 RX8 cX8_passWeek 4 (some .int) 41 (ac_R (some (.int (gs_I nn ra up ki ow fr))) (cw_C g P (ra, up, f0, su, nn, wk + 1, ki, we, wO_N nn ra up ki ow fr, wM_N nn fr, wM_N nn of) ta tb o0 o1 x)) 4 [.ref 3, .int (si_I (fun p => si_I (fun q => nI (wO_N nn ra up ki ow fr (5 * p + q)) - nI (ow (5 * p + q))) nn) p), .int (nI p), jk] [] (cw_C g P (ra, up, f0, su, nn, wk, ki, we, pt_N (5 * p) ow (wO_N nn ra up ki ow fr), pt_N (5 * p) fr (wM_N nn fr), pt_N (5 * p) of (wM_N nn of)) ta tb o0 o1 x) := by
        intro jk hjk
        obtain rfl : p = nn := by omega
        rw [pt_all ow (wO_N p ra up ki ow fr) (fun k hk => if_neg (fun q => by omega)), pt_all fr (wM_N p fr) (fun k hk => if_neg (fun q => by omega)), pt_all of (wM_N p of) (fun k hk => if_neg (fun q => by omega))]
        refine aw_iload_2 dX8_passWeek_4 ?_
        refine aw_aload_0 dX8_passWeek_5 ?_
        refine gf_X8_44 dX8_passWeek_6 rfl rfl ?_
        refine aw_icmp_geN 43 dX8_passWeek_9 (by decide) (by omega) (by omega) (fun _ => ?_) (fun hh => absurd hh (by omega))
        refine aw_aload_0 dX8_passWeek_43 ?_
        refine aw_dup dX8_passWeek_44 rfl ?_
        refine gf_X8_48 dX8_passWeek_45 rfl rfl ?_
        refine ak_iconst_1 dX8_passWeek_48 ?_
        refine aw_iadd dX8_passWeek_49 ?_
        refine pf_X8_48 dX8_passWeek_50 rfl (Nat.le_of_ble_eq_true rfl) ?_
        refine aw_w cs_3_7 ?_
        refine aw_iload_1 dX8_passWeek_53 ?_
        exact aw_iret dX8_passWeek_54 rfl (⟨rfl, rfl⟩)
      exact ⟨key .null rfl, key⟩
    | succ m ih =>
      intro p hp
      have inner : ∀ k q, q + k = nn → AW 3 RX8 cX8_passWeek 4 (some .int) 41 (ac_R (some (.int (gs_I nn ra up ki ow fr))) (cw_C g P (ra, up, f0, su, nn, wk + 1, ki, we, wO_N nn ra up ki ow fr, wM_N nn fr, wM_N nn of) ta tb o0 o1 x)) 14 [.ref 3, .int (si_I (fun p => si_I (fun q => nI (wO_N nn ra up ki ow fr (5 * p + q)) - nI (ow (5 * p + q))) nn) p + si_I (fun q => nI (wO_N nn ra up ki ow fr (5 * p + q)) - nI (ow (5 * p + q))) q), .int (nI p), .int (nI q)] [] (cw_C g P (ra, up, f0, su, nn, wk, ki, we, pt_N (5 * p + q) ow (wO_N nn ra up ki ow fr), pt_N (5 * p + q) fr (wM_N nn fr), pt_N (5 * p + q) of (wM_N nn of)) ta tb o0 o1 x) := by
        intro k
        induction k with
        | zero =>
          intro q hq
          obtain rfl : q = nn := by omega
          refine aw_iload_3 dX8_passWeek_14 ?_
          refine aw_aload_0 dX8_passWeek_15 ?_
          refine gf_X8_44 dX8_passWeek_16 rfl rfl ?_
          refine aw_icmp_geN 37 dX8_passWeek_19 (by decide) (by omega) (by omega) (fun _ => ?_) (fun hh => absurd hh (by omega))
          refine aw_iincN_2 dX8_passWeek_37 rfl (Nat.le_of_ble_eq_true rfl) ?_
          refine aw_goto 4 dX8_passWeek_40 (by decide) ?_
          rw [pt_skip ow (wO_N q ra up ki ow fr) (show 5 * p + q ≤ 5 * (p + 1) by omega) (fun k h1 h2 => if_neg (fun z => by omega)), pt_skip fr (wM_N q fr) (show 5 * p + q ≤ 5 * (p + 1) by omega) (fun k h1 h2 => if_neg (fun z => by omega)), pt_skip of (wM_N q of) (show 5 * p + q ≤ 5 * (p + 1) by omega) (fun k h1 h2 => if_neg (fun z => by omega))]
          exact (ih (p + 1) (by omega)).2 _ rfl
        | succ k ihk =>
          intro q hq
          have e1 : nw_N ra up ki (pt_N (5 * p + q) ow (wO_N nn ra up ki ow fr)) (pt_N (5 * p + q) fr (wM_N nn fr)) (5 * p + q) = wO_N nn ra up ki ow fr (5 * p + q) := by
            rw [wO_dom (by omega) (by omega) hn]
            unfold nw_N
            rw [pt_at, pt_at]
          refine aw_iload_3 dX8_passWeek_14 ?_
          refine aw_aload_0 dX8_passWeek_15 ?_
          refine gf_X8_44 dX8_passWeek_16 rfl rfl ?_
          refine aw_icmp_geN 37 dX8_passWeek_19 (by decide) (by omega) (by omega) (fun hh => absurd hh (by omega)) (fun _ => ?_)
          refine aw_iload_1 dX8_passWeek_22 ?_
          refine aw_aload_0 dX8_passWeek_23 ?_
          refine aw_iload_2 dX8_passWeek_24 ?_
          refine aw_iload_3 dX8_passWeek_25 ?_
          refine ce_X8_103 dX8_passWeek_26 rfl (k_X8_passPairWeek_0 g P ta tb o0 o1 x ra up f0 su nn wk ki we (pt_N (5 * p + q) ow (wO_N nn ra up ki ow fr)) (pt_N (5 * p + q) fr (wM_N nn fr)) (pt_N (5 * p + q) of (wM_N nn of)) p q (by omega) (by omega) hra hu (hki p) (hki q) (hpt _ _ _ _ _ how hO) (hpt _ _ _ _ _ hfr (fun k => hM fr k hfr)) (hpt _ _ _ _ _ hof (fun k => hM of k hof))) ?_
          rw [e1, pt_at ow, pt_at fr, pt_at of, pt_up ow _ _ _ rfl, pt_up fr _ _ _ (wM_dom (by omega) (by omega) hn).symm, pt_up of _ _ _ (wM_dom (by omega) (by omega) hn).symm]
          refine aw_iadd dX8_passWeek_29 ?_
          refine aw_topi (Int32.add_assoc _ _ _) ?_
          refine aw_istore_1 dX8_passWeek_30 rfl (Nat.le_of_ble_eq_true rfl) ?_
          refine aw_iincN_3 dX8_passWeek_31 rfl (Nat.le_of_ble_eq_true rfl) ?_
          refine aw_goto 14 dX8_passWeek_34 (by decide) ?_
          exact ihk (q + 1) (by omega)
      have key : ∀ jk : Value, jk.category = 1 → AW 3 RX8 cX8_passWeek 4 (some .int) 41 (ac_R (some (.int (gs_I nn ra up ki ow fr))) (cw_C g P (ra, up, f0, su, nn, wk + 1, ki, we, wO_N nn ra up ki ow fr, wM_N nn fr, wM_N nn of) ta tb o0 o1 x)) 4 [.ref 3, .int (si_I (fun p => si_I (fun q => nI (wO_N nn ra up ki ow fr (5 * p + q)) - nI (ow (5 * p + q))) nn) p), .int (nI p), jk] [] (cw_C g P (ra, up, f0, su, nn, wk, ki, we, pt_N (5 * p) ow (wO_N nn ra up ki ow fr), pt_N (5 * p) fr (wM_N nn fr), pt_N (5 * p) of (wM_N nn of)) ta tb o0 o1 x) := by
        intro jk hjk
        refine aw_iload_2 dX8_passWeek_4 ?_
        refine aw_aload_0 dX8_passWeek_5 ?_
        refine gf_X8_44 dX8_passWeek_6 rfl rfl ?_
        refine aw_icmp_geN 43 dX8_passWeek_9 (by decide) (by omega) (by omega) (fun hh => absurd hh (by omega)) (fun _ => ?_)
        refine akN_iconst_0 dX8_passWeek_12 ?_
        refine aw_istore_3 dX8_passWeek_13 rfl (Nat.le_of_ble_eq_true rfl) ?_
        refine aw_st ?_ rfl rfl (inner nn 0 (by omega))
        show [_, Value.int _, _, _] = [_, Value.int (_ + 0), _, _]
        rw [Int32.add_zero]
      exact ⟨key .null rfl, key⟩
  have h := (outer nn 0 (by omega)).1
  rw [pt_0, pt_0, pt_0] at h
  exact h
theorem k_X8_net_2 (g : Nat × Int32) (P : pg_T) (ta tb : tw_T) (o0 o1 : of_T) (x : sc_T) (ra up f0 su nn : Nat) (wk : Int32) (ki we ow fr of : Nat → Nat) (p : Nat) (hn : nn ≤ 5) (hp : p < 5) : AM 3 yX8_net cX8_net 2 (some .int) [.ref 25, .int (nI p)] (cw_C g P ta tb (ra, up, f0, su, nn, wk, ki, we, ow, fr, of) o0 o1 x) (ac_R (some (.int (nt_I nn we ow p))) (cw_C g P ta tb (ra, up, f0, su, nn, wk, ki, we, ow, fr, of) o0 o1 x)) := by
  refine AM.of (loc := [.ref 25, .int (nI p)]) RX8 rfl (by decide +kernel) (Nat.le_of_ble_eq_true rfl) rfl ?_
  refine aw_aload_0 dX8_net_0 ?_
  refine gf_X8_22 dX8_net_1 rfl rfl ?_
  refine aw_iload_1 dX8_net_4 ?_
  refine aw_ialdN dX8_net_5 rfl hp ?_
  refine aw_aload_0 dX8_net_6 ?_
  refine aw_iload_1 dX8_net_7 ?_
  refine ce_X8_63 dX8_net_8 rfl (k_X8_owedTo_2 g P ta tb o0 o1 x ra up f0 su nn wk ki we ow fr of p hn hp) ?_
  refine aw_iadd dX8_net_11 ?_
  refine aw_aload_0 dX8_net_12 ?_
  refine aw_iload_1 dX8_net_13 ?_
  refine ce_X8_67 dX8_net_14 rfl (k_X8_owedBy_2 g P ta tb o0 o1 x ra up f0 su nn wk ki we ow fr of p hn hp) ?_
  refine aw_isub dX8_net_17 ?_
  exact aw_iret dX8_net_18 rfl (⟨rfl, rfl⟩)
theorem k_X8_isRuined_2 (g : Nat × Int32) (P : pg_T) (ta tb : tw_T) (o0 o1 : of_T) (x : sc_T) (ra up f0 su nn : Nat) (wk : Int32) (ki we ow fr of : Nat → Nat) (p : Nat) (hn : nn ≤ 5) (hp : p < 5) : AM 4 yX8_isRuined cX8_isRuined 2 (some .boolean) [.ref 25, .int (nI p)] (cw_C g P ta tb (ra, up, f0, su, nn, wk, ki, we, ow, fr, of) o0 o1 x) (ac_R (some (.int (bI (nt_I nn we ow p < 0)))) (cw_C g P ta tb (ra, up, f0, su, nn, wk, ki, we, ow, fr, of) o0 o1 x)) := by
  refine AM.of (loc := [.ref 25, .int (nI p)]) RX8 rfl (by decide +kernel) (Nat.le_of_ble_eq_true rfl) rfl ?_
  refine aw_aload_0 dX8_isRuined_0 ?_
  refine aw_iload_1 dX8_isRuined_1 ?_
  refine ce_X8_70 dX8_isRuined_2 rfl (k_X8_net_2 g P ta tb o0 o1 x ra up f0 su nn wk ki we ow fr of p hn hp) ?_
  refine aw_if_ge 12 dX8_isRuined_5 (by decide) (fun h1 => ?_) (fun h1 => ?_)
  · refine ak_iconst_0 dX8_isRuined_12 ?_
    exact aw_zret dX8_isRuined_13 rfl (rfl) (⟨by rw [bI_f (fun q => by rw [fa_lt] at q; rw [fa_le] at h1; omega)], rfl⟩)
  refine ak_iconst_1 dX8_isRuined_8 ?_
  refine aw_goto 13 dX8_isRuined_9 (by decide) ?_
  exact aw_zret dX8_isRuined_13 rfl (rfl) (⟨by rw [bI_t (by rw [fa_lt]; rw [fa_le] at h1; omega)], rfl⟩)
theorem k_X8_ruinedOnes_2 (g : Nat × Int32) (P : pg_T) (ta tb : tw_T) (o0 o1 : of_T) (x : sc_T) (ra up f0 su nn : Nat) (wk : Int32) (ki we ow fr of : Nat → Nat) (hn : nn ≤ 5) : AM 5 yX8_ruinedOnes cX8_ruinedOnes 3 (some .int) [.ref 25] (cw_C g P ta tb (ra, up, f0, su, nn, wk, ki, we, ow, fr, of) o0 o1 x) (ac_R (some (.int (ru_I nn we ow))) (cw_C g P ta tb (ra, up, f0, su, nn, wk, ki, we, ow, fr, of) o0 o1 x)) := by
  refine AM.of (loc := [.ref 25, .null, .null]) RX8 rfl (by decide +kernel) (Nat.le_of_ble_eq_true rfl) rfl ?_
  refine ak_iconst_0 dX8_ruinedOnes_0 ?_
  refine aw_istore_1 dX8_ruinedOnes_1 rfl (Nat.le_of_ble_eq_true rfl) ?_
  refine akN_iconst_0 dX8_ruinedOnes_2 ?_
  refine aw_istore_2 dX8_ruinedOnes_3 rfl (Nat.le_of_ble_eq_true rfl) ?_
  have loop : ∀ k i, i + k = nn → AW 5 RX8 cX8_ruinedOnes 3 (some .int) 41 (ac_R (some (.int (ru_I nn we ow))) (cw_C g P ta tb (ra, up, f0, su, nn, wk, ki, we, ow, fr, of) o0 o1 x)) 4 [.ref 25, .int (si_I (fun p => bI (nt_I nn we ow p < 0)) i), .int (nI i)] [] (cw_C g P ta tb (ra, up, f0, su, nn, wk, ki, we, ow, fr, of) o0 o1 x) := by
    intro k
    induction k with
    | zero =>
      intro i hi
      refine aw_iload_2 dX8_ruinedOnes_4 ?_
      refine aw_aload_0 dX8_ruinedOnes_5 ?_
      refine gf_X8_44 dX8_ruinedOnes_6 rfl rfl ?_
      refine aw_icmp_geN 29 dX8_ruinedOnes_9 (by decide) (by omega) (by omega) (fun _ => ?_) (fun hh => absurd hh (by omega))
      refine aw_iload_1 dX8_ruinedOnes_29 ?_
      obtain rfl : i = nn := by omega
      exact aw_iret dX8_ruinedOnes_30 rfl (⟨rfl, rfl⟩)
    | succ k ih =>
      intro i hi
      refine aw_iload_2 dX8_ruinedOnes_4 ?_
      refine aw_aload_0 dX8_ruinedOnes_5 ?_
      refine gf_X8_44 dX8_ruinedOnes_6 rfl rfl ?_
      refine aw_icmp_geN 29 dX8_ruinedOnes_9 (by decide) (by omega) (by omega) (fun hh => absurd hh (by omega)) (fun _ => ?_)
      refine aw_iload_1 dX8_ruinedOnes_12 ?_
      refine aw_aload_0 dX8_ruinedOnes_13 ?_
      refine aw_iload_2 dX8_ruinedOnes_14 ?_
      refine ce_X8_73 dX8_ruinedOnes_15 rfl (k_X8_isRuined_2 g P ta tb o0 o1 x ra up f0 su nn wk ki we ow fr of i hn (by omega)) ?_
      refine ce_X8_76 dX8_ruinedOnes_18 (k_X9_oneIf _ _) ?_
      refine aw_iadd dX8_ruinedOnes_21 ?_
      refine aw_istore_1 dX8_ruinedOnes_22 rfl (Nat.le_of_ble_eq_true rfl) ?_
      refine aw_iincN_2 dX8_ruinedOnes_23 rfl (Nat.le_of_ble_eq_true rfl) ?_
      refine aw_goto 4 dX8_ruinedOnes_26 (by decide) ?_
      exact ih (i + 1) (by omega)
  exact loop nn 0 (by omega)
theorem k_X8_allOwed_2 (g : Nat × Int32) (P : pg_T) (ta tb : tw_T) (o0 o1 : of_T) (x : sc_T) (ra up f0 su nn : Nat) (wk : Int32) (ki we ow fr of : Nat → Nat) (hn : nn ≤ 5) : AM 3 yX8_allOwed cX8_allOwed 3 (some .int) [.ref 25] (cw_C g P ta tb (ra, up, f0, su, nn, wk, ki, we, ow, fr, of) o0 o1 x) (ac_R (some (.int (nI (al_N nn ow)))) (cw_C g P ta tb (ra, up, f0, su, nn, wk, ki, we, ow, fr, of) o0 o1 x)) := by
  refine AM.of (loc := [.ref 25, .null, .null]) RX8 rfl (by decide +kernel) (Nat.le_of_ble_eq_true rfl) rfl ?_
  refine akN_iconst_0 dX8_allOwed_0 ?_
  refine aw_istore_1 dX8_allOwed_1 rfl (Nat.le_of_ble_eq_true rfl) ?_
  refine akN_iconst_0 dX8_allOwed_2 ?_
  refine aw_istore_2 dX8_allOwed_3 rfl (Nat.le_of_ble_eq_true rfl) ?_
  have loop : ∀ k i, i + k = nn → AW 3 RX8 cX8_allOwed 3 (some .int) 41 (ac_R (some (.int (nI (al_N nn ow)))) (cw_C g P ta tb (ra, up, f0, su, nn, wk, ki, we, ow, fr, of) o0 o1 x)) 4 [.ref 25, .int (nI (fb_sm (fun p => fb_sm (fun q => ow (5 * p + q)) nn) i)), .int (nI i)] [] (cw_C g P ta tb (ra, up, f0, su, nn, wk, ki, we, ow, fr, of) o0 o1 x) := by
    intro k
    induction k with
    | zero =>
      intro i hi
      refine aw_iload_2 dX8_allOwed_4 ?_
      refine aw_aload_0 dX8_allOwed_5 ?_
      refine gf_X8_44 dX8_allOwed_6 rfl rfl ?_
      refine aw_icmp_geN 26 dX8_allOwed_9 (by decide) (by omega) (by omega) (fun _ => ?_) (fun hh => absurd hh (by omega))
      refine aw_iload_1 dX8_allOwed_26 ?_
      obtain rfl : i = nn := by omega
      exact aw_iret dX8_allOwed_27 rfl (⟨rfl, rfl⟩)
    | succ k ih =>
      intro i hi
      refine aw_iload_2 dX8_allOwed_4 ?_
      refine aw_aload_0 dX8_allOwed_5 ?_
      refine gf_X8_44 dX8_allOwed_6 rfl rfl ?_
      refine aw_icmp_geN 26 dX8_allOwed_9 (by decide) (by omega) (by omega) (fun hh => absurd hh (by omega)) (fun _ => ?_)
      refine aw_iload_1 dX8_allOwed_12 ?_
      refine aw_aload_0 dX8_allOwed_13 ?_
      refine aw_iload_2 dX8_allOwed_14 ?_
      refine ce_X8_67 dX8_allOwed_15 rfl (k_X8_owedBy_2 g P ta tb o0 o1 x ra up f0 su nn wk ki we ow fr of i hn (by omega)) ?_
      refine aw_iaddN dX8_allOwed_18 ?_
      refine aw_istore_1 dX8_allOwed_19 rfl (Nat.le_of_ble_eq_true rfl) ?_
      refine aw_iincN_2 dX8_allOwed_20 rfl (Nat.le_of_ble_eq_true rfl) ?_
      refine aw_goto 4 dX8_allOwed_23 (by decide) ?_
      exact ih (i + 1) (by omega)
  exact loop nn 0 (by omega)
theorem k_X8_passWeek_2 (g : Nat × Int32) (P : pg_T) (ta tb : tw_T) (o0 o1 : of_T) (x : sc_T) (ra up f0 su nn : Nat) (wk : Int32) (ki we ow fr of : Nat → Nat) (hok : ok_T (ra, up, f0, su, nn, wk, ki, we, ow, fr, of)) : AM 3 yX8_passWeek cX8_passWeek 4 (some .int) [.ref 25] (cw_C g P ta tb (ra, up, f0, su, nn, wk, ki, we, ow, fr, of) o0 o1 x) (ac_R (some (.int (gs_I nn ra up ki ow fr))) (cw_C g P ta tb (ra, up, f0, su, nn, wk + 1, ki, we, wO_N nn ra up ki ow fr, wM_N nn fr, wM_N nn of) o0 o1 x)) := by
  obtain ⟨hra, hu, hf0, hsu, hn, hki, hwe, how, hfr, hof⟩ := hok
  refine AM.of (loc := [.ref 25, .null, .null, .null]) RX8 rfl (by decide +kernel) (Nat.le_of_ble_eq_true rfl) rfl ?_
  refine ak_iconst_0 dX8_passWeek_0 ?_
  refine aw_istore_1 dX8_passWeek_1 rfl (Nat.le_of_ble_eq_true rfl) ?_
  refine akN_iconst_0 dX8_passWeek_2 ?_
  refine aw_istore_2 dX8_passWeek_3 rfl (Nat.le_of_ble_eq_true rfl) ?_
  have hpt : ∀ (f gg : Nat → Nat) (c j k : Nat), (∀ k, f k ≤ c) → (∀ k, gg k ≤ c) → pt_N j f gg k ≤ c := by
    intro f gg c j k h1 h2
    unfold pt_N
    split
    · exact h2 k
    · exact h1 k
  have hO : ∀ k, wO_N nn ra up ki ow fr k ≤ 9999 := by
    intro k
    unfold wO_N nw_N
    split
    · split
      · exact gr_le _ _ _
      · exact how k
    · exact how k
  have hM : ∀ (f : Nat → Nat) (k : Nat), (∀ k, f k ≤ 9) → wM_N nn f k ≤ 9 := by
    intro f k h
    unfold wM_N
    have := h k
    split <;> omega
  have outer : ∀ m p, p + m = nn → AW 3 RX8 cX8_passWeek 4 (some .int) 41 (ac_R (some (.int (gs_I nn ra up ki ow fr))) (cw_C g P ta tb (ra, up, f0, su, nn, wk + 1, ki, we, wO_N nn ra up ki ow fr, wM_N nn fr, wM_N nn of) o0 o1 x)) 4 [.ref 25, .int (si_I (fun p => si_I (fun q => nI (wO_N nn ra up ki ow fr (5 * p + q)) - nI (ow (5 * p + q))) nn) p), .int (nI p), .null] [] (cw_C g P ta tb (ra, up, f0, su, nn, wk, ki, we, pt_N (5 * p) ow (wO_N nn ra up ki ow fr), pt_N (5 * p) fr (wM_N nn fr), pt_N (5 * p) of (wM_N nn of)) o0 o1 x) ∧ (∀ jk : Value, jk.category = 1 → AW 3 RX8 cX8_passWeek 4 (some .int) 41 (ac_R (some (.int (gs_I nn ra up ki ow fr))) (cw_C g P ta tb (ra, up, f0, su, nn, wk + 1, ki, we, wO_N nn ra up ki ow fr, wM_N nn fr, wM_N nn of) o0 o1 x)) 4 [.ref 25, .int (si_I (fun p => si_I (fun q => nI (wO_N nn ra up ki ow fr (5 * p + q)) - nI (ow (5 * p + q))) nn) p), .int (nI p), jk] [] (cw_C g P ta tb (ra, up, f0, su, nn, wk, ki, we, pt_N (5 * p) ow (wO_N nn ra up ki ow fr), pt_N (5 * p) fr (wM_N nn fr), pt_N (5 * p) of (wM_N nn of)) o0 o1 x)) := by
    intro m
    induction m with
    | zero =>
      intro p hp
      have key : ∀ jk : Value, jk.category = 1 → AW 3 RX8 cX8_passWeek 4 (some .int) 41 (ac_R (some (.int (gs_I nn ra up ki ow fr))) (cw_C g P ta tb (ra, up, f0, su, nn, wk + 1, ki, we, wO_N nn ra up ki ow fr, wM_N nn fr, wM_N nn of) o0 o1 x)) 4 [.ref 25, .int (si_I (fun p => si_I (fun q => nI (wO_N nn ra up ki ow fr (5 * p + q)) - nI (ow (5 * p + q))) nn) p), .int (nI p), jk] [] (cw_C g P ta tb (ra, up, f0, su, nn, wk, ki, we, pt_N (5 * p) ow (wO_N nn ra up ki ow fr), pt_N (5 * p) fr (wM_N nn fr), pt_N (5 * p) of (wM_N nn of)) o0 o1 x) := by
        intro jk hjk
        obtain rfl : p = nn := by omega
        rw [pt_all ow (wO_N p ra up ki ow fr) (fun k hk => if_neg (fun q => by omega)), pt_all fr (wM_N p fr) (fun k hk => if_neg (fun q => by omega)), pt_all of (wM_N p of) (fun k hk => if_neg (fun q => by omega))]
        refine aw_iload_2 dX8_passWeek_4 ?_
        refine aw_aload_0 dX8_passWeek_5 ?_
        refine gf_X8_44 dX8_passWeek_6 rfl rfl ?_
        refine aw_icmp_geN 43 dX8_passWeek_9 (by decide) (by omega) (by omega) (fun _ => ?_) (fun hh => absurd hh (by omega))
        refine aw_aload_0 dX8_passWeek_43 ?_
        refine aw_dup dX8_passWeek_44 rfl ?_
        refine gf_X8_48 dX8_passWeek_45 rfl rfl ?_
        refine ak_iconst_1 dX8_passWeek_48 ?_
        refine aw_iadd dX8_passWeek_49 ?_
        refine pf_X8_48 dX8_passWeek_50 rfl (Nat.le_of_ble_eq_true rfl) ?_
        refine aw_w cs_25_7 ?_
        refine aw_iload_1 dX8_passWeek_53 ?_
        exact aw_iret dX8_passWeek_54 rfl (⟨rfl, rfl⟩)
      exact ⟨key .null rfl, key⟩
    | succ m ih =>
      intro p hp
      have inner : ∀ k q, q + k = nn → AW 3 RX8 cX8_passWeek 4 (some .int) 41 (ac_R (some (.int (gs_I nn ra up ki ow fr))) (cw_C g P ta tb (ra, up, f0, su, nn, wk + 1, ki, we, wO_N nn ra up ki ow fr, wM_N nn fr, wM_N nn of) o0 o1 x)) 14 [.ref 25, .int (si_I (fun p => si_I (fun q => nI (wO_N nn ra up ki ow fr (5 * p + q)) - nI (ow (5 * p + q))) nn) p + si_I (fun q => nI (wO_N nn ra up ki ow fr (5 * p + q)) - nI (ow (5 * p + q))) q), .int (nI p), .int (nI q)] [] (cw_C g P ta tb (ra, up, f0, su, nn, wk, ki, we, pt_N (5 * p + q) ow (wO_N nn ra up ki ow fr), pt_N (5 * p + q) fr (wM_N nn fr), pt_N (5 * p + q) of (wM_N nn of)) o0 o1 x) := by
        intro k
        induction k with
        | zero =>
          intro q hq
          obtain rfl : q = nn := by omega
          refine aw_iload_3 dX8_passWeek_14 ?_
          refine aw_aload_0 dX8_passWeek_15 ?_
          refine gf_X8_44 dX8_passWeek_16 rfl rfl ?_
          refine aw_icmp_geN 37 dX8_passWeek_19 (by decide) (by omega) (by omega) (fun _ => ?_) (fun hh => absurd hh (by omega))
          refine aw_iincN_2 dX8_passWeek_37 rfl (Nat.le_of_ble_eq_true rfl) ?_
          refine aw_goto 4 dX8_passWeek_40 (by decide) ?_
          rw [pt_skip ow (wO_N q ra up ki ow fr) (show 5 * p + q ≤ 5 * (p + 1) by omega) (fun k h1 h2 => if_neg (fun z => by omega)), pt_skip fr (wM_N q fr) (show 5 * p + q ≤ 5 * (p + 1) by omega) (fun k h1 h2 => if_neg (fun z => by omega)), pt_skip of (wM_N q of) (show 5 * p + q ≤ 5 * (p + 1) by omega) (fun k h1 h2 => if_neg (fun z => by omega))]
          exact (ih (p + 1) (by omega)).2 _ rfl
        | succ k ihk =>
          intro q hq
          have e1 : nw_N ra up ki (pt_N (5 * p + q) ow (wO_N nn ra up ki ow fr)) (pt_N (5 * p + q) fr (wM_N nn fr)) (5 * p + q) = wO_N nn ra up ki ow fr (5 * p + q) := by
            rw [wO_dom (by omega) (by omega) hn]
            unfold nw_N
            rw [pt_at, pt_at]
          refine aw_iload_3 dX8_passWeek_14 ?_
          refine aw_aload_0 dX8_passWeek_15 ?_
          refine gf_X8_44 dX8_passWeek_16 rfl rfl ?_
          refine aw_icmp_geN 37 dX8_passWeek_19 (by decide) (by omega) (by omega) (fun hh => absurd hh (by omega)) (fun _ => ?_)
          refine aw_iload_1 dX8_passWeek_22 ?_
          refine aw_aload_0 dX8_passWeek_23 ?_
          refine aw_iload_2 dX8_passWeek_24 ?_
          refine aw_iload_3 dX8_passWeek_25 ?_
          refine ce_X8_103 dX8_passWeek_26 rfl (k_X8_passPairWeek_2 g P ta tb o0 o1 x ra up f0 su nn wk ki we (pt_N (5 * p + q) ow (wO_N nn ra up ki ow fr)) (pt_N (5 * p + q) fr (wM_N nn fr)) (pt_N (5 * p + q) of (wM_N nn of)) p q (by omega) (by omega) hra hu (hki p) (hki q) (hpt _ _ _ _ _ how hO) (hpt _ _ _ _ _ hfr (fun k => hM fr k hfr)) (hpt _ _ _ _ _ hof (fun k => hM of k hof))) ?_
          rw [e1, pt_at ow, pt_at fr, pt_at of, pt_up ow _ _ _ rfl, pt_up fr _ _ _ (wM_dom (by omega) (by omega) hn).symm, pt_up of _ _ _ (wM_dom (by omega) (by omega) hn).symm]
          refine aw_iadd dX8_passWeek_29 ?_
          refine aw_topi (Int32.add_assoc _ _ _) ?_
          refine aw_istore_1 dX8_passWeek_30 rfl (Nat.le_of_ble_eq_true rfl) ?_
          refine aw_iincN_3 dX8_passWeek_31 rfl (Nat.le_of_ble_eq_true rfl) ?_
          refine aw_goto 14 dX8_passWeek_34 (by decide) ?_
          exact ihk (q + 1) (by omega)
      have key : ∀ jk : Value, jk.category = 1 → AW 3 RX8 cX8_passWeek 4 (some .int) 41 (ac_R (some (.int (gs_I nn ra up ki ow fr))) (cw_C g P ta tb (ra, up, f0, su, nn, wk + 1, ki, we, wO_N nn ra up ki ow fr, wM_N nn fr, wM_N nn of) o0 o1 x)) 4 [.ref 25, .int (si_I (fun p => si_I (fun q => nI (wO_N nn ra up ki ow fr (5 * p + q)) - nI (ow (5 * p + q))) nn) p), .int (nI p), jk] [] (cw_C g P ta tb (ra, up, f0, su, nn, wk, ki, we, pt_N (5 * p) ow (wO_N nn ra up ki ow fr), pt_N (5 * p) fr (wM_N nn fr), pt_N (5 * p) of (wM_N nn of)) o0 o1 x) := by
        intro jk hjk
        refine aw_iload_2 dX8_passWeek_4 ?_
        refine aw_aload_0 dX8_passWeek_5 ?_
        refine gf_X8_44 dX8_passWeek_6 rfl rfl ?_
        refine aw_icmp_geN 43 dX8_passWeek_9 (by decide) (by omega) (by omega) (fun hh => absurd hh (by omega)) (fun _ => ?_)
        refine akN_iconst_0 dX8_passWeek_12 ?_
        refine aw_istore_3 dX8_passWeek_13 rfl (Nat.le_of_ble_eq_true rfl) ?_
        refine aw_st ?_ rfl rfl (inner nn 0 (by omega))
        show [_, Value.int _, _, _] = [_, Value.int (_ + 0), _, _]
        rw [Int32.add_zero]
      exact ⟨key .null rfl, key⟩
  have h := (outer nn 0 (by omega)).1
  rw [pt_0, pt_0, pt_0] at h
  exact h
