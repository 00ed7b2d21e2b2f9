/-! ===== the reference: what would be ===== -/
/-- two rows one behind the other -/
def jn_N (m : Nat) (f g : Nat → Nat) : Nat → Nat := fun k => if k < m then f k else g (k - m)
theorem jn_lo {m k : Nat} (f g : Nat → Nat) (h : k < m) : jn_N m f g k = f k := if_pos h
theorem jn_hi (m k : Nat) (f g : Nat → Nat) : jn_N m f g (m + k) = g k := by
  unfold jn_N
  rw [if_neg (by omega), Nat.add_sub_cancel_left]
theorem sh_jn (m : Nat) (f g : Nat → Nat) : sh_N m (jn_N m f g) = g := funext fun k => jn_hi m k f g
theorem jn_up1 {m k : Nat} (f g : Nat → Nat) (v : Nat) (h : k < m) : va_up (jn_N m f g) k v = jn_N m (va_up f k v) g := by
  funext j
  by_cases e : j = k
  · subst e
    rw [up_at, jn_lo _ _ h, up_at]
  · rw [up_ne e]
    by_cases q : j < m
    · rw [jn_lo _ _ q, jn_lo _ _ q, up_ne e]
    · unfold jn_N
      rw [if_neg q, if_neg q]
theorem jn_up2 (m k : Nat) (f g : Nat → Nat) (v : Nat) : va_up (jn_N m f g) (m + k) v = jn_N m f (va_up g k v) := by
  funext j
  by_cases e : j = m + k
  · subst e
    rw [up_at, jn_hi, up_at]
  · rw [up_ne e]
    unfold jn_N
    by_cases q : j < m
    · rw [if_pos q, if_pos q]
    · rw [if_neg q, if_neg q, up_ne (by omega)]
theorem pb_jn {f g G : Nat → Nat} (h : ∀ k, 25 ≤ k → G k = g k) : pb_N 25 25 (jn_N 25 f g) G = jn_N 25 f G := by
  funext k
  unfold pb_N jn_N
  by_cases q : k < 25
  · rw [if_neg (by omega), if_pos q, if_pos q]
  · rw [if_neg q]
    by_cases r : k < 25 + 25
    · rw [if_pos (by omega), if_neg q]
    · rw [if_neg (by omega), if_neg q, h _ (by omega)]
theorem wO_hi {nn ra up : Nat} {ki ow fr : Nat → Nat} (hn : nn ≤ 5) {k : Nat} (hk : 25 ≤ k) : wO_N nn ra up ki ow fr k = ow k := if_neg (by omega)
theorem wM_hi {nn : Nat} {f : Nat → Nat} (hn : nn ≤ 5) {k : Nat} (hk : 25 ≤ k) : wM_N nn f k = f k := if_neg (by omega)
/-- what a week makes of the three rows -/
def as_A (nn ra up : Nat) (ki : Nat → Nat) (A : (Nat → Nat) × (Nat → Nat) × (Nat → Nat)) : (Nat → Nat) × (Nat → Nat) × (Nat → Nat) := (wO_N nn ra up ki A.1 A.2.1, wM_N nn A.2.1, wM_N nn A.2.2)
def ai_A (nn ra up : Nat) (ki : Nat → Nat) (A : (Nat → Nat) × (Nat → Nat) × (Nat → Nat)) : Nat → (Nat → Nat) × (Nat → Nat) × (Nat → Nat)
  | 0 => A
  | k + 1 => as_A nn ra up ki (ai_A nn ra up ki A k)
theorem it_A (ra up f0 su nn : Nat) (wk : Int32) (ki we ow fr of : Nat → Nat) : ∀ k, ∃ wk2 : Int32, it_T (ra, up, f0, su, nn, wk, ki, we, ow, fr, of) k = (ra, up, f0, su, nn, wk2, ki, we, (ai_A nn ra up ki (ow, fr, of) k).1, (ai_A nn ra up ki (ow, fr, of) k).2.1, (ai_A nn ra up ki (ow, fr, of) k).2.2)
  | 0 => ⟨wk, rfl⟩
  | k + 1 => by
    obtain ⟨wk2, h⟩ := it_A ra up f0 su nn wk ki we ow fr of k
    exact ⟨wk2 + 1, by rw [it_T, h]; rfl⟩
theorem k_goWeek_2 (rd : Int32) (pl : Nat) (pc : Nat → Nat) (ra up f0 su nn : Nat) (wk : Int32) (ki we ow fr of : Nat → Nat) (oc : Nat) (oa ob os : Nat → Nat) (K : mk_T) (x : ms_T) (w2 o2 f2 x2 : Nat → Nat) (wz : Int32) (hok : ok_T (ra, up, f0, su, nn, wz, ki, w2, o2, f2, x2)) : AM 3 yX10_goWeek cX10_goWeek 7 (some .int) [.ref 0, .int (nI 25)] (mw_M (rd, (pl, pc), (ra, up, f0, su, nn, wk), ki, (jn_N 5 we w2, jn_N 25 ow o2, jn_N 25 fr f2, jn_N 25 of x2), (oc, oa, ob, os)) K x) (fun r w' => (∃ v : Int32, r = some (.int v)) ∧ w' = (mw_M (rd, (pl, pc), (ra, up, f0, su, nn, wk), ki, (jn_N 5 we w2, jn_N 25 ow (wO_N nn ra up ki o2 f2), jn_N 25 fr (wM_N nn f2), jn_N 25 of (wM_N nn x2)), (oc, oa, ob, os)) K x)) := by
  obtain ⟨hra, hu, hf0, hsu, hn, hki, hwe, how, hfr, hof⟩ := hok
  have h := k_X10_goWeek rd pl pc ra up f0 su nn wk ki (jn_N 5 we w2) (jn_N 25 ow o2) (jn_N 25 fr f2) (jn_N 25 of x2) oc oa ob os K x 25 (by omega) hra hu hn (fun k _ => hki k) (fun k _ => by rw [jn_hi]; exact how k) (fun k _ => by rw [jn_hi]; exact hfr k) (fun k _ => by rw [jn_hi]; exact hof k)
  rw [sh_jn, sh_jn, sh_jn, pb_jn (fun k hk => wO_hi hn hk), pb_jn (fun k hk => wM_hi hn hk), pb_jn (fun k hk => wM_hi hn hk)] at h
  exact AM.wk h (fun r w' q => ⟨⟨_, q.1⟩, q.2⟩)
theorem k_X10_copy (rd : Int32) (pl : Nat) (pc : Nat → Nat) (ra up f0 su nn : Nat) (wk : Int32) (ki we ow fr of : Nat → Nat) (oc : Nat) (oa ob os : Nat → Nat) (K : mk_T) (x : ms_T) (w2 o2 f2 x2 : Nat → Nat) : AM 1 yX10_copy cX10_copy 2 none [.ref 0] (mw_M (rd, (pl, pc), (ra, up, f0, su, nn, wk), ki, (jn_N 5 we w2, jn_N 25 ow o2, jn_N 25 fr f2, jn_N 25 of x2), (oc, oa, ob, os)) K x) (ac_R none (mw_M (rd, (pl, pc), (ra, up, f0, su, nn, wk), ki, (jn_N 5 we we, jn_N 25 ow ow, jn_N 25 fr fr, jn_N 25 of of), (oc, oa, ob, os)) K x)) := by
  refine AM.of (loc := [.ref 0, .null]) RX10 rfl (by decide +kernel) (Nat.le_of_ble_eq_true rfl) rfl ?_
  refine akN_iconst_0 dX10_copy_0 ?_
  refine aw_istore_1 dX10_copy_1 rfl (Nat.le_of_ble_eq_true rfl) ?_
  have loop2 : ∀ m j, j + m = 25 → ∀ O F X : Nat → Nat, (∀ k, k < 25 → O k = ow k) → (∀ k, k < j → O (25 + k) = ow k) → (∀ k, k < 25 → F k = fr k) → (∀ k, k < j → F (25 + k) = fr k) → (∀ k, k < 25 → X k = of k) → (∀ k, k < j → X (25 + k) = of k) → AW 1 RX10 cX10_copy 2 none 18 (ac_R none (mw_M (rd, (pl, pc), (ra, up, f0, su, nn, wk), ki, (jn_N 5 we we, jn_N 25 ow ow, jn_N 25 fr fr, jn_N 25 of of), (oc, oa, ob, os)) K x)) 29 [.ref 0, .int (nI j)] [] (mw_M (rd, (pl, pc), (ra, up, f0, su, nn, wk), ki, (jn_N 5 we we, O, F, X), (oc, oa, ob, os)) K x) := by
    intro m
    induction m with
    | zero =>
      intro j hj O F X h1 h2 h3 h4 h5 h6
      obtain rfl : j = 25 := by omega
      have key : ∀ (A B : Nat → Nat), (∀ k, k < 25 → A k = B k) → (∀ k, k < 25 → A (25 + k) = B k) → ∀ k, k < 50 → nI (A k) = nI (jn_N 25 B B k) := by
        intro A B q1 q2 k hk
        by_cases r : k < 25
        · rw [jn_lo B B r, q1 k r]
        · have e : k = 25 + (k - 25) := by omega
          rw [e, jn_hi, q2 _ (by omega)]
      refine aw_iload_1 dX10_copy_29 ?_
      refine akN_bipush_25 dX10_copy_30 ?_
      refine aw_icmp_geN 86 dX10_copy_32 (by decide) (by omega) (by omega) (fun _ => ?_) (fun hh => absurd hh (by omega))
      refine aw_arr (id := 3) (g := fun k => nI (jn_N 25 ow ow k)) rfl (key O ow h1 h2) ?_
      refine aw_w cm_3 ?_
      refine aw_arr (id := 4) (g := fun k => nI (jn_N 25 fr fr k)) rfl (key F fr h3 h4) ?_
      refine aw_w cm_4 ?_
      refine aw_arr (id := 5) (g := fun k => nI (jn_N 25 of of k)) rfl (key X of h5 h6) ?_
      refine aw_w cm_5 ?_
      exact aw_vret dX10_copy_86 rfl (⟨rfl, rfl⟩)
    | succ m ih =>
      intro j hj O F X h1 h2 h3 h4 h5 h6
      have step : ∀ (A B : Nat → Nat), (∀ k, k < 25 → A k = B k) → (∀ k, k < j → A (25 + k) = B k) → (∀ k, k < 25 → va_up A (25 + j) (A j) k = B k) ∧ (∀ k, k < j + 1 → va_up A (25 + j) (A j) (25 + k) = B k) := by
        intro A B q1 q2
        refine ⟨fun k hk => by rw [up_ne (by omega)]; exact q1 k hk, fun k hk => ?_⟩
        by_cases e : k = j
        · subst e; rw [up_at]; exact q1 k (by omega)
        · rw [up_ne (by omega)]; exact q2 k (by omega)
      refine aw_iload_1 dX10_copy_29 ?_
      refine akN_bipush_25 dX10_copy_30 ?_
      refine aw_icmp_geN 86 dX10_copy_32 (by decide) (by omega) (by omega) (fun hh => absurd hh (by omega)) (fun _ => ?_)
      refine aw_aload_0 dX10_copy_35 ?_
      refine gf_X10_23 dX10_copy_36 rfl rfl ?_
      refine akN_bipush_25 dX10_copy_39 ?_
      refine aw_iload_1 dX10_copy_41 ?_
      refine aw_iaddN dX10_copy_42 ?_
      refine aw_aload_0 dX10_copy_43 ?_
      refine gf_X10_23 dX10_copy_44 rfl rfl ?_
      refine aw_iload_1 dX10_copy_47 ?_
      refine aw_ialdN dX10_copy_48 rfl (by omega) ?_
      refine aw_iastN dX10_copy_49 rfl (by omega) ?_
      refine aw_w cm_3 ?_
      refine aw_aload_0 dX10_copy_50 ?_
      refine gf_X10_26 dX10_copy_51 rfl rfl ?_
      refine akN_bipush_25 dX10_copy_54 ?_
      refine aw_iload_1 dX10_copy_56 ?_
      refine aw_iaddN dX10_copy_57 ?_
      refine aw_aload_0 dX10_copy_58 ?_
      refine gf_X10_26 dX10_copy_59 rfl rfl ?_
      refine aw_iload_1 dX10_copy_62 ?_
      refine aw_ialdN dX10_copy_63 rfl (by omega) ?_
      refine aw_iastN dX10_copy_64 rfl (by omega) ?_
      refine aw_w cm_4 ?_
      refine aw_aload_0 dX10_copy_65 ?_
      refine gf_X10_29 dX10_copy_66 rfl rfl ?_
      refine akN_bipush_25 dX10_copy_69 ?_
      refine aw_iload_1 dX10_copy_71 ?_
      refine aw_iaddN dX10_copy_72 ?_
      refine aw_aload_0 dX10_copy_73 ?_
      refine gf_X10_29 dX10_copy_74 rfl rfl ?_
      refine aw_iload_1 dX10_copy_77 ?_
      refine aw_ialdN dX10_copy_78 rfl (by omega) ?_
      refine aw_iastN dX10_copy_79 rfl (by omega) ?_
      refine aw_w cm_5 ?_
      refine aw_iincN_1 dX10_copy_80 rfl (Nat.le_of_ble_eq_true rfl) ?_
      refine aw_goto 29 dX10_copy_83 (by decide) ?_
      exact ih (j + 1) (by omega) _ _ _ (step O ow h1 h2).1 (step O ow h1 h2).2 (step F fr h3 h4).1 (step F fr h3 h4).2 (step X of h5 h6).1 (step X of h5 h6).2
  have loop1 : ∀ m j, j + m = 5 → ∀ W : Nat → Nat, (∀ k, k < 5 → W k = we k) → (∀ k, k < j → W (5 + k) = we k) → AW 1 RX10 cX10_copy 2 none 18 (ac_R none (mw_M (rd, (pl, pc), (ra, up, f0, su, nn, wk), ki, (jn_N 5 we we, jn_N 25 ow ow, jn_N 25 fr fr, jn_N 25 of of), (oc, oa, ob, os)) K x)) 2 [.ref 0, .int (nI j)] [] (mw_M (rd, (pl, pc), (ra, up, f0, su, nn, wk), ki, (W, jn_N 25 ow o2, jn_N 25 fr f2, jn_N 25 of x2), (oc, oa, ob, os)) K x) := by
    intro m
    induction m with
    | zero =>
      intro j hj W h1 h2
      obtain rfl : j = 5 := by omega
      refine aw_iload_1 dX10_copy_2 ?_
      refine akN_iconst_5 dX10_copy_3 ?_
      refine aw_icmp_geN 27 dX10_copy_4 (by decide) (by omega) (by omega) (fun _ => ?_) (fun hh => absurd hh (by omega))
      refine akN_iconst_0 dX10_copy_27 ?_
      refine aw_istore_1 dX10_copy_28 rfl (Nat.le_of_ble_eq_true rfl) ?_
      refine aw_arr (id := 2) (g := fun k => nI (jn_N 5 we we k)) rfl (fun k hk => ?_) ?_
      · by_cases r : k < 5
        · rw [jn_lo we we r, h1 k r]
        · have e : k = 5 + (k - 5) := by omega
          rw [e, jn_hi, h2 _ (by omega)]
      refine aw_w cm_2 ?_
      exact loop2 25 0 (by omega) _ _ _ (fun k hk => jn_lo _ _ hk) (fun k hk => absurd hk (by omega)) (fun k hk => jn_lo _ _ hk) (fun k hk => absurd hk (by omega)) (fun k hk => jn_lo _ _ hk) (fun k hk => absurd hk (by omega))
    | succ m ih =>
      intro j hj W h1 h2
      refine aw_iload_1 dX10_copy_2 ?_
      refine akN_iconst_5 dX10_copy_3 ?_
      refine aw_icmp_geN 27 dX10_copy_4 (by decide) (by omega) (by omega) (fun hh => absurd hh (by omega)) (fun _ => ?_)
      refine aw_aload_0 dX10_copy_7 ?_
      refine gf_X10_20 dX10_copy_8 rfl rfl ?_
      refine akN_iconst_5 dX10_copy_11 ?_
      refine aw_iload_1 dX10_copy_12 ?_
      refine aw_iaddN dX10_copy_13 ?_
      refine aw_aload_0 dX10_copy_14 ?_
      refine gf_X10_20 dX10_copy_15 rfl rfl ?_
      refine aw_iload_1 dX10_copy_18 ?_
      refine aw_ialdN dX10_copy_19 rfl (by omega) ?_
      refine aw_iastN dX10_copy_20 rfl (by omega) ?_
      refine aw_w cm_2 ?_
      refine aw_iincN_1 dX10_copy_21 rfl (Nat.le_of_ble_eq_true rfl) ?_
      refine aw_goto 2 dX10_copy_24 (by decide) ?_
      refine ih (j + 1) (by omega) _ (fun k hk => by rw [up_ne (by omega)]; exact h1 k hk) (fun k hk => ?_)
      by_cases e : k = j
      · subst e; rw [up_at]; exact h1 k (by omega)
      · rw [up_ne (by omega)]; exact h2 k (by omega)
  exact loop1 5 0 (by omega) _ (fun k hk => jn_lo _ _ hk) (fun k hk => absurd hk (by omega))
theorem rn_keep {t : tw_T} {p k : Nat} (hk : k < 2147483648) {m : Nat} (h : rn_I t p m = nI k) : ∀ j, rn_I t p (m + j) = nI k
  | 0 => h
  | j + 1 => by
    have ih := rn_keep hk h j
    show rn_I t p (m + j + 1) = nI k
    rw [rn_I, if_neg (fun q => ni_m1 hk (ih.symm.trans q.1)), ih]
theorem k_X10_ruinNow (rd : Int32) (pl : Nat) (pc : Nat → Nat) (ra up f0 su nn : Nat) (wk : Int32) (ki we ow fr of : Nat → Nat) (oc : Nat) (oa ob os : Nat → Nat) (K : mk_T) (x : ms_T) (w2 o2 f2 x2 : Nat → Nat) (p : Nat) (hp : p < 5) (hok : ok_T (ra, up, f0, su, nn, wk, ki, we, ow, fr, of)) : AM 4 yX10_ruinNow cX10_ruinNow 3 (some .int) [.ref 0, .int (nI p)] (mw_M (rd, (pl, pc), (ra, up, f0, su, nn, wk), ki, (jn_N 5 we w2, jn_N 25 ow o2, jn_N 25 fr f2, jn_N 25 of x2), (oc, oa, ob, os)) K x) (fun r w' => r = some (.int (rn_I (ra, up, f0, su, nn, wk, ki, we, ow, fr, of) p 41)) ∧ ∃ w2 o2 f2 x2 : Nat → Nat, w' = (mw_M (rd, (pl, pc), (ra, up, f0, su, nn, wk), ki, (jn_N 5 we w2, jn_N 25 ow o2, jn_N 25 fr f2, jn_N 25 of x2), (oc, oa, ob, os)) K x)) := by
  have hn : nn ≤ 5 := hok.2.2.2.2.1
  refine AM.of (loc := [.ref 0, .int (nI p), .null]) RX10 rfl (by decide +kernel) (Nat.le_of_ble_eq_true rfl) rfl ?_
  refine aw_aload_0 dX10_ruinNow_0 ?_
  refine ce_X10_151 dX10_ruinNow_1 rfl (k_X10_copy rd pl pc ra up f0 su nn wk ki we ow fr of oc oa ob os K x w2 o2 f2 x2) ?_
  refine akN_iconst_0 dX10_ruinNow_4 ?_
  refine aw_istore_2 dX10_ruinNow_5 rfl (Nat.le_of_ble_eq_true rfl) ?_
  have loop : ∀ k m, m + k = 41 → rn_I (ra, up, f0, su, nn, wk, ki, we, ow, fr, of) p m = -1 → AW 4 RX10 cX10_ruinNow 3 (some .int) 18 (fun r w' => r = some (.int (rn_I (ra, up, f0, su, nn, wk, ki, we, ow, fr, of) p 41)) ∧ ∃ w2 o2 f2 x2 : Nat → Nat, w' = (mw_M (rd, (pl, pc), (ra, up, f0, su, nn, wk), ki, (jn_N 5 we w2, jn_N 25 ow o2, jn_N 25 fr f2, jn_N 25 of x2), (oc, oa, ob, os)) K x)) 6 [.ref 0, .int (nI p), .int (nI m)] [] (mw_M (rd, (pl, pc), (ra, up, f0, su, nn, wk), ki, (jn_N 5 we we, jn_N 25 ow (ai_A nn ra up ki (ow, fr, of) m).1, jn_N 25 fr (ai_A nn ra up ki (ow, fr, of) m).2.1, jn_N 25 of (ai_A nn ra up ki (ow, fr, of) m).2.2), (oc, oa, ob, os)) K x) := by
    intro k
    induction k with
    | zero =>
      intro m hm h1
      obtain rfl : m = 41 := by omega
      refine aw_iload_2 dX10_ruinNow_6 ?_
      refine akN_bipush_40 dX10_ruinNow_7 ?_
      refine aw_icmp_gtN 36 dX10_ruinNow_9 (by decide) (by omega) (by omega) (fun _ => ?_) (fun hh => absurd hh (by omega))
      refine ak_iconst_m1 dX10_ruinNow_36 ?_
      exact aw_iret dX10_ruinNow_37 rfl (⟨by rw [h1], _, _, _, _, rfl⟩)
    | succ k ih =>
      intro m hm h1
      obtain ⟨wz, hz⟩ := it_A ra up f0 su nn wk ki we ow fr of m
      have hokm := ok_it hok m
      rw [hz] at hokm
      have hN := k_X10_net rd pl pc ra up f0 su nn wk ki (jn_N 5 we we) (jn_N 25 ow (ai_A nn ra up ki (ow, fr, of) m).1) (jn_N 25 fr (ai_A nn ra up ki (ow, fr, of) m).2.1) (jn_N 25 of (ai_A nn ra up ki (ow, fr, of) m).2.2) oc oa ob os K x 1 p (by omega) hp hn
      rw [show 5 * 1 = 5 from rfl, show 25 * 1 = 25 from rfl, sh_jn, sh_jn] at hN
      have e : nt_T (it_T (ra, up, f0, su, nn, wk, ki, we, ow, fr, of) m) p = nt_I nn we (ai_A nn ra up ki (ow, fr, of) m).1 p := by rw [hz]; rfl
      refine aw_iload_2 dX10_ruinNow_6 ?_
      refine akN_bipush_40 dX10_ruinNow_7 ?_
      refine aw_icmp_gtN 36 dX10_ruinNow_9 (by decide) (by omega) (by omega) (fun hh => absurd hh (by omega)) (fun _ => ?_)
      refine aw_aload_0 dX10_ruinNow_12 ?_
      refine akN_iconst_1 dX10_ruinNow_13 ?_
      refine aw_iload_1 dX10_ruinNow_14 ?_
      refine ce_X10_110 dX10_ruinNow_15 rfl (hN) ?_
      refine aw_if_ge 23 dX10_ruinNow_18 (by decide) (fun q => ?_) (fun q => ?_)
      · refine aw_aload_0 dX10_ruinNow_23 ?_
        refine akN_bipush_25 dX10_ruinNow_24 ?_
        refine ca_X10_147 dX10_ruinNow_26 rfl (k_goWeek_2 rd pl pc ra up f0 su nn wk ki we ow fr of oc oa ob os K x _ _ _ _ wz hokm) (fun r w1 hc => ?_)
        obtain ⟨⟨v, rfl⟩, rfl⟩ := hc
        refine aw_pop dX10_ruinNow_29 rfl ?_
        refine aw_iincN_2 dX10_ruinNow_30 rfl (Nat.le_of_ble_eq_true rfl) ?_
        refine aw_goto 6 dX10_ruinNow_33 (by decide) ?_
        refine ih (m + 1) (by omega) ?_
        rw [rn_I, if_neg (fun z => by have := z.2; rw [e, fa_lt] at this; rw [fa_le] at q; omega), h1]
      · have e1 : rn_I (ra, up, f0, su, nn, wk, ki, we, ow, fr, of) p (m + 1) = nI m := by
          rw [rn_I, if_pos ⟨h1, by rw [e, fa_lt]; rw [fa_le] at q; omega⟩]
        have e2 := rn_keep (show m < 2147483648 by omega) e1 (40 - m)
        rw [show m + 1 + (40 - m) = 41 by omega] at e2
        refine aw_iload_2 dX10_ruinNow_21 ?_
        exact aw_iret dX10_ruinNow_22 rfl (⟨by rw [e2], _, _, _, _, rfl⟩)
  exact loop 41 0 (by omega) rfl
theorem m_ruin_no (rd : Int32) (pl : Nat) (pc : Nat → Nat) (ra up f0 su nn : Nat) (wk : Int32) (ki we ow fr of : Nat → Nat) (oc : Nat) (oa ob os : Nat → Nat) (K : mk_T) (x : ms_T) (a : Int32) (hn : nn ≤ 5) (h : ¬ hs_P nn a) : AM 8 yX10_ruin cX10_ruin 2 (some .int) [.ref 0, .int a] (mw_M (rd, (pl, pc), (ra, up, f0, su, nn, wk), ki, (we, ow, fr, of), (oc, oa, ob, os)) K x) (ac_R (some (.int (-101))) (mw_M (rd, (pl, pc), (ra, up, f0, su, nn, wk), ki, (we, ow, fr, of), (oc, oa, ob, os)) K x)) := by
  refine AM.of (loc := [.ref 0, .int a]) RX10 rfl (by decide +kernel) (Nat.le_of_ble_eq_true rfl) rfl ?_
  refine aw_aload_0 dX10_ruin_0 ?_
  refine aw_iload_1 dX10_ruin_1 ?_
  refine ce_X10_96 dX10_ruin_2 rfl (k_X10_isPerson rd pl pc ra up f0 su nn wk ki we ow fr of oc oa ob os K x a hn) ?_
  refine aw_if_eq 16 dX10_ruin_5 (by decide) (fun _ => ?_) (fun hh => absurd (bI_f h) hh)
  refine ak_bipush_m101 dX10_ruin_16 ?_
  exact aw_iret dX10_ruin_18 rfl (⟨rfl, rfl⟩)
theorem m_ruin_ok (rd : Int32) (pl : Nat) (pc : Nat → Nat) (ra up f0 su nn : Nat) (wk : Int32) (ki we ow fr of : Nat → Nat) (oc : Nat) (oa ob os : Nat → Nat) (K : mk_T) (x : ms_T) (w2 o2 f2 x2 : Nat → Nat) (p : Nat) (hok : ok_T (ra, up, f0, su, nn, wk, ki, we, ow, fr, of)) (hp : p < nn) : AM 8 yX10_ruin cX10_ruin 2 (some .int) [.ref 0, .int (nI p)] (mw_M (rd, (pl, pc), (ra, up, f0, su, nn, wk), ki, (jn_N 5 we w2, jn_N 25 ow o2, jn_N 25 fr f2, jn_N 25 of x2), (oc, oa, ob, os)) K x) (fun r w' => r = some (.int (rn_I (ra, up, f0, su, nn, wk, ki, we, ow, fr, of) p 41)) ∧ ∃ w2 o2 f2 x2 : Nat → Nat, w' = (mw_M (rd, (pl, pc), (ra, up, f0, su, nn, wk), ki, (jn_N 5 we w2, jn_N 25 ow o2, jn_N 25 fr f2, jn_N 25 of x2), (oc, oa, ob, os)) K x)) := by
  have hn : nn ≤ 5 := hok.2.2.2.2.1
  refine AM.of (loc := [.ref 0, .int (nI p)]) RX10 rfl (by decide +kernel) (Nat.le_of_ble_eq_true rfl) rfl ?_
  refine aw_aload_0 dX10_ruin_0 ?_
  refine aw_iload_1 dX10_ruin_1 ?_
  refine ce_X10_96 dX10_ruin_2 rfl (k_X10_isPerson rd pl pc ra up f0 su nn wk ki (jn_N 5 we w2) (jn_N 25 ow o2) (jn_N 25 fr f2) (jn_N 25 of x2) oc oa ob os K x (nI p) hn) ?_
  refine aw_if_eq 16 dX10_ruin_5 (by decide) (fun hh => absurd hh (bI_n (hs_of hp (by omega)))) (fun _ => ?_)
  refine aw_aload_0 dX10_ruin_8 ?_
  refine aw_iload_1 dX10_ruin_9 ?_
  refine ca_X10_154 dX10_ruin_10 rfl (k_X10_ruinNow rd pl pc ra up f0 su nn wk ki we ow fr of oc oa ob os K x w2 o2 f2 x2 p (by omega) hok) (fun r w1 hc => ?_)
  obtain ⟨rfl, a1, a2, a3, a4, rfl⟩ := hc
  refine aw_goto 18 dX10_ruin_13 (by decide) ?_
  exact aw_iret dX10_ruin_18 rfl (⟨rfl, a1, a2, a3, a4, rfl⟩)
theorem k_X10_grownNow (rd : Int32) (pl : Nat) (pc : Nat → Nat) (ra up f0 su nn : Nat) (wk : Int32) (ki we ow fr of : Nat → Nat) (oc : Nat) (oa ob os : Nat → Nat) (K : mk_T) (x : ms_T) (z ws d c w : Nat) (hz : z ≤ 9999) (hws : ws ≤ 40) (hd : d < 5) (hc : c < 5) (hw : w ≤ 1) (hra : ra ≤ 9) (hu : up ≤ 1) (hf0 : f0 ≤ 9) : AM 3 yX10_grownNow cX10_grownNow 11 (some .int) [.ref 0, .int (nI z), .int (nI ws), .int (nI d), .int (nI c), .int (nI w)] (mw_M (rd, (pl, pc), (ra, up, f0, su, nn, wk), ki, (we, ow, fr, of), (oc, oa, ob, os)) K x) (ac_R (some (.int (if w = 0 then nI (gw_F (ig_N up (tn_N ra d c) (ws - f0)) z 99).1 else (gw_F (ig_N up (tn_N ra d c) (ws - f0)) z 99).2))) (mw_M (rd, (pl, pc), (ra, up, f0, su, nn, wk), ki, (we, ow, fr, of), (oc, oa, ob, os)) K x)) := by
  have ht := tn_le (kd := d) (kc := c) hra
  refine AM.of (loc := [.ref 0, .int (nI z), .int (nI ws), .int (nI d), .int (nI c), .int (nI w), .null, .null, .null, .null, .null]) RX10 rfl (by decide +kernel) (Nat.le_of_ble_eq_true rfl) rfl ?_
  refine akN_iconst_0 dX10_grownNow_0 ?_
  refine aw_istore_6 dX10_grownNow_1 rfl (Nat.le_of_ble_eq_true rfl) ?_
  refine ak_iconst_m1 dX10_grownNow_3 ?_
  refine aw_istore_7 dX10_grownNow_4 rfl (Nat.le_of_ble_eq_true rfl) ?_
  refine akN_bipush_99 dX10_grownNow_6 ?_
  refine aw_istore_8 dX10_grownNow_8 rfl (Nat.le_of_ble_eq_true rfl) ?_
  have loop : ∀ k n, n + k = 99 → ∀ j9 j10 : Value, AW 3 RX10 cX10_grownNow 11 (some .int) 18 (ac_R (some (.int (if w = 0 then nI (gw_F (ig_N up (tn_N ra d c) (ws - f0)) z 99).1 else (gw_F (ig_N up (tn_N ra d c) (ws - f0)) z 99).2))) (mw_M (rd, (pl, pc), (ra, up, f0, su, nn, wk), ki, (we, ow, fr, of), (oc, oa, ob, os)) K x)) 10 [.ref 0, .int (nI z), .int (nI ws), .int (nI d), .int (nI c), .int (nI w), .int (nI (gw_F (ig_N up (tn_N ra d c) (ws - f0)) z n).1), .int (gw_F (ig_N up (tn_N ra d c) (ws - f0)) z n).2, .int (nI k), j9, j10] [] (mw_M (rd, (pl, pc), (ra, up, f0, su, nn, wk), ki, (we, ow, fr, of), (oc, oa, ob, os)) K x) := by
    intro k
    induction k with
    | zero =>
      intro n hn j9 j10
      obtain rfl : n = 99 := by omega
      refine aw_iload_8 dX10_grownNow_10 ?_
      refine akN_iconst_1 dX10_grownNow_12 ?_
      refine aw_icmp_ltN 89 dX10_grownNow_13 (by decide) (by omega) (by omega) (fun _ => ?_) (fun hh => absurd hh (by omega))
      refine aw_iload_5 dX10_grownNow_89 ?_
      refine aw_if_neN 99 dX10_grownNow_91 (by decide) (by omega) (fun q => ?_) (fun q => ?_)
      · refine aw_iload_7 dX10_grownNow_99 ?_
        exact aw_iret dX10_grownNow_101 rfl (⟨by rw [if_neg q], rfl⟩)
      refine aw_iload_6 dX10_grownNow_94 ?_
      refine aw_goto 101 dX10_grownNow_96 (by decide) ?_
      exact aw_iret dX10_grownNow_101 rfl (⟨by rw [if_pos q], rfl⟩)
    | succ k ih =>
      intro n hn j9 j10
      have e99 : 99 - n = k + 1 := by omega
      have hig := ig_le (up := up) (tn := tn_N ra d c) (ws - f0) (show k + 1 ≤ 9999 by omega)
      refine aw_iload_8 dX10_grownNow_10 ?_
      refine akN_iconst_1 dX10_grownNow_12 ?_
      refine aw_icmp_ltN 89 dX10_grownNow_13 (by decide) (by omega) (by omega) (fun hh => absurd hh (by omega)) (fun _ => ?_)
      refine aw_iload_8 dX10_grownNow_16 ?_
      refine aw_istore_9 dX10_grownNow_18 rfl (Nat.le_of_ble_eq_true rfl) ?_
      refine aw_aload_0 dX10_grownNow_20 ?_
      refine gf_X10_84 dX10_grownNow_21 rfl rfl ?_
      refine aw_istore_10 dX10_grownNow_24 rfl (Nat.le_of_ble_eq_true rfl) ?_
      have inner : ∀ i m o, ws - m = i → m ≤ 1000 → o ≤ 9999 → ig_N up (tn_N ra d c) i o = ig_N up (tn_N ra d c) (ws - f0) (k + 1) → AW 3 RX10 cX10_grownNow 11 (some .int) 18 (ac_R (some (.int (if w = 0 then nI (gw_F (ig_N up (tn_N ra d c) (ws - f0)) z 99).1 else (gw_F (ig_N up (tn_N ra d c) (ws - f0)) z 99).2))) (mw_M (rd, (pl, pc), (ra, up, f0, su, nn, wk), ki, (we, ow, fr, of), (oc, oa, ob, os)) K x)) 26 [.ref 0, .int (nI z), .int (nI ws), .int (nI d), .int (nI c), .int (nI w), .int (nI (gw_F (ig_N up (tn_N ra d c) (ws - f0)) z n).1), .int (gw_F (ig_N up (tn_N ra d c) (ws - f0)) z n).2, .int (nI (k + 1)), .int (nI o), .int (nI m)] [] (mw_M (rd, (pl, pc), (ra, up, f0, su, nn, wk), ki, (we, ow, fr, of), (oc, oa, ob, os)) K x) := by
        intro i
        induction i with
        | zero =>
          intro m o hm hm1 ho he
          have he : o = ig_N up (tn_N ra d c) (ws - f0) (k + 1) := he
          refine aw_iload_10 dX10_grownNow_26 ?_
          refine aw_iload_2 dX10_grownNow_28 ?_
          refine aw_icmp_geN 52 dX10_grownNow_29 (by decide) (by omega) (by omega) (fun _ => ?_) (fun hh => absurd hh (by omega))
          refine aw_iload_6 dX10_grownNow_52 ?_
          refine aw_iload_9 dX10_grownNow_54 ?_
          refine aw_iload_1 dX10_grownNow_56 ?_
          refine aw_icmp_neN 64 dX10_grownNow_57 (by decide) (by omega) (by omega) (fun q => ?_) (fun q => ?_)
          · have e : gw_F (ig_N up (tn_N ra d c) (ws - f0)) z (n + 1) = gw_F (ig_N up (tn_N ra d c) (ws - f0)) z n := by
              rw [gw_F, e99, if_neg (by rw [← he]; exact q)]
            refine akN_iconst_0 dX10_grownNow_64 ?_
            refine aw_iaddN dX10_grownNow_65 ?_
            refine aw_istore_6 dX10_grownNow_66 rfl (Nat.le_of_ble_eq_true rfl) ?_
            refine aw_iload_9 dX10_grownNow_68 ?_
            refine aw_iload_1 dX10_grownNow_70 ?_
            refine aw_icmp_neN 79 dX10_grownNow_71 (by decide) (by omega) (by omega) (fun _ => ?_) (fun hh => absurd hh (by omega))
            refine aw_iload_7 dX10_grownNow_79 ?_
            refine aw_istore_7 dX10_grownNow_81 rfl (Nat.le_of_ble_eq_true rfl) ?_
            refine ak_iinc_8_m1 dX10_grownNow_83 rfl (Nat.le_of_ble_eq_true rfl) ?_
            refine aw_goto 10 dX10_grownNow_86 (by decide) ?_
            rw [pk_m1, Nat.add_zero, ← e]
            exact ih (n + 1) (by omega) _ _
          · have e : gw_F (ig_N up (tn_N ra d c) (ws - f0)) z (n + 1) = ((gw_F (ig_N up (tn_N ra d c) (ws - f0)) z n).1 + 1, nI (k + 1)) := by
              rw [gw_F, e99, if_pos (by rw [← he]; exact q)]
            refine akN_iconst_1 dX10_grownNow_60 ?_
            refine aw_goto 65 dX10_grownNow_61 (by decide) ?_
            refine aw_iaddN dX10_grownNow_65 ?_
            refine aw_istore_6 dX10_grownNow_66 rfl (Nat.le_of_ble_eq_true rfl) ?_
            refine aw_iload_9 dX10_grownNow_68 ?_
            refine aw_iload_1 dX10_grownNow_70 ?_
            refine aw_icmp_neN 79 dX10_grownNow_71 (by decide) (by omega) (by omega) (fun hh => absurd hh (by omega)) (fun _ => ?_)
            refine aw_iload_8 dX10_grownNow_74 ?_
            refine aw_goto 81 dX10_grownNow_76 (by decide) ?_
            refine aw_istore_7 dX10_grownNow_81 rfl (Nat.le_of_ble_eq_true rfl) ?_
            refine ak_iinc_8_m1 dX10_grownNow_83 rfl (Nat.le_of_ble_eq_true rfl) ?_
            refine aw_goto 10 dX10_grownNow_86 (by decide) ?_
            have h := ih (n + 1) (by omega)
            rw [e] at h
            rw [pk_m1]
            exact h _ _
        | succ i ihi =>
          intro m o hm hm1 ho he
          have hg := gr_le up (tn_N ra d c) o
          have hg2 : o ≤ gr_N up (tn_N ra d c) o := by unfold gr_N; split <;> omega
          refine aw_iload_10 dX10_grownNow_26 ?_
          refine aw_iload_2 dX10_grownNow_28 ?_
          refine aw_icmp_geN 52 dX10_grownNow_29 (by decide) (by omega) (by omega) (fun hh => absurd hh (by omega)) (fun _ => ?_)
          refine aw_iload_9 dX10_grownNow_32 ?_
          refine aw_aload_0 dX10_grownNow_34 ?_
          refine aw_iload_9 dX10_grownNow_35 ?_
          refine aw_iload_3 dX10_grownNow_37 ?_
          refine aw_iload_4 dX10_grownNow_38 ?_
          refine ce_X10_141 dX10_grownNow_40 rfl (k_X10_grows rd pl pc ra up f0 su nn wk ki we ow fr of oc oa ob os K x o d c ho hd hc hra hu) ?_
          refine aw_iaddN dX10_grownNow_43 ?_
          refine aw_istore_9 dX10_grownNow_44 rfl (Nat.le_of_ble_eq_true rfl) ?_
          refine aw_iincN_10 dX10_grownNow_46 rfl (Nat.le_of_ble_eq_true rfl) ?_
          refine aw_goto 26 dX10_grownNow_49 (by decide) ?_
          rw [Nat.add_sub_cancel' hg2]
          exact ihi (m + 1) _ (by omega) (by omega) hg he
      exact inner _ f0 (k + 1) rfl (by omega) (by omega) rfl
  exact loop 99 0 (by omega) _ _
theorem m_grown_out (rd : Int32) (pl : Nat) (pc : Nat → Nat) (ra up f0 su nn : Nat) (wk : Int32) (ki we ow fr of : Nat → Nat) (oc : Nat) (oa ob os : Nat → Nat) (K : mk_T) (x : ms_T) (z ws d c w : Int32) (ho : ¬ ((0 ≤ z ∧ z ≤ 9999) ∧ (0 ≤ ws ∧ ws ≤ 40) ∧ (0 ≤ d ∧ d ≤ 4) ∧ (0 ≤ c ∧ c ≤ 4) ∧ 0 ≤ w ∧ w ≤ 1)) : AM 8 yX10_grown cX10_grown 6 (some .int) [.ref 0, .int z, .int ws, .int d, .int c, .int w] (mw_M (rd, (pl, pc), (ra, up, f0, su, nn, wk), ki, (we, ow, fr, of), (oc, oa, ob, os)) K x) (ac_R (some (.int (-102))) (mw_M (rd, (pl, pc), (ra, up, f0, su, nn, wk), ki, (we, ow, fr, of), (oc, oa, ob, os)) K x)) := by
  refine AM.of (loc := [.ref 0, .int z, .int ws, .int d, .int c, .int w]) RX10 rfl (by decide +kernel) (Nat.le_of_ble_eq_true rfl) rfl ?_
  refine aw_iload_1 dX10_grown_0 ?_
  refine ak_iconst_0 dX10_grown_1 ?_
  refine ak_sipush_9999 dX10_grown_2 ?_
  refine ce_X10_69 dX10_grown_5 (k_X10_within _ z 0 9999) ?_
  by_cases h1 : 0 ≤ z ∧ z ≤ 9999
  · by_cases h2 : 0 ≤ ws ∧ ws ≤ 40
    · by_cases h3 : 0 ≤ d ∧ d ≤ 4
      · by_cases h4 : 0 ≤ c ∧ c ≤ 4
        · refine aw_if_eq 50 dX10_grown_8 (by decide) (fun hh => absurd hh (bI_n h1)) (fun _ => ?_)
          refine aw_iload_2 dX10_grown_11 ?_
          refine ak_iconst_0 dX10_grown_12 ?_
          refine ak_bipush_40 dX10_grown_13 ?_
          refine ce_X10_69 dX10_grown_15 (k_X10_within _ ws 0 40) ?_
          refine aw_if_eq 50 dX10_grown_18 (by decide) (fun hh => absurd hh (bI_n h2)) (fun _ => ?_)
          refine aw_iload_3 dX10_grown_21 ?_
          refine ak_iconst_0 dX10_grown_22 ?_
          refine ak_iconst_4 dX10_grown_23 ?_
          refine ce_X10_69 dX10_grown_24 (k_X10_within _ d 0 4) ?_
          refine aw_if_eq 50 dX10_grown_27 (by decide) (fun hh => absurd hh (bI_n h3)) (fun _ => ?_)
          refine aw_iload_4 dX10_grown_30 ?_
          refine ak_iconst_0 dX10_grown_32 ?_
          refine ak_iconst_4 dX10_grown_33 ?_
          refine ce_X10_69 dX10_grown_34 (k_X10_within _ c 0 4) ?_
          refine aw_if_eq 50 dX10_grown_37 (by decide) (fun hh => absurd hh (bI_n h4)) (fun _ => ?_)
          refine aw_iload_5 dX10_grown_40 ?_
          refine ak_iconst_0 dX10_grown_42 ?_
          refine ak_iconst_1 dX10_grown_43 ?_
          refine ce_X10_69 dX10_grown_44 (k_X10_within _ w 0 1) ?_
          refine aw_if_ne 53 dX10_grown_47 (by decide) (fun hh => absurd (bI_f (fun q => ho ⟨h1, h2, h3, h4, q⟩)) hh) (fun _ => ?_)
          refine ak_bipush_m102 dX10_grown_50 ?_
          exact aw_iret dX10_grown_52 rfl (⟨rfl, rfl⟩)
        refine aw_if_eq 50 dX10_grown_8 (by decide) (fun hh => absurd hh (bI_n h1)) (fun _ => ?_)
        refine aw_iload_2 dX10_grown_11 ?_
        refine ak_iconst_0 dX10_grown_12 ?_
        refine ak_bipush_40 dX10_grown_13 ?_
        refine ce_X10_69 dX10_grown_15 (k_X10_within _ ws 0 40) ?_
        refine aw_if_eq 50 dX10_grown_18 (by decide) (fun hh => absurd hh (bI_n h2)) (fun _ => ?_)
        refine aw_iload_3 dX10_grown_21 ?_
        refine ak_iconst_0 dX10_grown_22 ?_
        refine ak_iconst_4 dX10_grown_23 ?_
        refine ce_X10_69 dX10_grown_24 (k_X10_within _ d 0 4) ?_
        refine aw_if_eq 50 dX10_grown_27 (by decide) (fun hh => absurd hh (bI_n h3)) (fun _ => ?_)
        refine aw_iload_4 dX10_grown_30 ?_
        refine ak_iconst_0 dX10_grown_32 ?_
        refine ak_iconst_4 dX10_grown_33 ?_
        refine ce_X10_69 dX10_grown_34 (k_X10_within _ c 0 4) ?_
        refine aw_if_eq 50 dX10_grown_37 (by decide) (fun _ => ?_) (fun hh => absurd (bI_f h4) hh)
        refine ak_bipush_m102 dX10_grown_50 ?_
        exact aw_iret dX10_grown_52 rfl (⟨rfl, rfl⟩)
      refine aw_if_eq 50 dX10_grown_8 (by decide) (fun hh => absurd hh (bI_n h1)) (fun _ => ?_)
      refine aw_iload_2 dX10_grown_11 ?_
      refine ak_iconst_0 dX10_grown_12 ?_
      refine ak_bipush_40 dX10_grown_13 ?_
      refine ce_X10_69 dX10_grown_15 (k_X10_within _ ws 0 40) ?_
      refine aw_if_eq 50 dX10_grown_18 (by decide) (fun hh => absurd hh (bI_n h2)) (fun _ => ?_)
      refine aw_iload_3 dX10_grown_21 ?_
      refine ak_iconst_0 dX10_grown_22 ?_
      refine ak_iconst_4 dX10_grown_23 ?_
      refine ce_X10_69 dX10_grown_24 (k_X10_within _ d 0 4) ?_
      refine aw_if_eq 50 dX10_grown_27 (by decide) (fun _ => ?_) (fun hh => absurd (bI_f h3) hh)
      refine ak_bipush_m102 dX10_grown_50 ?_
      exact aw_iret dX10_grown_52 rfl (⟨rfl, rfl⟩)
    refine aw_if_eq 50 dX10_grown_8 (by decide) (fun hh => absurd hh (bI_n h1)) (fun _ => ?_)
    refine aw_iload_2 dX10_grown_11 ?_
    refine ak_iconst_0 dX10_grown_12 ?_
    refine ak_bipush_40 dX10_grown_13 ?_
    refine ce_X10_69 dX10_grown_15 (k_X10_within _ ws 0 40) ?_
    refine aw_if_eq 50 dX10_grown_18 (by decide) (fun _ => ?_) (fun hh => absurd (bI_f h2) hh)
    refine ak_bipush_m102 dX10_grown_50 ?_
    exact aw_iret dX10_grown_52 rfl (⟨rfl, rfl⟩)
  refine aw_if_eq 50 dX10_grown_8 (by decide) (fun _ => ?_) (fun hh => absurd (bI_f h1) hh)
  refine ak_bipush_m102 dX10_grown_50 ?_
  exact aw_iret dX10_grown_52 rfl (⟨rfl, rfl⟩)
theorem m_grown_ok (rd : Int32) (pl : Nat) (pc : Nat → Nat) (ra up f0 su nn : Nat) (wk : Int32) (ki we ow fr of : Nat → Nat) (oc : Nat) (oa ob os : Nat → Nat) (K : mk_T) (x : ms_T) (z ws d c w : Nat) (h1 : (0 : Int32) ≤ nI z ∧ nI z ≤ 9999) (h2 : (0 : Int32) ≤ nI ws ∧ nI ws ≤ 40) (h3 : (0 : Int32) ≤ nI d ∧ nI d ≤ 4) (h4 : (0 : Int32) ≤ nI c ∧ nI c ≤ 4) (h5 : (0 : Int32) ≤ nI w ∧ nI w ≤ 1) (hz : z ≤ 9999) (hws : ws ≤ 40) (hd : d < 5) (hc : c < 5) (hw : w ≤ 1) (hra : ra ≤ 9) (hu : up ≤ 1) (hf0 : f0 ≤ 9) : AM 8 yX10_grown cX10_grown 6 (some .int) [.ref 0, .int (nI z), .int (nI ws), .int (nI d), .int (nI c), .int (nI w)] (mw_M (rd, (pl, pc), (ra, up, f0, su, nn, wk), ki, (we, ow, fr, of), (oc, oa, ob, os)) K x) (ac_R (some (.int (if w = 0 then nI (gw_F (ig_N up (tn_N ra d c) (ws - f0)) z 99).1 else (gw_F (ig_N up (tn_N ra d c) (ws - f0)) z 99).2))) (mw_M (rd, (pl, pc), (ra, up, f0, su, nn, wk), ki, (we, ow, fr, of), (oc, oa, ob, os)) K x)) := by
  refine AM.of (loc := [.ref 0, .int (nI z), .int (nI ws), .int (nI d), .int (nI c), .int (nI w)]) RX10 rfl (by decide +kernel) (Nat.le_of_ble_eq_true rfl) rfl ?_
  refine aw_iload_1 dX10_grown_0 ?_
  refine ak_iconst_0 dX10_grown_1 ?_
  refine ak_sipush_9999 dX10_grown_2 ?_
  refine ce_X10_69 dX10_grown_5 (k_X10_within _ (nI z) 0 9999) ?_
  refine aw_if_eq 50 dX10_grown_8 (by decide) (fun hh => absurd hh (bI_n h1)) (fun _ => ?_)
  refine aw_iload_2 dX10_grown_11 ?_
  refine ak_iconst_0 dX10_grown_12 ?_
  refine ak_bipush_40 dX10_grown_13 ?_
  refine ce_X10_69 dX10_grown_15 (k_X10_within _ (nI ws) 0 40) ?_
  refine aw_if_eq 50 dX10_grown_18 (by decide) (fun hh => absurd hh (bI_n h2)) (fun _ => ?_)
  refine aw_iload_3 dX10_grown_21 ?_
  refine ak_iconst_0 dX10_grown_22 ?_
  refine ak_iconst_4 dX10_grown_23 ?_
  refine ce_X10_69 dX10_grown_24 (k_X10_within _ (nI d) 0 4) ?_
  refine aw_if_eq 50 dX10_grown_27 (by decide) (fun hh => absurd hh (bI_n h3)) (fun _ => ?_)
  refine aw_iload_4 dX10_grown_30 ?_
  refine ak_iconst_0 dX10_grown_32 ?_
  refine ak_iconst_4 dX10_grown_33 ?_
  refine ce_X10_69 dX10_grown_34 (k_X10_within _ (nI c) 0 4) ?_
  refine aw_if_eq 50 dX10_grown_37 (by decide) (fun hh => absurd hh (bI_n h4)) (fun _ => ?_)
  refine aw_iload_5 dX10_grown_40 ?_
  refine ak_iconst_0 dX10_grown_42 ?_
  refine ak_iconst_1 dX10_grown_43 ?_
  refine ce_X10_69 dX10_grown_44 (k_X10_within _ (nI w) 0 1) ?_
  refine aw_if_ne 53 dX10_grown_47 (by decide) (fun _ => ?_) (fun hh => absurd hh (bI_n h5))
  refine aw_aload_0 dX10_grown_53 ?_
  refine aw_iload_1 dX10_grown_54 ?_
  refine aw_iload_2 dX10_grown_55 ?_
  refine aw_iload_3 dX10_grown_56 ?_
  refine aw_iload_4 dX10_grown_57 ?_
  refine aw_iload_5 dX10_grown_59 ?_
  refine ce_X10_184 dX10_grown_61 rfl (k_X10_grownNow rd pl pc ra up f0 su nn wk ki we ow fr of oc oa ob os K x z ws d c w hz hws hd hc hw hra hu hf0) ?_
  exact aw_iret dX10_grown_64 rfl (⟨rfl, rfl⟩)
theorem nx_eqL (s : Nat) : ((1103515245 : Int64) * lN s + 12345) &&& 2147483647 = lN (nx_N s) := by
  rw [show (1103515245 : Int64) = lN 1103515245 from rfl, show (12345 : Int64) = lN 12345 from rfl, show (2147483647 : Int64) = lN (2 ^ 31 - 1) from rfl, lN_mul, lN_add, fb_maskL]
  rfl
theorem k_X10_draw (rd : Int32) (pl : Nat) (pc : Nat → Nat) (ra up f0 su nn : Nat) (wk : Int32) (ki we ow fr of : Nat → Nat) (oc : Nat) (oa ob os : Nat → Nat) (K : mk_T) (x : ms_T) (sm gr rw : Nat → Int32) (h : Int64) (s c : Nat) (hc : 0 < c) (hc2 : c < 2147483648) : AM 1 yX10_draw cX10_draw 2 (some .int) [.ref 0, .int (nI c)] (mw_M (rd, (pl, pc), (ra, up, f0, su, nn, wk), ki, (we, ow, fr, of), (oc, oa, ob, os)) K (sm, gr, rw, lN s, h)) (ac_R (some (.int (nI (dr_N s c)))) (mw_M (rd, (pl, pc), (ra, up, f0, su, nn, wk), ki, (we, ow, fr, of), (oc, oa, ob, os)) K (sm, gr, rw, lN (nx_N s), h))) := by
  have hx := nx_lt s
  refine AM.of (loc := [.ref 0, .int (nI c)]) RX10 rfl (by decide +kernel) (Nat.le_of_ble_eq_true rfl) rfl ?_
  refine aw_aload_0 dX10_draw_0 ?_
  refine aw_ldc2 gq_992 dX10_draw_1 ?_
  refine aw_aload_0 dX10_draw_4 ?_
  refine gf_X10_190 dX10_draw_5 rfl rfl ?_
  refine aw_lmul dX10_draw_8 ?_
  refine aw_ldc2 gq_993 dX10_draw_9 ?_
  refine aw_ladd dX10_draw_12 ?_
  refine aw_ldc2 gq_994 dX10_draw_13 ?_
  refine aw_land dX10_draw_16 ?_
  refine aw_topl (nx_eqL s) ?_
  refine pf_X10_190 dX10_draw_17 rfl (Nat.le_of_ble_eq_true rfl) ?_
  refine aw_w cm_0_21 ?_
  refine aw_aload_0 dX10_draw_20 ?_
  refine gf_X10_190 dX10_draw_21 rfl rfl ?_
  refine aw_ldc2 gq_995 dX10_draw_24 ?_
  refine aw_topl (show (65536 : Int64) = lN 65536 from rfl) ?_
  refine aw_ldiv dX10_draw_27 (by decide) ?_
  refine aw_topl (pk_lDiv (by omega) (by decide) (by decide)) ?_
  refine aw_iload_1 dX10_draw_28 ?_
  refine aw_i2l dX10_draw_29 ?_
  refine aw_topl (nI_l hc2) ?_
  refine aw_lrem dX10_draw_30 (fun q => absurd ((pk_lEQ (by omega) (by decide : (0 : Nat) < 2 ^ 63)).mp q) (by omega)) ?_
  refine aw_topl (pk_lRem (by omega) hc (by omega)) ?_
  refine aw_l2i dX10_draw_31 ?_
  refine aw_topi (lN_i _) ?_
  exact aw_iret dX10_draw_32 rfl (⟨rfl, rfl⟩)
theorem k_X10_goYear (rd : Int32) (pl : Nat) (pc : Nat → Nat) (ra up f0 su nn : Nat) (wk : Int32) (ki we ow fr of : Nat → Nat) (oc : Nat) (oa ob os : Nat → Nat) (K : mk_T) (w2 o2 f2 x2 : Nat → Nat) (sm gr rw : Nat → Int32) (h : Int64) (s : Nat) (wz : Int32) (hok : ok_T (ra, up, f0, su, nn, wz, ki, w2, o2, f2, x2)) (hnn : 0 < nn) : AM 4 yX10_goYear cX10_goYear 5 none [.ref 0] (mw_M (rd, (pl, pc), (ra, up, f0, su, nn, wk), ki, (jn_N 5 we w2, jn_N 25 ow o2, jn_N 25 fr f2, jn_N 25 of x2), (oc, oa, ob, os)) K (sm, gr, rw, lN s, h)) (ac_R none (mw_M (rd, (pl, pc), (ra, up, f0, su, nn, wk), ki, (jn_N 5 we w2, jn_N 25 ow (yr_N (ra, up, f0, su, nn, wz, ki, w2, o2, f2, x2) s).1.2.2.2.2.2.2.2.2.1, jn_N 25 fr (yr_N (ra, up, f0, su, nn, wz, ki, w2, o2, f2, x2) s).1.2.2.2.2.2.2.2.2.2.1, jn_N 25 of (yr_N (ra, up, f0, su, nn, wz, ki, w2, o2, f2, x2) s).1.2.2.2.2.2.2.2.2.2.2), (oc, oa, ob, os)) K (sm, gr, rw, lN (yr_N (ra, up, f0, su, nn, wz, ki, w2, o2, f2, x2) s).2, h))) := by
  have hok0 := hok
  obtain ⟨hra, hu, hf0, hsu, hn, hki, hwe, how, hfr, hof⟩ := hok
  have ha : dr_N s nn < nn := Nat.mod_lt _ hnn
  have hb : dr_N (nx_N s) nn < nn := Nat.mod_lt _ hnn
  have hz : dr_N (nx_N (nx_N s)) 9 < 9 := Nat.mod_lt _ (by decide)
  have hd2 : dr_N (nx_N (nx_N (nx_N s))) 2 < 2 := Nat.mod_lt _ (by decide)
  have hofk := hof (5 * dr_N s nn + dr_N (nx_N s) nn)
  have DR := fun (s c : Nat) (hc : 0 < c) (hc2 : c < 2147483648) => k_X10_draw rd pl pc ra up f0 su nn wk ki (jn_N 5 we w2) (jn_N 25 ow o2) (jn_N 25 fr f2) (jn_N 25 of x2) oc oa ob os K (sm, gr, rw, 0, 0) sm gr rw h s c hc hc2
  generalize hya : dr_N s nn = ya at *
  generalize hyb : dr_N (nx_N s) nn = yb at *
  have GR : ∀ s2 : Nat, AM 2 yX10_grunt cX10_grunt 5 none [.ref 0, .int (nI 25), .int (nI yb), .int (nI ya)] (mw_M (rd, (pl, pc), (ra, up, f0, su, nn, wk), ki, (jn_N 5 we w2, jn_N 25 ow o2, jn_N 25 fr f2, jn_N 25 of x2), (oc, oa, ob, os)) K (sm, gr, rw, lN s2, h)) (ac_R none (mw_M (rd, (pl, pc), (ra, up, f0, su, nn, wk), ki, (jn_N 5 we w2, jn_N 25 ow o2, jn_N 25 fr f2, jn_N 25 of (if ki ya < 4 then va_up x2 (5 * ya + yb) (max (x2 (5 * ya + yb)) su) else x2)), (oc, oa, ob, os)) K (sm, gr, rw, lN s2, h))) := by
    intro s2
    have q := k_X10_grunt rd pl pc ra up f0 su nn wk ki (jn_N 5 we w2) (jn_N 25 ow o2) (jn_N 25 fr f2) (jn_N 25 of x2) oc oa ob os K (sm, gr, rw, lN s2, h) 25 yb ya (by omega) (by omega) (by omega) (hki _) (by rw [jn_hi]; exact hof _) hsu
    rw [jn_up2, jn_hi] at q
    by_cases r : ki ya < 4
    · rw [if_pos r] at q ⊢; exact q
    · rw [if_neg r] at q ⊢
      rw [show va_up x2 (5 * ya + yb) (x2 (5 * ya + yb)) = x2 from funext fun j => by unfold va_up; by_cases e : j = 5 * ya + yb <;> simp [e]] at q
      exact q
  have TH : ∀ z s2 : Nat, z ≤ 999 → AM 2 yX10_thank cX10_thank 6 none [.ref 0, .int (nI 25), .int (nI yb), .int (nI ya), .int (nI z)] (mw_M (rd, (pl, pc), (ra, up, f0, su, nn, wk), ki, (jn_N 5 we w2, jn_N 25 ow o2, jn_N 25 fr f2, jn_N 25 of x2), (oc, oa, ob, os)) K (sm, gr, rw, lN s2, h)) (ac_R none (mw_M (rd, (pl, pc), (ra, up, f0, su, nn, wk), ki, (jn_N 5 we w2, jn_N 25 ow (va_up o2 (5 * yb + ya) (min 9999 (o2 (5 * yb + ya) + z))), jn_N 25 fr (va_up f2 (5 * yb + ya) (max (f2 (5 * yb + ya)) f0)), jn_N 25 of x2), (oc, oa, ob, os)) K (sm, gr, rw, lN s2, h))) := by
    intro z s2 hz9
    have q := k_X10_thank rd pl pc ra up f0 su nn wk ki (jn_N 5 we w2) (jn_N 25 ow o2) (jn_N 25 fr f2) (jn_N 25 of x2) oc oa ob os K (sm, gr, rw, lN s2, h) 25 yb ya z (by omega) (by omega) (by omega) hz9 (by rw [jn_hi]; exact how _) (by rw [jn_hi]; exact hfr _) hf0
    rw [jn_up2, jn_up2, jn_hi, jn_hi] at q
    exact q
  refine AM.of (loc := [.ref 0, .null, .null, .null, .null]) RX10 rfl (by decide +kernel) (Nat.le_of_ble_eq_true rfl) rfl ?_
  refine aw_aload_0 dX10_goYear_0 ?_
  refine aw_aload_0 dX10_goYear_1 ?_
  refine gf_X10_93 dX10_goYear_2 rfl rfl ?_
  refine ce_X10_200 dX10_goYear_5 rfl (DR s nn hnn (by omega)) ?_
  refine aw_istore_1 dX10_goYear_8 rfl (Nat.le_of_ble_eq_true rfl) ?_
  refine aw_aload_0 dX10_goYear_9 ?_
  refine aw_aload_0 dX10_goYear_10 ?_
  refine gf_X10_93 dX10_goYear_11 rfl rfl ?_
  refine ce_X10_200 dX10_goYear_14 rfl (DR (nx_N s) nn hnn (by omega)) ?_
  refine aw_istore_2 dX10_goYear_17 rfl (Nat.le_of_ble_eq_true rfl) ?_
  refine akN_iconst_1 dX10_goYear_18 ?_
  refine aw_aload_0 dX10_goYear_19 ?_
  refine akN_bipush_9 dX10_goYear_20 ?_
  refine ce_X10_200 dX10_goYear_22 rfl (DR (nx_N (nx_N s)) 9 (by omega) (by omega)) ?_
  refine aw_iaddN dX10_goYear_25 ?_
  refine aw_istore_3 dX10_goYear_26 rfl (Nat.le_of_ble_eq_true rfl) ?_
  refine aw_iload_1 dX10_goYear_27 ?_
  refine aw_iload_2 dX10_goYear_28 ?_
  rw [hya, hyb]
  rw [Nat.add_comm 1 (dr_N (nx_N (nx_N s)) 9)]
  refine aw_icmp_eqN 97 dX10_goYear_29 (by decide) (by omega) (by omega) (fun h1 => ?_) (fun h1 => ?_)
  · have e : yr_N (ra, up, f0, su, nn, wz, ki, w2, o2, f2, x2) s = (wk_T (ra, up, f0, su, nn, wz, ki, w2, o2, f2, x2), nx_N (nx_N (nx_N s))) := if_neg (fun q => q.1 (by rw [hya, hyb]; exact h1))
    rw [e]
    refine aw_aload_0 dX10_goYear_97 ?_
    refine akN_bipush_25 dX10_goYear_98 ?_
    refine ca_X10_147 dX10_goYear_100 rfl (k_goWeek_2 rd pl pc ra up f0 su nn wk ki we ow fr of oc oa ob os K _ w2 o2 f2 x2 wz hok0) (fun r w1 hc => ?_)
    obtain ⟨⟨v, rfl⟩, rfl⟩ := hc
    refine aw_pop dX10_goYear_103 rfl ?_
    exact aw_vret dX10_goYear_104 rfl (⟨rfl, rfl⟩)
  refine aw_aload_0 dX10_goYear_32 ?_
  refine gf_X10_29 dX10_goYear_33 rfl rfl ?_
  refine akN_bipush_25 dX10_goYear_36 ?_
  refine akN_iconst_5 dX10_goYear_38 ?_
  refine aw_iload_1 dX10_goYear_39 ?_
  refine aw_imulN dX10_goYear_40 ?_
  refine aw_iaddN dX10_goYear_41 ?_
  refine aw_iload_2 dX10_goYear_42 ?_
  refine aw_iaddN dX10_goYear_43 ?_
  refine aw_topi (congrArg nI (Nat.add_assoc 25 (5 * ya) yb)) ?_
  refine aw_ialdN dX10_goYear_44 rfl (by omega) ?_
  refine aw_topi (congrArg nI (jn_hi 25 _ of x2)) ?_
  refine aw_if_neN 97 dX10_goYear_45 (by decide) (by omega) (fun h2 => ?_) (fun h2 => ?_)
  · have e : yr_N (ra, up, f0, su, nn, wz, ki, w2, o2, f2, x2) s = (wk_T (ra, up, f0, su, nn, wz, ki, w2, o2, f2, x2), nx_N (nx_N (nx_N s))) := if_neg (fun q => h2 (by have := q.2; rw [hya, hyb] at this; exact this))
    rw [e]
    refine aw_aload_0 dX10_goYear_97 ?_
    refine akN_bipush_25 dX10_goYear_98 ?_
    refine ca_X10_147 dX10_goYear_100 rfl (k_goWeek_2 rd pl pc ra up f0 su nn wk ki we ow fr of oc oa ob os K _ w2 o2 f2 x2 wz hok0) (fun r w1 hc => ?_)
    obtain ⟨⟨v, rfl⟩, rfl⟩ := hc
    refine aw_pop dX10_goYear_103 rfl ?_
    exact aw_vret dX10_goYear_104 rfl (⟨rfl, rfl⟩)
  have hcond : dr_N s nn ≠ dr_N (nx_N s) nn ∧ x2 (5 * dr_N s nn + dr_N (nx_N s) nn) = 0 := by rw [hya, hyb]; exact ⟨h1, h2⟩
  have NT := fun s2 : Nat => k_X10_neverThanks rd pl pc ra up f0 su nn wk ki (jn_N 5 we w2) (jn_N 25 ow o2) (jn_N 25 fr f2) (jn_N 25 of x2) oc oa ob os K (sm, gr, rw, lN s2, h) yb (by omega) (hki _)
  by_cases h3 : ki yb < 3
  · refine aw_aload_0 dX10_goYear_48 ?_
    refine aw_iload_2 dX10_goYear_49 ?_
    refine ce_X10_130 dX10_goYear_50 rfl (NT _) ?_
    refine aw_if_ne 69 dX10_goYear_53 (by decide) (fun hh => absurd (bI_f (by omega)) hh) (fun _ => ?_)
    refine aw_aload_0 dX10_goYear_56 ?_
    refine akN_iconst_2 dX10_goYear_57 ?_
    refine ce_X10_200 dX10_goYear_58 rfl (DR (nx_N (nx_N (nx_N s))) 2 (by omega) (by omega)) ?_
    refine akN_iconst_1 dX10_goYear_61 ?_
    refine aw_icmp_neN 69 dX10_goYear_62 (by decide) (by omega) (by omega) (fun h4 => ?_) (fun h4 => ?_)
    · have e : yr_N (ra, up, f0, su, nn, wz, ki, w2, o2, f2, x2) s = (wk_T (gt_T (ra, up, f0, su, nn, wz, ki, w2, o2, f2, x2) ya yb), nx_N (nx_N (nx_N (nx_N s)))) := by
        rw [← hya, ← hyb]
        exact (if_pos hcond).trans ((if_pos (by rw [hyb]; exact h3)).trans (if_neg h4))
      rw [e]
      refine akN_iconst_0 dX10_goYear_69 ?_
      refine aw_istore_4 dX10_goYear_70 rfl (Nat.le_of_ble_eq_true rfl) ?_
      refine aw_iload_4 dX10_goYear_72 ?_
      refine aw_if_eqN 89 dX10_goYear_74 (by decide) (by omega) (fun _ => ?_) (fun hh => absurd hh (by omega))
      refine aw_aload_0 dX10_goYear_89 ?_
      refine akN_bipush_25 dX10_goYear_90 ?_
      refine aw_iload_2 dX10_goYear_92 ?_
      refine aw_iload_1 dX10_goYear_93 ?_
      refine ce_X10_137 dX10_goYear_94 rfl (GR _) ?_
      refine aw_aload_0 dX10_goYear_97 ?_
      refine akN_bipush_25 dX10_goYear_98 ?_
      refine ca_X10_147 dX10_goYear_100 rfl (k_goWeek_2 rd pl pc ra up f0 su nn wk ki we ow fr of oc oa ob os K _ w2 o2 f2 _ wz (ok_gt hok0 ya yb)) (fun r w1 hc => ?_)
      obtain ⟨⟨v, rfl⟩, rfl⟩ := hc
      refine aw_pop dX10_goYear_103 rfl ?_
      exact aw_vret dX10_goYear_104 rfl (⟨rfl, rfl⟩)
    have e : yr_N (ra, up, f0, su, nn, wz, ki, w2, o2, f2, x2) s = (wk_T (th_T (ra, up, f0, su, nn, wz, ki, w2, o2, f2, x2) ya yb (dr_N (nx_N (nx_N s)) 9 + 1)), nx_N (nx_N (nx_N (nx_N s)))) := by
      rw [← hya, ← hyb]
      exact (if_pos hcond).trans ((if_pos (by rw [hyb]; exact h3)).trans (if_pos h4))
    rw [e]
    refine akN_iconst_1 dX10_goYear_65 ?_
    refine aw_goto 70 dX10_goYear_66 (by decide) ?_
    refine aw_istore_4 dX10_goYear_70 rfl (Nat.le_of_ble_eq_true rfl) ?_
    refine aw_iload_4 dX10_goYear_72 ?_
    refine aw_if_eqN 89 dX10_goYear_74 (by decide) (by omega) (fun hh => absurd hh (by omega)) (fun _ => ?_)
    refine aw_aload_0 dX10_goYear_77 ?_
    refine akN_bipush_25 dX10_goYear_78 ?_
    refine aw_iload_2 dX10_goYear_80 ?_
    refine aw_iload_1 dX10_goYear_81 ?_
    refine aw_iload_3 dX10_goYear_82 ?_
    refine ce_X10_133 dX10_goYear_83 rfl (TH _ _ (by omega)) ?_
    refine aw_goto 97 dX10_goYear_86 (by decide) ?_
    refine aw_aload_0 dX10_goYear_97 ?_
    refine akN_bipush_25 dX10_goYear_98 ?_
    refine ca_X10_147 dX10_goYear_100 rfl (k_goWeek_2 rd pl pc ra up f0 su nn wk ki we ow fr of oc oa ob os K _ w2 _ _ x2 wz (ok_th hok0 ya yb (dr_N (nx_N (nx_N s)) 9 + 1))) (fun r w1 hc => ?_)
    obtain ⟨⟨v, rfl⟩, rfl⟩ := hc
    refine aw_pop dX10_goYear_103 rfl ?_
    exact aw_vret dX10_goYear_104 rfl (⟨rfl, rfl⟩)
  have e : yr_N (ra, up, f0, su, nn, wz, ki, w2, o2, f2, x2) s = (wk_T (gt_T (ra, up, f0, su, nn, wz, ki, w2, o2, f2, x2) ya yb), nx_N (nx_N (nx_N s))) := by
    rw [← hya, ← hyb]
    exact (if_pos hcond).trans (if_neg (by rw [hyb]; exact h3))
  rw [e]
  refine aw_aload_0 dX10_goYear_48 ?_
  refine aw_iload_2 dX10_goYear_49 ?_
  refine ce_X10_130 dX10_goYear_50 rfl (NT _) ?_
  refine aw_if_ne 69 dX10_goYear_53 (by decide) (fun _ => ?_) (fun hh => absurd hh (bI_n (by omega)))
  refine akN_iconst_0 dX10_goYear_69 ?_
  refine aw_istore_4 dX10_goYear_70 rfl (Nat.le_of_ble_eq_true rfl) ?_
  refine aw_iload_4 dX10_goYear_72 ?_
  refine aw_if_eqN 89 dX10_goYear_74 (by decide) (by omega) (fun _ => ?_) (fun hh => absurd hh (by omega))
  refine aw_aload_0 dX10_goYear_89 ?_
  refine akN_bipush_25 dX10_goYear_90 ?_
  refine aw_iload_2 dX10_goYear_92 ?_
  refine aw_iload_1 dX10_goYear_93 ?_
  refine ce_X10_137 dX10_goYear_94 rfl (GR _) ?_
  refine aw_aload_0 dX10_goYear_97 ?_
  refine akN_bipush_25 dX10_goYear_98 ?_
  refine ca_X10_147 dX10_goYear_100 rfl (k_goWeek_2 rd pl pc ra up f0 su nn wk ki we ow fr of oc oa ob os K _ w2 o2 f2 _ wz (ok_gt hok0 ya yb)) (fun r w1 hc => ?_)
  obtain ⟨⟨v, rfl⟩, rfl⟩ := hc
  refine aw_pop dX10_goYear_103 rfl ?_
  exact aw_vret dX10_goYear_104 rfl (⟨rfl, rfl⟩)
theorem yr_A (ra up f0 su nn : Nat) (wk : Int32) (ki we ow fr of : Nat → Nat) (s : Nat) : ∃ (wk2 : Int32) (O F X : Nat → Nat), (yr_N (ra, up, f0, su, nn, wk, ki, we, ow, fr, of) s).1 = (ra, up, f0, su, nn, wk2, ki, we, O, F, X) := by
  unfold yr_N
  dsimp only
  split
  · split
    · split <;> exact ⟨_, _, _, _, rfl⟩
    · exact ⟨_, _, _, _, rfl⟩
  · exact ⟨_, _, _, _, rfl⟩
theorem yi_A (ra up f0 su nn : Nat) (wk : Int32) (ki we ow fr of : Nat → Nat) (s : Nat) : ∀ k, ∃ (wk2 : Int32) (O F X : Nat → Nat), (yi_N (ra, up, f0, su, nn, wk, ki, we, ow, fr, of) s k).1 = (ra, up, f0, su, nn, wk2, ki, we, O, F, X)
  | 0 => ⟨_, _, _, _, rfl⟩
  | k + 1 => by
    obtain ⟨wk2, O, F, X, h⟩ := yi_A ra up f0 su nn wk ki we ow fr of s k
    show ∃ (wk2 : Int32) (O F X : Nat → Nat), (yr_N (yi_N _ s k).1 (yi_N _ s k).2).1 = _
    rw [h]
    exact yr_A _ _ _ _ _ _ _ _ _ _ _ _
theorem k_X10_yearsNow (rd : Int32) (pl : Nat) (pc : Nat → Nat) (ra up f0 su nn : Nat) (wk : Int32) (ki we ow fr of : Nat → Nat) (oc : Nat) (oa ob os : Nat → Nat) (K : mk_T) (w2 o2 f2 x2 : Nat → Nat) (sm gr rw : Nat → Int32) (sd h : Int64) (ws s w : Nat) (hws : ws ≤ 60) (hs : s < 2147483648) (hw : w < 3) (hok : ok_T (ra, up, f0, su, nn, wk, ki, we, ow, fr, of)) (hn : 0 < nn) : AM 5 yX10_yearsNow cX10_yearsNow 7 (some .int) [.ref 0, .int (nI ws), .int (nI s), .int (nI w)] (mw_M (rd, (pl, pc), (ra, up, f0, su, nn, wk), ki, (jn_N 5 we w2, jn_N 25 ow o2, jn_N 25 fr f2, jn_N 25 of x2), (oc, oa, ob, os)) K (sm, gr, rw, sd, h)) (fun r w' => r = some (.int (ye_I (ra, up, f0, su, nn, wk, ki, we, ow, fr, of) s ws w)) ∧ ∃ (w2 o2 f2 x2 : Nat → Nat) (sd : Int64), w' = (mw_M (rd, (pl, pc), (ra, up, f0, su, nn, wk), ki, (jn_N 5 we w2, jn_N 25 ow o2, jn_N 25 fr f2, jn_N 25 of x2), (oc, oa, ob, os)) K (sm, gr, rw, sd, h))) := by
  have hn5 : nn ≤ 5 := hok.2.2.2.2.1
  have Y := fun k => yi_ok hok hs k
  refine AM.of (loc := [.ref 0, .int (nI ws), .int (nI s), .int (nI w), .null, .null, .null]) RX10 rfl (by decide +kernel) (Nat.le_of_ble_eq_true rfl) rfl ?_
  refine aw_aload_0 dX10_yearsNow_0 ?_
  refine ce_X10_151 dX10_yearsNow_1 rfl (k_X10_copy rd pl pc ra up f0 su nn wk ki we ow fr of oc oa ob os K _ w2 o2 f2 x2) ?_
  refine aw_aload_0 dX10_yearsNow_4 ?_
  refine aw_iload_2 dX10_yearsNow_5 ?_
  refine aw_i2l dX10_yearsNow_6 ?_
  refine aw_topl (nI_l hs) ?_
  refine pf_X10_190 dX10_yearsNow_7 rfl (Nat.le_of_ble_eq_true rfl) ?_
  refine aw_w cm_0_21 ?_
  refine akN_iconst_0 dX10_yearsNow_10 ?_
  refine aw_istore_4 dX10_yearsNow_11 rfl (Nat.le_of_ble_eq_true rfl) ?_
  have fin : ∀ (wz : Int32) (O F X : Nat → Nat) (sx : Nat), (yi_N (ra, up, f0, su, nn, wk, ki, we, ow, fr, of) s ws).1 = (ra, up, f0, su, nn, wz, ki, we, O, F, X) → (yi_N (ra, up, f0, su, nn, wk, ki, we, ow, fr, of) s ws).2 = sx → AW 5 RX10 cX10_yearsNow 7 (some .int) 18 (fun r w' => r = some (.int (ye_I (ra, up, f0, su, nn, wk, ki, we, ow, fr, of) s ws w)) ∧ ∃ (w2 o2 f2 x2 : Nat → Nat) (sd : Int64), w' = (mw_M (rd, (pl, pc), (ra, up, f0, su, nn, wk), ki, (jn_N 5 we w2, jn_N 25 ow o2, jn_N 25 fr f2, jn_N 25 of x2), (oc, oa, ob, os)) K (sm, gr, rw, sd, h))) 29 [.ref 0, .int (nI ws), .int (nI s), .int (nI w), .int (nI ws), .null, .null] [] (mw_M (rd, (pl, pc), (ra, up, f0, su, nn, wk), ki, (jn_N 5 we we, jn_N 25 ow O, jn_N 25 fr F, jn_N 25 of X), (oc, oa, ob, os)) K (sm, gr, rw, lN sx, h)) := by
    intro wz O F X sx hy hsx
    refine akN_iconst_0 dX10_yearsNow_29 ?_
    refine aw_istore_4 dX10_yearsNow_30 rfl (Nat.le_of_ble_eq_true rfl) ?_
    refine ak_iconst_0 dX10_yearsNow_32 ?_
    refine aw_istore_5 dX10_yearsNow_33 rfl (Nat.le_of_ble_eq_true rfl) ?_
    refine akN_iconst_0 dX10_yearsNow_35 ?_
    refine aw_istore_6 dX10_yearsNow_36 rfl (Nat.le_of_ble_eq_true rfl) ?_
    have sums : ∀ k i, i + k = nn → AW 5 RX10 cX10_yearsNow 7 (some .int) 18 (fun r w' => r = some (.int (ye_I (ra, up, f0, su, nn, wk, ki, we, ow, fr, of) s ws w)) ∧ ∃ (w2 o2 f2 x2 : Nat → Nat) (sd : Int64), w' = (mw_M (rd, (pl, pc), (ra, up, f0, su, nn, wk), ki, (jn_N 5 we w2, jn_N 25 ow o2, jn_N 25 fr f2, jn_N 25 of x2), (oc, oa, ob, os)) K (sm, gr, rw, sd, h))) 38 [.ref 0, .int (nI ws), .int (nI s), .int (nI w), .int (nI (fb_sm (fun p => fb_sm (fun q => O (5 * p + q)) nn) i)), .int (si_I (fun p => bI (nt_I nn we O p < 0)) i), .int (nI i)] [] (mw_M (rd, (pl, pc), (ra, up, f0, su, nn, wk), ki, (jn_N 5 we we, jn_N 25 ow O, jn_N 25 fr F, jn_N 25 of X), (oc, oa, ob, os)) K (sm, gr, rw, lN sx, h)) := by
      intro k
      induction k with
      | zero =>
        intro i hi
        obtain rfl : i = nn := by omega
        refine aw_iload_6 dX10_yearsNow_38 ?_
        refine aw_aload_0 dX10_yearsNow_40 ?_
        refine gf_X10_93 dX10_yearsNow_41 rfl rfl ?_
        refine aw_icmp_geN 86 dX10_yearsNow_44 (by decide) (by omega) (by omega) (fun _ => ?_) (fun hh => absurd hh (by omega))
        refine aw_iload_3 dX10_yearsNow_86 ?_
        have e0 : ye_I (ra, up, f0, su, i, wk, ki, we, ow, fr, of) s ws w = (if w = 0 then nI (al_N i O) else if w = 1 then ru_I i we O else nI sx) := by
          unfold ye_I
          rw [hy, hsx]
          rfl
        match w, hw with
        | 0, _ =>
          refine aw_if_neN 95 dX10_yearsNow_87 (by decide) (by omega) (fun hh => absurd hh (by omega)) (fun _ => ?_)
          refine aw_iload_4 dX10_yearsNow_90 ?_
          refine aw_goto 110 dX10_yearsNow_92 (by decide) ?_
          exact aw_iret dX10_yearsNow_110 rfl (⟨by rw [e0]; rfl, _, _, _, _, _, rfl⟩)
        | 1, _ =>
          refine aw_if_neN 95 dX10_yearsNow_87 (by decide) (by omega) (fun _ => ?_) (fun hh => absurd hh (by omega))
          refine aw_iload_3 dX10_yearsNow_95 ?_
          refine akN_iconst_1 dX10_yearsNow_96 ?_
          refine aw_icmp_neN 105 dX10_yearsNow_97 (by decide) (by omega) (by omega) (fun hh => absurd hh (by omega)) (fun _ => ?_)
          refine aw_iload_5 dX10_yearsNow_100 ?_
          refine aw_goto 110 dX10_yearsNow_102 (by decide) ?_
          exact aw_iret dX10_yearsNow_110 rfl (⟨by rw [e0]; rfl, _, _, _, _, _, rfl⟩)
        | 2, _ =>
          refine aw_if_neN 95 dX10_yearsNow_87 (by decide) (by omega) (fun _ => ?_) (fun hh => absurd hh (by omega))
          refine aw_iload_3 dX10_yearsNow_95 ?_
          refine akN_iconst_1 dX10_yearsNow_96 ?_
          refine aw_icmp_neN 105 dX10_yearsNow_97 (by decide) (by omega) (by omega) (fun _ => ?_) (fun hh => absurd hh (by omega))
          refine aw_aload_0 dX10_yearsNow_105 ?_
          refine gf_X10_190 dX10_yearsNow_106 rfl rfl ?_
          refine aw_l2i dX10_yearsNow_109 ?_
          refine aw_topi (lN_i sx) ?_
          exact aw_iret dX10_yearsNow_110 rfl (⟨by rw [e0]; rfl, _, _, _, _, _, rfl⟩)
      | succ k ih =>
        intro i hi
        have hA := k_X10_owesAll rd pl pc ra up f0 su nn wk ki (jn_N 5 we we) (jn_N 25 ow O) (jn_N 25 fr F) (jn_N 25 of X) oc oa ob os K (sm, gr, rw, lN sx, h) 25 i (by omega) (by omega) hn5
        rw [sh_jn] at hA
        have hN := k_X10_net rd pl pc ra up f0 su nn wk ki (jn_N 5 we we) (jn_N 25 ow O) (jn_N 25 fr F) (jn_N 25 of X) oc oa ob os K (sm, gr, rw, lN sx, h) 1 i (by omega) (by omega) hn5
        rw [show 5 * 1 = 5 from rfl, show 25 * 1 = 25 from rfl, sh_jn, sh_jn] at hN
        refine aw_iload_6 dX10_yearsNow_38 ?_
        refine aw_aload_0 dX10_yearsNow_40 ?_
        refine gf_X10_93 dX10_yearsNow_41 rfl rfl ?_
        refine aw_icmp_geN 86 dX10_yearsNow_44 (by decide) (by omega) (by omega) (fun hh => absurd hh (by omega)) (fun _ => ?_)
        refine aw_iload_4 dX10_yearsNow_47 ?_
        refine aw_aload_0 dX10_yearsNow_49 ?_
        refine akN_bipush_25 dX10_yearsNow_50 ?_
        refine aw_iload_6 dX10_yearsNow_52 ?_
        refine ce_X10_107 dX10_yearsNow_54 rfl (hA) ?_
        refine aw_iaddN dX10_yearsNow_57 ?_
        refine aw_istore_4 dX10_yearsNow_58 rfl (Nat.le_of_ble_eq_true rfl) ?_
        refine aw_iload_5 dX10_yearsNow_60 ?_
        refine aw_aload_0 dX10_yearsNow_62 ?_
        refine akN_iconst_1 dX10_yearsNow_63 ?_
        refine aw_iload_6 dX10_yearsNow_64 ?_
        refine ce_X10_110 dX10_yearsNow_66 rfl (hN) ?_
        refine aw_if_ge 76 dX10_yearsNow_69 (by decide) (fun q => ?_) (fun q => ?_)
        · refine ak_iconst_0 dX10_yearsNow_76 ?_
          refine aw_iadd dX10_yearsNow_77 ?_
          refine aw_topi (show _ + (0 : Int32) = si_I (fun p => bI (nt_I nn we O p < 0)) (i + 1) by
            show _ = _ + bI _
            rw [bI_f (fun z => by rw [fa_lt] at z; rw [fa_le] at q; omega)]) ?_
          refine aw_istore_5 dX10_yearsNow_78 rfl (Nat.le_of_ble_eq_true rfl) ?_
          refine aw_iincN_6 dX10_yearsNow_80 rfl (Nat.le_of_ble_eq_true rfl) ?_
          refine aw_goto 38 dX10_yearsNow_83 (by decide) ?_
          exact ih (i + 1) (by omega)
        · refine ak_iconst_1 dX10_yearsNow_72 ?_
          refine aw_goto 77 dX10_yearsNow_73 (by decide) ?_
          refine aw_iadd dX10_yearsNow_77 ?_
          refine aw_topi (show _ + (1 : Int32) = si_I (fun p => bI (nt_I nn we O p < 0)) (i + 1) by
            show _ = _ + bI _
            rw [bI_t (by rw [fa_lt]; rw [fa_le] at q; omega)]) ?_
          refine aw_istore_5 dX10_yearsNow_78 rfl (Nat.le_of_ble_eq_true rfl) ?_
          refine aw_iincN_6 dX10_yearsNow_80 rfl (Nat.le_of_ble_eq_true rfl) ?_
          refine aw_goto 38 dX10_yearsNow_83 (by decide) ?_
          exact ih (i + 1) (by omega)
    exact sums nn 0 (by omega)
  have loop : ∀ k m, m + k = ws → ∀ (wz : Int32) (O F X : Nat → Nat) (sx : Nat), (yi_N (ra, up, f0, su, nn, wk, ki, we, ow, fr, of) s m).1 = (ra, up, f0, su, nn, wz, ki, we, O, F, X) → (yi_N (ra, up, f0, su, nn, wk, ki, we, ow, fr, of) s m).2 = sx → AW 5 RX10 cX10_yearsNow 7 (some .int) 18 (fun r w' => r = some (.int (ye_I (ra, up, f0, su, nn, wk, ki, we, ow, fr, of) s ws w)) ∧ ∃ (w2 o2 f2 x2 : Nat → Nat) (sd : Int64), w' = (mw_M (rd, (pl, pc), (ra, up, f0, su, nn, wk), ki, (jn_N 5 we w2, jn_N 25 ow o2, jn_N 25 fr f2, jn_N 25 of x2), (oc, oa, ob, os)) K (sm, gr, rw, sd, h))) 13 [.ref 0, .int (nI ws), .int (nI s), .int (nI w), .int (nI m), .null, .null] [] (mw_M (rd, (pl, pc), (ra, up, f0, su, nn, wk), ki, (jn_N 5 we we, jn_N 25 ow O, jn_N 25 fr F, jn_N 25 of X), (oc, oa, ob, os)) K (sm, gr, rw, lN sx, h)) := by
    intro k
    induction k with
    | zero =>
      intro m hm wz O F X sx hy hsx
      obtain rfl : m = ws := by omega
      refine aw_iload_4 dX10_yearsNow_13 ?_
      refine aw_iload_1 dX10_yearsNow_15 ?_
      refine aw_icmp_geN 29 dX10_yearsNow_16 (by decide) (by omega) (by omega) (fun _ => ?_) (fun hh => absurd hh (by omega))
      exact fin wz O F X sx hy hsx
    | succ k ih =>
      intro m hm wz O F X sx hy hsx
      have hokm := (Y m).1
      rw [hy] at hokm
      refine aw_iload_4 dX10_yearsNow_13 ?_
      refine aw_iload_1 dX10_yearsNow_15 ?_
      refine aw_icmp_geN 29 dX10_yearsNow_16 (by decide) (by omega) (by omega) (fun hh => absurd hh (by omega)) (fun _ => ?_)
      refine aw_aload_0 dX10_yearsNow_19 ?_
      refine ce_X10_203 dX10_yearsNow_20 rfl (k_X10_goYear rd pl pc ra up f0 su nn wk ki we ow fr of oc oa ob os K we O F X sm gr rw h sx wz hokm hn) ?_
      refine aw_iincN_4 dX10_yearsNow_23 rfl (Nat.le_of_ble_eq_true rfl) ?_
      refine aw_goto 13 dX10_yearsNow_26 (by decide) ?_
      obtain ⟨wz2, O2, F2, X2, hy2⟩ := yr_A ra up f0 su nn wz ki we O F X sx
      have e : yi_N (ra, up, f0, su, nn, wk, ki, we, ow, fr, of) s (m + 1) = yr_N (ra, up, f0, su, nn, wz, ki, we, O, F, X) sx := by
        show yr_N _ _ = _
        rw [hy, hsx]
      rw [hy2]
      exact ih (m + 1) (by omega) wz2 O2 F2 X2 _ (by rw [e, hy2]) (by rw [e])
  exact loop ws 0 (by omega) wk ow fr of s rfl rfl
theorem m_years_out (rd : Int32) (pl : Nat) (pc : Nat → Nat) (ra up f0 su nn : Nat) (wk : Int32) (ki we ow fr of : Nat → Nat) (oc : Nat) (oa ob os : Nat → Nat) (K : mk_T) (x : ms_T) (ws s w : Int32) (ho : ¬ ((1 ≤ ws ∧ ws ≤ 60) ∧ ¬ s < 0 ∧ 0 ≤ w ∧ w ≤ 2)) : AM 8 yX10_years cX10_years 4 (some .int) [.ref 0, .int ws, .int s, .int w] (mw_M (rd, (pl, pc), (ra, up, f0, su, nn, wk), ki, (we, ow, fr, of), (oc, oa, ob, os)) K x) (ac_R (some (.int (-102))) (mw_M (rd, (pl, pc), (ra, up, f0, su, nn, wk), ki, (we, ow, fr, of), (oc, oa, ob, os)) K x)) := by
  refine AM.of (loc := [.ref 0, .int ws, .int s, .int w]) RX10 rfl (by decide +kernel) (Nat.le_of_ble_eq_true rfl) rfl ?_
  refine aw_iload_1 dX10_years_0 ?_
  refine ak_iconst_1 dX10_years_1 ?_
  refine ak_bipush_60 dX10_years_2 ?_
  refine ce_X10_69 dX10_years_4 (k_X10_within _ ws 1 60) ?_
  by_cases h1 : 1 ≤ ws ∧ ws ≤ 60
  · refine aw_if_eq 23 dX10_years_7 (by decide) (fun hh => absurd hh (bI_n h1)) (fun _ => ?_)
    refine aw_iload_2 dX10_years_10 ?_
    refine aw_if_lt 23 dX10_years_11 (by decide) (fun h2 => ?_) (fun h2 => ?_)
    · refine ak_bipush_m102 dX10_years_23 ?_
      exact aw_iret dX10_years_25 rfl (⟨rfl, rfl⟩)
    refine aw_iload_3 dX10_years_14 ?_
    refine ak_iconst_0 dX10_years_15 ?_
    refine ak_iconst_2 dX10_years_16 ?_
    refine ce_X10_69 dX10_years_17 (k_X10_within _ w 0 2) ?_
    refine aw_if_ne 26 dX10_years_20 (by decide) (fun hh => absurd (bI_f (fun q => ho ⟨h1, h2, q⟩)) hh) (fun _ => ?_)
    refine ak_bipush_m102 dX10_years_23 ?_
    exact aw_iret dX10_years_25 rfl (⟨rfl, rfl⟩)
  refine aw_if_eq 23 dX10_years_7 (by decide) (fun _ => ?_) (fun hh => absurd (bI_f h1) hh)
  refine ak_bipush_m102 dX10_years_23 ?_
  exact aw_iret dX10_years_25 rfl (⟨rfl, rfl⟩)
theorem m_years_st (rd : Int32) (pl : Nat) (pc : Nat → Nat) (ra up f0 su nn : Nat) (wk : Int32) (ki we ow fr of : Nat → Nat) (oc : Nat) (oa ob os : Nat → Nat) (K : mk_T) (x : ms_T) (ws s w : Int32) (ho : (1 ≤ ws ∧ ws ≤ 60) ∧ ¬ s < 0 ∧ 0 ≤ w ∧ w ≤ 2) (hn : nn = 0) : AM 8 yX10_years cX10_years 4 (some .int) [.ref 0, .int ws, .int s, .int w] (mw_M (rd, (pl, pc), (ra, up, f0, su, nn, wk), ki, (we, ow, fr, of), (oc, oa, ob, os)) K x) (ac_R (some (.int (-103))) (mw_M (rd, (pl, pc), (ra, up, f0, su, nn, wk), ki, (we, ow, fr, of), (oc, oa, ob, os)) K x)) := by
  refine AM.of (loc := [.ref 0, .int ws, .int s, .int w]) RX10 rfl (by decide +kernel) (Nat.le_of_ble_eq_true rfl) rfl ?_
  refine aw_iload_1 dX10_years_0 ?_
  refine ak_iconst_1 dX10_years_1 ?_
  refine ak_bipush_60 dX10_years_2 ?_
  refine ce_X10_69 dX10_years_4 (k_X10_within _ ws 1 60) ?_
  refine aw_if_eq 23 dX10_years_7 (by decide) (fun hh => absurd hh (bI_n ho.1)) (fun _ => ?_)
  refine aw_iload_2 dX10_years_10 ?_
  refine aw_if_lt 23 dX10_years_11 (by decide) (fun hh => absurd hh (ho.2.1)) (fun _ => ?_)
  refine aw_iload_3 dX10_years_14 ?_
  refine ak_iconst_0 dX10_years_15 ?_
  refine ak_iconst_2 dX10_years_16 ?_
  refine ce_X10_69 dX10_years_17 (k_X10_within _ w 0 2) ?_
  refine aw_if_ne 26 dX10_years_20 (by decide) (fun _ => ?_) (fun hh => absurd hh (bI_n ho.2.2))
  refine aw_aload_0 dX10_years_26 ?_
  refine gf_X10_93 dX10_years_27 rfl rfl ?_
  refine aw_if_neN 38 dX10_years_30 (by decide) (by omega) (fun hh => absurd hh (by omega)) (fun _ => ?_)
  refine ak_bipush_m103 dX10_years_33 ?_
  refine aw_goto 45 dX10_years_35 (by decide) ?_
  exact aw_iret dX10_years_45 rfl (⟨rfl, rfl⟩)
theorem m_years_ok (rd : Int32) (pl : Nat) (pc : Nat → Nat) (ra up f0 su nn : Nat) (wk : Int32) (ki we ow fr of : Nat → Nat) (oc : Nat) (oa ob os : Nat → Nat) (K : mk_T) (w2 o2 f2 x2 : Nat → Nat) (sm gr rw : Nat → Int32) (sd h : Int64) (ws s w : Nat) (ho : ((1 : Int32) ≤ nI ws ∧ nI ws ≤ 60) ∧ ¬ nI s < 0 ∧ (0 : Int32) ≤ nI w ∧ nI w ≤ 2) (hws : ws ≤ 60) (hs : s < 2147483648) (hw : w < 3) (hok : ok_T (ra, up, f0, su, nn, wk, ki, we, ow, fr, of)) (hn : 0 < nn) : AM 8 yX10_years cX10_years 4 (some .int) [.ref 0, .int (nI ws), .int (nI s), .int (nI w)] (mw_M (rd, (pl, pc), (ra, up, f0, su, nn, wk), ki, (jn_N 5 we w2, jn_N 25 ow o2, jn_N 25 fr f2, jn_N 25 of x2), (oc, oa, ob, os)) K (sm, gr, rw, sd, h)) (fun r w' => r = some (.int (ye_I (ra, up, f0, su, nn, wk, ki, we, ow, fr, of) s ws w)) ∧ ∃ (w2 o2 f2 x2 : Nat → Nat) (sd : Int64), w' = (mw_M (rd, (pl, pc), (ra, up, f0, su, nn, wk), ki, (jn_N 5 we w2, jn_N 25 ow o2, jn_N 25 fr f2, jn_N 25 of x2), (oc, oa, ob, os)) K (sm, gr, rw, sd, h))) := by
  have hn5 : nn ≤ 5 := hok.2.2.2.2.1
  refine AM.of (loc := [.ref 0, .int (nI ws), .int (nI s), .int (nI w)]) RX10 rfl (by decide +kernel) (Nat.le_of_ble_eq_true rfl) rfl ?_
  refine aw_iload_1 dX10_years_0 ?_
  refine ak_iconst_1 dX10_years_1 ?_
  refine ak_bipush_60 dX10_years_2 ?_
  refine ce_X10_69 dX10_years_4 (k_X10_within _ (nI ws) 1 60) ?_
  refine aw_if_eq 23 dX10_years_7 (by decide) (fun hh => absurd hh (bI_n ho.1)) (fun _ => ?_)
  refine aw_iload_2 dX10_years_10 ?_
  refine aw_if_lt 23 dX10_years_11 (by decide) (fun hh => absurd hh (ho.2.1)) (fun _ => ?_)
  refine aw_iload_3 dX10_years_14 ?_
  refine ak_iconst_0 dX10_years_15 ?_
  refine ak_iconst_2 dX10_years_16 ?_
  refine ce_X10_69 dX10_years_17 (k_X10_within _ (nI w) 0 2) ?_
  refine aw_if_ne 26 dX10_years_20 (by decide) (fun _ => ?_) (fun hh => absurd hh (bI_n ho.2.2))
  refine aw_aload_0 dX10_years_26 ?_
  refine gf_X10_93 dX10_years_27 rfl rfl ?_
  refine aw_if_neN 38 dX10_years_30 (by decide) (by omega) (fun _ => ?_) (fun hh => absurd hh (by omega))
  refine aw_aload_0 dX10_years_38 ?_
  refine aw_iload_1 dX10_years_39 ?_
  refine aw_iload_2 dX10_years_40 ?_
  refine aw_iload_3 dX10_years_41 ?_
  refine ca_X10_206 dX10_years_42 rfl (k_X10_yearsNow rd pl pc ra up f0 su nn wk ki we ow fr of oc oa ob os K w2 o2 f2 x2 sm gr rw sd h ws s w hws hs hw hok hn) (fun r w1 hc => ?_)
  obtain ⟨rfl, a1, a2, a3, a4, a5, rfl⟩ := hc
  exact aw_iret dX10_years_45 rfl (⟨rfl, a1, a2, a3, a4, a5, rfl⟩)
