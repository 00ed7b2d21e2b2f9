/-! ===== what looks only at the town's own pairs ===== -/
theorem row_c {nn : Nat} (hn : nn ≤ 5) {f g : Nat → Nat} (h : ∀ k, k < 25 → f k = g k) {p : Nat} (hp : p < 5) : fb_sm (fun q => f (5 * p + q)) nn = fb_sm (fun q => g (5 * p + q)) nn := fb_sm_cong (fun q hq => h _ (by omega))
theorem col_c {nn : Nat} (hn : nn ≤ 5) {f g : Nat → Nat} (h : ∀ k, k < 25 → f k = g k) {p : Nat} (hp : p < 5) : fb_sm (fun q => f (5 * q + p)) nn = fb_sm (fun q => g (5 * q + p)) nn := fb_sm_cong (fun q hq => h _ (by omega))
theorem nt_c {nn : Nat} (hn : nn ≤ 5) {we we' f g : Nat → Nat} (hw : ∀ k, k < 5 → we k = we' k) (h : ∀ k, k < 25 → f k = g k) {p : Nat} (hp : p < 5) : nt_I nn we f p = nt_I nn we' g p := by
  unfold nt_I
  rw [row_c hn h hp, col_c hn h hp, hw p hp]
theorem si_c {f g : Nat → Int32} : ∀ {n : Nat}, (∀ k, k < n → f k = g k) → si_I f n = si_I g n
  | 0, _ => rfl
  | n + 1, h => by rw [si_I, si_I, si_c (fun k hk => h k (by omega)), h n (by omega)]
theorem ru_c {nn : Nat} (hn : nn ≤ 5) {we we' f g : Nat → Nat} (hw : ∀ k, k < 5 → we k = we' k) (h : ∀ k, k < 25 → f k = g k) : ru_I nn we f = ru_I nn we' g := si_c (fun k hk => by rw [nt_c hn hw h (by omega)])
theorem al_c {nn : Nat} (hn : nn ≤ 5) {f g : Nat → Nat} (h : ∀ k, k < 25 → f k = g k) : al_N nn f = al_N nn g := fb_sm_cong (fun p hp => row_c hn h (by omega))
theorem ab_c {nn : Nat} (hn : nn ≤ 5) {ki ki' we we' f g : Nat → Nat} (hw : ∀ k, k < 5 → we k = we' k) (h : ∀ k, k < 25 → f k = g k) {p : Nat} (hk : ki p = ki' p) (hp : p < 5) (w : Nat) : ab_I nn ki we f p w = ab_I nn ki' we' g p w := by
  unfold ab_I
  rw [row_c hn h hp, col_c hn h hp, hw p hp, nt_c hn hw h hp, hk]
theorem ct_c {nn : Nat} (hn : nn ≤ 5) (rd : Int32) (pl ra up f0 su : Nat) (wk : Int32) {we we' f g : Nat → Nat} (oc : Nat) (hw : ∀ k, k < 5 → we k = we' k) (h : ∀ k, k < 25 → f k = g k) : ct_I rd pl ra up f0 su nn wk we f oc = ct_I rd pl ra up f0 su nn wk we' g oc := by
  funext w
  unfold ct_I
  rw [ru_c hn hw h, al_c hn h]
theorem of_c {d e : Nat → Int} {n : Nat} (h : ∀ p, p < n → d p = e p) : of_B d n = of_B e n := fb_sm_cong (fun p hp => by rw [h p hp])
theorem ss_c {d e : Nat → Int} {n : Nat} (h : ∀ p, p < n → d p = e p) : ss_Z d n = ss_Z e n := funext fun g => fb_si_cong (fun p hp => by rw [h p hp])
theorem gm_c {d e : Nat → Int} {n : Nat} (h : ss_Z d n = ss_Z e n) (tab : Nat → Nat) (S off : Nat) : ∀ j, gm_N d n tab S off j = gm_N e n tab S off j
  | 0 => rfl
  | j + 1 => by
    unfold gm_N ge_P
    rw [gm_c h tab S off j, h]
theorem gt_c {d e : Nat → Int} {n : Nat} (h : ss_Z d n = ss_Z e n) (off : Nat) : ∀ g, gt_N d n off g = gt_N e n off g
  | 0 => rfl
  | 1 => rfl
  | g + 2 => by rw [gt_N, gt_N, gt_c h off (g + 1), gm_c h]
theorem dd_c {nn : Nat} (hn : nn ≤ 5) {f g : Nat → Nat} (h : ∀ k, k < 25 → f k = g k) : ∀ p, p < nn → dd_Z nn f p = dd_Z nn g p := fun p hp => by
  unfold dd_Z
  rw [row_c hn h (show p < 5 by omega), col_c hn h (show p < 5 by omega)]
theorem sg_c {nn : Nat} (hn : nn ≤ 5) {f g : Nat → Nat} (h : ∀ k, k < 25 → f k = g k) : sg_I nn f = sg_I nn g := by
  unfold sg_I
  rw [of_c (dd_c hn h), gt_c (ss_c (dd_c hn h))]
theorem rl_c {f g : Nat → Nat} (h : ∀ k, k < 25 → f k = g k) {r : Nat → Nat} (hr : ∀ k, r k < 5) (len : Nat) : ∀ j, rl_N f r len j = rl_N g r len j
  | 0 => rfl
  | j + 1 => by
    have h1 := hr j
    have h2 := hr ((j + 1) % len)
    rw [rl_N, rl_N, rl_c h hr len j, h _ (by omega)]
theorem rg_c {f g : Nat → Nat} (h : ∀ k, k < 25 → f k = g k) (nn c len : Nat) : rg_N nn f (dg_N c len) len = rg_N nn g (dg_N c len) len := by
  unfold rg_N
  rw [rl_c h (dg_lt c len)]
theorem rs_c {f g : Nat → Nat} (h : ∀ k, k < 25 → f k = g k) (nn len : Nat) : rs_F nn f len = rs_F nn g len := by
  funext c s
  unfold rs_F
  rw [rg_c h]
theorem sr_c {f g : Nat → Nat} (h : ∀ k, k < 25 → f k = g k) (nn : Nat) : sr_B nn f = sr_B nn g := by
  unfold sr_B
  rw [show (fun len s => fo_B (rs_F nn f len) 0 (5 ^ len) s) = (fun len s => fo_B (rs_F nn g len) 0 (5 ^ len) s) from funext fun len => by rw [rs_c h]]
/-! ===== the reference: digest ===== -/
theorem k_X10_mix (rd : Int32) (pl : Nat) (pc : Nat → Nat) (ra up f0 su nn : Nat) (wk : Int32) (ki we ow fr of : Nat → Nat) (oc : Nat) (oa ob os : Nat → Nat) (K : mk_T) (sm gr rw : Nat → Int32) (sd h v : Int64) : AM 1 yX10_mix cX10_mix 3 none [.ref 0, .long v] (mw_M (rd, (pl, pc), (ra, up, f0, su, nn, wk), ki, (we, ow, fr, of), (oc, oa, ob, os)) K (sm, gr, rw, sd, h)) (ac_R none (mw_M (rd, (pl, pc), (ra, up, f0, su, nn, wk), ki, (we, ow, fr, of), (oc, oa, ob, os)) K (sm, gr, rw, sd, 31 * h + v))) := by
  refine AM.of (loc := [.ref 0, .long v, .null]) RX10 rfl (by decide +kernel) (Nat.le_of_ble_eq_true rfl) rfl ?_
  refine aw_aload_0 dX10_mix_0 ?_
  refine aw_ldc2 gq_1033 dX10_mix_1 ?_
  refine aw_aload_0 dX10_mix_4 ?_
  refine gf_X10_245 dX10_mix_5 rfl rfl ?_
  refine aw_lmul dX10_mix_8 ?_
  refine aw_lload_1 dX10_mix_9 ?_
  refine aw_ladd dX10_mix_10 ?_
  refine pf_X10_245 dX10_mix_11 rfl (Nat.le_of_ble_eq_true rfl) ?_
  refine aw_w cm_0_35 ?_
  exact aw_vret dX10_mix_14 rfl (⟨rfl, rfl⟩)
theorem k_X10_mixPerson (rd : Int32) (pl : Nat) (pc : Nat → Nat) (ra up f0 su nn : Nat) (wk : Int32) (ki we ow fr of : Nat → Nat) (oc : Nat) (oa ob os : Nat → Nat) (K : mk_T) (w2 o2 f2 x2 : Nat → Nat) (sm gr rw : Nat → Int32) (sd h : Int64) (p : Nat) (hok : ok_T (ra, up, f0, su, nn, wk, ki, we, ow, fr, of)) (hp : p < nn) : AM 5 yX10_mixPerson cX10_mixPerson 4 none [.ref 0, .int (nI p)] (mw_M (rd, (pl, pc), (ra, up, f0, su, nn, wk), ki, (jn_N 5 we w2, jn_N 25 ow o2, jn_N 25 fr f2, jn_N 25 of x2), (oc, oa, ob, os)) K (sm, gr, rw, sd, h)) (fun r w' => r = none ∧ ∃ w2 o2 f2 x2 : Nat → Nat, w' = (mw_M (rd, (pl, pc), (ra, up, f0, su, nn, wk), ki, (jn_N 5 we w2, jn_N 25 ow o2, jn_N 25 fr f2, jn_N 25 of x2), (oc, oa, ob, os)) K (sm, gr, rw, sd, dp_L (ra, up, f0, su, nn, wk, ki, we, ow, fr, of) p h))) := by
  have hn : nn ≤ 5 := hok.2.2.2.2.1
  refine AM.of (loc := [.ref 0, .int (nI p), .null, .null]) RX10 rfl (by decide +kernel) (Nat.le_of_ble_eq_true rfl) rfl ?_
  refine akN_iconst_0 dX10_mixPerson_0 ?_
  refine aw_istore_2 dX10_mixPerson_1 rfl (Nat.le_of_ble_eq_true rfl) ?_
  have others : ∀ k j, j + k = nn → ∀ (w2 o2 f2 x2 : Nat → Nat) (j3 : Value), AW 5 RX10 cX10_mixPerson 4 none 18 (fun r w' => r = none ∧ ∃ w2 o2 f2 x2 : Nat → Nat, w' = (mw_M (rd, (pl, pc), (ra, up, f0, su, nn, wk), ki, (jn_N 5 we w2, jn_N 25 ow o2, jn_N 25 fr f2, jn_N 25 of x2), (oc, oa, ob, os)) K (sm, gr, rw, sd, dp_L (ra, up, f0, su, nn, wk, ki, we, ow, fr, of) p h))) 37 [.ref 0, .int (nI p), .int (nI j), j3] [] (mw_M (rd, (pl, pc), (ra, up, f0, su, nn, wk), ki, (jn_N 5 we w2, jn_N 25 ow o2, jn_N 25 fr f2, jn_N 25 of x2), (oc, oa, ob, os)) K (sm, gr, rw, sd, mo_L ow fr of p j (31 * mf_L (ab_I nn ki we ow p) 6 h + (rn_I (ra, up, f0, su, nn, wk, ki, we, ow, fr, of) p 41).toInt64))) := by
    intro k
    induction k with
    | zero =>
      intro j hj w2 o2 f2 x2 j3
      obtain rfl : j = nn := by omega
      refine aw_iload_2 dX10_mixPerson_37 ?_
      refine aw_aload_0 dX10_mixPerson_38 ?_
      refine gf_X10_93 dX10_mixPerson_39 rfl rfl ?_
      refine aw_icmp_geN 81 dX10_mixPerson_42 (by decide) (by omega) (by omega) (fun _ => ?_) (fun hh => absurd hh (by omega))
      exact aw_vret dX10_mixPerson_81 rfl (⟨rfl, w2, o2, f2, x2, rfl⟩)
    | succ k ih =>
      intro j hj w2 o2 f2 x2 j3
      refine aw_iload_2 dX10_mixPerson_37 ?_
      refine aw_aload_0 dX10_mixPerson_38 ?_
      refine gf_X10_93 dX10_mixPerson_39 rfl rfl ?_
      refine aw_icmp_geN 81 dX10_mixPerson_42 (by decide) (by omega) (by omega) (fun hh => absurd hh (by omega)) (fun _ => ?_)
      refine akN_iconst_0 dX10_mixPerson_45 ?_
      refine aw_istore_3 dX10_mixPerson_46 rfl (Nat.le_of_ble_eq_true rfl) ?_
      by_cases q : j = p
      · subst q
        refine aw_iload_3 dX10_mixPerson_47 ?_
        refine akN_iconst_3 dX10_mixPerson_48 ?_
        refine aw_icmp_geN 75 dX10_mixPerson_49 (by decide) (by omega) (by omega) (fun hh => absurd hh (by omega)) (fun _ => ?_)
        refine aw_iload_1 dX10_mixPerson_52 ?_
        refine aw_iload_2 dX10_mixPerson_53 ?_
        refine aw_icmp_eqN 75 dX10_mixPerson_54 (by decide) (by omega) (by omega) (fun _ => ?_) (fun hh => absurd hh (by omega))
        refine aw_iincN_2 dX10_mixPerson_75 rfl (Nat.le_of_ble_eq_true rfl) ?_
        refine aw_goto 37 dX10_mixPerson_78 (by decide) ?_
        have e : mo_L ow fr of j (j + 1) (31 * mf_L (ab_I nn ki we ow j) 6 h + (rn_I (ra, up, f0, su, nn, wk, ki, we, ow, fr, of) j 41).toInt64) = mo_L ow fr of j j (31 * mf_L (ab_I nn ki we ow j) 6 h + (rn_I (ra, up, f0, su, nn, wk, ki, we, ow, fr, of) j 41).toInt64) := if_pos rfl
        rw [← e]
        exact ih (j + 1) (by omega) w2 o2 f2 x2 _
      have inner : ∀ i m, m + i = 3 → AW 5 RX10 cX10_mixPerson 4 none 18 (fun r w' => r = none ∧ ∃ w2 o2 f2 x2 : Nat → Nat, w' = (mw_M (rd, (pl, pc), (ra, up, f0, su, nn, wk), ki, (jn_N 5 we w2, jn_N 25 ow o2, jn_N 25 fr f2, jn_N 25 of x2), (oc, oa, ob, os)) K (sm, gr, rw, sd, dp_L (ra, up, f0, su, nn, wk, ki, we, ow, fr, of) p h))) 47 [.ref 0, .int (nI p), .int (nI j), .int (nI m)] [] (mw_M (rd, (pl, pc), (ra, up, f0, su, nn, wk), ki, (jn_N 5 we w2, jn_N 25 ow o2, jn_N 25 fr f2, jn_N 25 of x2), (oc, oa, ob, os)) K (sm, gr, rw, sd, mf_L (bw_I ow fr of (5 * p + j)) m (mo_L ow fr of p j (31 * mf_L (ab_I nn ki we ow p) 6 h + (rn_I (ra, up, f0, su, nn, wk, ki, we, ow, fr, of) p 41).toInt64)))) := by
        intro i
        induction i with
        | zero =>
          intro m hm
          obtain rfl : m = 3 := by omega
          refine aw_iload_3 dX10_mixPerson_47 ?_
          refine akN_iconst_3 dX10_mixPerson_48 ?_
          refine aw_icmp_geN 75 dX10_mixPerson_49 (by decide) (by omega) (by omega) (fun _ => ?_) (fun hh => absurd hh (by omega))
          refine aw_iincN_2 dX10_mixPerson_75 rfl (Nat.le_of_ble_eq_true rfl) ?_
          refine aw_goto 37 dX10_mixPerson_78 (by decide) ?_
          have e : mo_L ow fr of p (j + 1) (31 * mf_L (ab_I nn ki we ow p) 6 h + (rn_I (ra, up, f0, su, nn, wk, ki, we, ow, fr, of) p 41).toInt64) = mf_L (bw_I ow fr of (5 * p + j)) 3 (mo_L ow fr of p j (31 * mf_L (ab_I nn ki we ow p) 6 h + (rn_I (ra, up, f0, su, nn, wk, ki, we, ow, fr, of) p 41).toInt64)) := if_neg q
          rw [← e]
          exact ih (j + 1) (by omega) w2 o2 f2 x2 _
        | succ i ihi =>
          intro m hm
          have hB := k_X10_betweenNow rd pl pc ra up f0 su nn wk ki (jn_N 5 we w2) (jn_N 25 ow o2) (jn_N 25 fr f2) (jn_N 25 of x2) oc oa ob os K (sm, gr, rw, sd, mf_L (bw_I ow fr of (5 * p + j)) m (mo_L ow fr of p j (31 * mf_L (ab_I nn ki we ow p) 6 h + (rn_I (ra, up, f0, su, nn, wk, ki, we, ow, fr, of) p 41).toInt64))) p j m (by omega) (by omega) (by omega)
          rw [show bw_I (jn_N 25 ow o2) (jn_N 25 fr f2) (jn_N 25 of x2) (5 * p + j) m = bw_I ow fr of (5 * p + j) m by
            unfold bw_I
            rw [jn_lo _ _ (by omega), jn_lo _ _ (by omega), jn_lo _ _ (by omega)]] at hB
          refine aw_iload_3 dX10_mixPerson_47 ?_
          refine akN_iconst_3 dX10_mixPerson_48 ?_
          refine aw_icmp_geN 75 dX10_mixPerson_49 (by decide) (by omega) (by omega) (fun hh => absurd hh (by omega)) (fun _ => ?_)
          refine aw_iload_1 dX10_mixPerson_52 ?_
          refine aw_iload_2 dX10_mixPerson_53 ?_
          refine aw_icmp_eqN 75 dX10_mixPerson_54 (by decide) (by omega) (by omega) (fun hh => absurd hh (by omega)) (fun _ => ?_)
          refine aw_aload_0 dX10_mixPerson_57 ?_
          refine aw_aload_0 dX10_mixPerson_58 ?_
          refine aw_iload_1 dX10_mixPerson_59 ?_
          refine aw_iload_2 dX10_mixPerson_60 ?_
          refine aw_iload_3 dX10_mixPerson_61 ?_
          refine ce_X10_120 dX10_mixPerson_62 rfl (hB) ?_
          refine aw_i2l dX10_mixPerson_65 ?_
          refine ce_X10_248 dX10_mixPerson_66 rfl (k_X10_mix rd pl pc ra up f0 su nn wk ki (jn_N 5 we w2) (jn_N 25 ow o2) (jn_N 25 fr f2) (jn_N 25 of x2) oc oa ob os K sm gr rw sd _ _) ?_
          refine aw_iincN_3 dX10_mixPerson_69 rfl (Nat.le_of_ble_eq_true rfl) ?_
          refine aw_goto 47 dX10_mixPerson_72 (by decide) ?_
          exact ihi (m + 1) (by omega)
      exact inner 3 0 (by omega)
  have abouts : ∀ k m, m + k = 6 → AW 5 RX10 cX10_mixPerson 4 none 18 (fun r w' => r = none ∧ ∃ w2 o2 f2 x2 : Nat → Nat, w' = (mw_M (rd, (pl, pc), (ra, up, f0, su, nn, wk), ki, (jn_N 5 we w2, jn_N 25 ow o2, jn_N 25 fr f2, jn_N 25 of x2), (oc, oa, ob, os)) K (sm, gr, rw, sd, dp_L (ra, up, f0, su, nn, wk, ki, we, ow, fr, of) p h))) 2 [.ref 0, .int (nI p), .int (nI m), .null] [] (mw_M (rd, (pl, pc), (ra, up, f0, su, nn, wk), ki, (jn_N 5 we w2, jn_N 25 ow o2, jn_N 25 fr f2, jn_N 25 of x2), (oc, oa, ob, os)) K (sm, gr, rw, sd, mf_L (ab_I nn ki we ow p) m h)) := by
    intro k
    induction k with
    | zero =>
      intro m hm
      obtain rfl : m = 6 := by omega
      refine aw_iload_2 dX10_mixPerson_2 ?_
      refine akN_bipush_6 dX10_mixPerson_3 ?_
      refine aw_icmp_geN 25 dX10_mixPerson_5 (by decide) (by omega) (by omega) (fun _ => ?_) (fun hh => absurd hh (by omega))
      refine aw_aload_0 dX10_mixPerson_25 ?_
      refine aw_aload_0 dX10_mixPerson_26 ?_
      refine aw_iload_1 dX10_mixPerson_27 ?_
      refine ca_X10_154 dX10_mixPerson_28 rfl (k_X10_ruinNow rd pl pc ra up f0 su nn wk ki we ow fr of oc oa ob os K _ w2 o2 f2 x2 p (by omega) hok) (fun r w1 hc => ?_)
      obtain ⟨rfl, w2, o2, f2, x2, rfl⟩ := hc
      refine aw_i2l dX10_mixPerson_31 ?_
      refine ce_X10_248 dX10_mixPerson_32 rfl (k_X10_mix rd pl pc ra up f0 su nn wk ki (jn_N 5 we w2) (jn_N 25 ow o2) (jn_N 25 fr f2) (jn_N 25 of x2) oc oa ob os K sm gr rw sd _ _) ?_
      refine akN_iconst_0 dX10_mixPerson_35 ?_
      refine aw_istore_2 dX10_mixPerson_36 rfl (Nat.le_of_ble_eq_true rfl) ?_
      exact others nn 0 (by omega) w2 o2 f2 x2 _
    | succ k ih =>
      intro m hm
      have hA := k_X10_personNow rd pl pc ra up f0 su nn wk ki (jn_N 5 we w2) (jn_N 25 ow o2) (jn_N 25 fr f2) (jn_N 25 of x2) oc oa ob os K (sm, gr, rw, sd, mf_L (ab_I nn ki we ow p) m h) p m (by omega) hn (by omega)
      rw [ab_c hn (fun k hk => jn_lo we w2 hk) (fun k hk => jn_lo ow o2 hk) rfl (by omega)] at hA
      refine aw_iload_2 dX10_mixPerson_2 ?_
      refine akN_bipush_6 dX10_mixPerson_3 ?_
      refine aw_icmp_geN 25 dX10_mixPerson_5 (by decide) (by omega) (by omega) (fun hh => absurd hh (by omega)) (fun _ => ?_)
      refine aw_aload_0 dX10_mixPerson_8 ?_
      refine aw_aload_0 dX10_mixPerson_9 ?_
      refine aw_iload_1 dX10_mixPerson_10 ?_
      refine aw_iload_2 dX10_mixPerson_11 ?_
      refine ce_X10_113 dX10_mixPerson_12 rfl (hA) ?_
      refine aw_i2l dX10_mixPerson_15 ?_
      refine ce_X10_248 dX10_mixPerson_16 rfl (k_X10_mix rd pl pc ra up f0 su nn wk ki (jn_N 5 we w2) (jn_N 25 ow o2) (jn_N 25 fr f2) (jn_N 25 of x2) oc oa ob os K sm gr rw sd _ _) ?_
      refine aw_iincN_2 dX10_mixPerson_19 rfl (Nat.le_of_ble_eq_true rfl) ?_
      refine aw_goto 2 dX10_mixPerson_22 (by decide) ?_
      exact ih (m + 1) (by omega)
  exact abouts 6 0 (by omega)
