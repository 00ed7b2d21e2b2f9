/-! ===== the reference: DIGEST ===== -/
def dm_L (rd : Int32) (pl : Nat) (pc : Nat → Nat) (t : tw_T) (oc : Nat) : Int64 := match t with
  | (ra, up, f0, su, nn, wk, ki, we, ow, fr, of) =>
    mf_L (ct_I rd pl ra up f0 su nn wk we ow oc) 11
      (mf_L (fun k => nI (pc k)) pl
        (mf_L (fun k => tm_I (sr_B nn ow) (10 + k)) 4
          (31 * (31 * (31 * da_L (ra, up, f0, su, nn, wk, ki, we, ow, fr, of) nn 809 + (sg_I nn ow).toInt64) + (tm_I (sr_B nn ow) 0).toInt64) + (tm_I (sr_B nn ow) 1).toInt64)))
theorem mf_0 (f : Nat → Int32) (h : Int64) : mf_L f 0 h = h := rfl
theorem m_digest (rd : Int32) (pl : Nat) (pc : Nat → Nat) (ra up f0 su nn : Nat) (wk : Int32) (ki we ow fr of : Nat → Nat) (oc : Nat) (oa ob os : Nat → Nat) (K : mk_T) (w2 o2 f2 x2 : Nat → Nat) (sm gr rw : Nat → Int32) (sd h : Int64) (hpl : pl ≤ 6) (hok : ok_T (ra, up, f0, su, nn, wk, ki, we, ow, fr, of)) : AM 10 yX10_digest cX10_digest 2 (some .long) [.ref 0] (mw_M (rd, (pl, pc), (ra, up, f0, su, nn, wk), ki, (jn_N 5 we w2, jn_N 25 ow o2, jn_N 25 fr f2, jn_N 25 of x2), (oc, oa, ob, os)) K (sm, gr, rw, sd, h)) (fun r w' => r = some (.long (dm_L rd pl pc (ra, up, f0, su, nn, wk, ki, we, ow, fr, of) oc)) ∧ ∃ (w2 o2 f2 x2 : Nat → Nat) (sm gr rw : Nat → Int32) (h : Int64), w' = (mw_M (rd, (pl, pc), (ra, up, f0, su, nn, wk), ki, (jn_N 5 we w2, jn_N 25 ow o2, jn_N 25 fr f2, jn_N 25 of x2), (oc, oa, ob, os)) K (sm, gr, rw, sd, h))) := by
  have hn : nn ≤ 5 := hok.2.2.2.2.1
  have how := hok.2.2.2.2.2.2.2.1
  refine AM.of (loc := [.ref 0, .null]) RX10 rfl (by decide +kernel) (Nat.le_of_ble_eq_true rfl) rfl ?_
  refine aw_aload_0 dX10_digest_0 ?_
  refine aw_ldc2 gq_1024 dX10_digest_1 ?_
  refine pf_X10_245 dX10_digest_4 rfl (Nat.le_of_ble_eq_true rfl) ?_
  refine aw_w cm_0_35 ?_
  refine akN_iconst_0 dX10_digest_7 ?_
  refine aw_istore_1 dX10_digest_8 rfl (Nat.le_of_ble_eq_true rfl) ?_
  have counts : ∀ (h : Int64), mf_L (ct_I rd pl ra up f0 su nn wk we ow oc) 11 h = dm_L rd pl pc (ra, up, f0, su, nn, wk, ki, we, ow, fr, of) oc → ∀ (w2 o2 f2 x2 : Nat → Nat) (sm gr rw : Nat → Int32), ∀ k m, m + k = 11 → AW 10 RX10 cX10_digest 2 (some .long) 18 (fun r w' => r = some (.long (dm_L rd pl pc (ra, up, f0, su, nn, wk, ki, we, ow, fr, of) oc)) ∧ ∃ (w2 o2 f2 x2 : Nat → Nat) (sm gr rw : Nat → Int32) (h : Int64), w' = (mw_M (rd, (pl, pc), (ra, up, f0, su, nn, wk), ki, (jn_N 5 we w2, jn_N 25 ow o2, jn_N 25 fr f2, jn_N 25 of x2), (oc, oa, ob, os)) K (sm, gr, rw, sd, h))) 111 [.ref 0, .int (nI m)] [] (mw_M (rd, (pl, pc), (ra, up, f0, su, nn, wk), ki, (jn_N 5 we w2, jn_N 25 ow o2, jn_N 25 fr f2, jn_N 25 of x2), (oc, oa, ob, os)) K (sm, gr, rw, sd, mf_L (ct_I rd pl ra up f0 su nn wk we ow oc) m h)) := by
    intro h he w2 o2 f2 x2 sm gr rw k
    induction k with
    | zero =>
      intro m hm
      obtain rfl : m = 11 := by omega
      refine aw_iload_1 dX10_digest_111 ?_
      refine akN_bipush_11 dX10_digest_112 ?_
      refine aw_icmp_geN 133 dX10_digest_114 (by decide) (by omega) (by omega) (fun _ => ?_) (fun hh => absurd hh (by omega))
      refine aw_aload_0 dX10_digest_133 ?_
      refine gf_X10_245 dX10_digest_134 rfl rfl ?_
      exact aw_lret dX10_digest_137 rfl (⟨by rw [he], w2, o2, f2, x2, sm, gr, rw, _, rfl⟩)
    | succ k ih =>
      intro m hm
      have hA := k_X10_howMany rd pl pc ra up f0 su nn wk ki (jn_N 5 we w2) (jn_N 25 ow o2) (jn_N 25 fr f2) (jn_N 25 of x2) oc oa ob os K (sm, gr, rw, sd, mf_L (ct_I rd pl ra up f0 su nn wk we ow oc) m h) m hn (by omega)
      rw [ct_c hn rd pl ra up f0 su wk oc (fun k hk => jn_lo we w2 hk) (fun k hk => jn_lo ow o2 hk)] at hA
      refine aw_iload_1 dX10_digest_111 ?_
      refine akN_bipush_11 dX10_digest_112 ?_
      refine aw_icmp_geN 133 dX10_digest_114 (by decide) (by omega) (by omega) (fun hh => absurd hh (by omega)) (fun _ => ?_)
      refine aw_aload_0 dX10_digest_117 ?_
      refine aw_aload_0 dX10_digest_118 ?_
      refine aw_iload_1 dX10_digest_119 ?_
      refine ce_X10_240 dX10_digest_120 rfl (hA) ?_
      refine aw_i2l dX10_digest_123 ?_
      refine ce_X10_248 dX10_digest_124 rfl (k_X10_mix rd pl pc ra up f0 su nn wk ki (jn_N 5 we w2) (jn_N 25 ow o2) (jn_N 25 fr f2) (jn_N 25 of x2) oc oa ob os K sm gr rw sd _ _) ?_
      refine aw_iincN_1 dX10_digest_127 rfl (Nat.le_of_ble_eq_true rfl) ?_
      refine aw_goto 111 dX10_digest_130 (by decide) ?_
      exact ih (m + 1) (by omega)
  have codes : ∀ (h : Int64), mf_L (ct_I rd pl ra up f0 su nn wk we ow oc) 11 (mf_L (fun k => nI (pc k)) pl h) = dm_L rd pl pc (ra, up, f0, su, nn, wk, ki, we, ow, fr, of) oc → ∀ (w2 o2 f2 x2 : Nat → Nat) (sm gr rw : Nat → Int32), ∀ k m, m + k = pl → AW 10 RX10 cX10_digest 2 (some .long) 18 (fun r w' => r = some (.long (dm_L rd pl pc (ra, up, f0, su, nn, wk, ki, we, ow, fr, of) oc)) ∧ ∃ (w2 o2 f2 x2 : Nat → Nat) (sm gr rw : Nat → Int32) (h : Int64), w' = (mw_M (rd, (pl, pc), (ra, up, f0, su, nn, wk), ki, (jn_N 5 we w2, jn_N 25 ow o2, jn_N 25 fr f2, jn_N 25 of x2), (oc, oa, ob, os)) K (sm, gr, rw, sd, h))) 84 [.ref 0, .int (nI m)] [] (mw_M (rd, (pl, pc), (ra, up, f0, su, nn, wk), ki, (jn_N 5 we w2, jn_N 25 ow o2, jn_N 25 fr f2, jn_N 25 of x2), (oc, oa, ob, os)) K (sm, gr, rw, sd, mf_L (fun k => nI (pc k)) m h)) := by
    intro h he w2 o2 f2 x2 sm gr rw k
    induction k with
    | zero =>
      intro m hm
      obtain rfl : m = pl := by omega
      refine aw_iload_1 dX10_digest_84 ?_
      refine aw_aload_0 dX10_digest_85 ?_
      refine gf_X10_73 dX10_digest_86 rfl rfl ?_
      refine aw_icmp_geN 109 dX10_digest_89 (by decide) (by omega) (by omega) (fun _ => ?_) (fun hh => absurd hh (by omega))
      refine akN_iconst_0 dX10_digest_109 ?_
      refine aw_istore_1 dX10_digest_110 rfl (Nat.le_of_ble_eq_true rfl) ?_
      exact counts _ he w2 o2 f2 x2 sm gr rw 11 0 (by omega)
    | succ k ih =>
      intro m hm
      refine aw_iload_1 dX10_digest_84 ?_
      refine aw_aload_0 dX10_digest_85 ?_
      refine gf_X10_73 dX10_digest_86 rfl rfl ?_
      refine aw_icmp_geN 109 dX10_digest_89 (by decide) (by omega) (by omega) (fun hh => absurd hh (by omega)) (fun _ => ?_)
      refine aw_aload_0 dX10_digest_92 ?_
      refine aw_aload_0 dX10_digest_93 ?_
      refine gf_X10_41 dX10_digest_94 rfl rfl ?_
      refine aw_iload_1 dX10_digest_97 ?_
      refine aw_baldN dX10_digest_98 rfl (by omega) ?_
      refine aw_i2l dX10_digest_99 ?_
      refine ce_X10_248 dX10_digest_100 rfl (k_X10_mix rd pl pc ra up f0 su nn wk ki (jn_N 5 we w2) (jn_N 25 ow o2) (jn_N 25 fr f2) (jn_N 25 of x2) oc oa ob os K sm gr rw sd _ _) ?_
      refine aw_iincN_1 dX10_digest_103 rfl (Nat.le_of_ble_eq_true rfl) ?_
      refine aw_goto 84 dX10_digest_106 (by decide) ?_
      exact ih (m + 1) (by omega)
  have hB : ∀ (w2 o2 f2 x2 : Nat → Nat) (sm gr rw : Nat → Int32) (h : Int64) (w : Nat) (hw : w < 2 ∨ (10 ≤ w ∧ w < 14)), AM 3 yX10_bestRingNow cX10_bestRingNow 9 (some .int) [.ref 0, .int (nI w)] (mw_M (rd, (pl, pc), (ra, up, f0, su, nn, wk), ki, (jn_N 5 we w2, jn_N 25 ow o2, jn_N 25 fr f2, jn_N 25 of x2), (oc, oa, ob, os)) K (sm, gr, rw, sd, h)) (fun r w' => r = some (.int (tm_I (sr_B nn ow) w)) ∧ ∃ rw : Nat → Int32, w' = (mw_M (rd, (pl, pc), (ra, up, f0, su, nn, wk), ki, (jn_N 5 we w2, jn_N 25 ow o2, jn_N 25 fr f2, jn_N 25 of x2), (oc, oa, ob, os)) K (sm, gr, rw, sd, h))) := by
    intro w2 o2 f2 x2 sm gr rw h w hw
    have hA := k_X10_bestRingNow rd pl pc ra up f0 su nn wk ki (jn_N 5 we w2) (jn_N 25 ow o2) (jn_N 25 fr f2) (jn_N 25 of x2) oc oa ob os K sm gr rw sd h w hn hw (fun k hk => by rw [jn_lo _ _ hk]; have := how k; omega)
    rw [sr_c (fun k hk => jn_lo ow o2 hk)] at hA
    exact hA
  have places : ∀ (h : Int64), mf_L (ct_I rd pl ra up f0 su nn wk we ow oc) 11 (mf_L (fun k => nI (pc k)) pl (mf_L (fun k => tm_I (sr_B nn ow) (10 + k)) 4 h)) = dm_L rd pl pc (ra, up, f0, su, nn, wk, ki, we, ow, fr, of) oc → ∀ (w2 o2 f2 x2 : Nat → Nat) (sm gr : Nat → Int32), ∀ k m, m + k = 4 → ∀ rw : Nat → Int32, AW 10 RX10 cX10_digest 2 (some .long) 18 (fun r w' => r = some (.long (dm_L rd pl pc (ra, up, f0, su, nn, wk, ki, we, ow, fr, of) oc)) ∧ ∃ (w2 o2 f2 x2 : Nat → Nat) (sm gr rw : Nat → Int32) (h : Int64), w' = (mw_M (rd, (pl, pc), (ra, up, f0, su, nn, wk), ki, (jn_N 5 we w2, jn_N 25 ow o2, jn_N 25 fr f2, jn_N 25 of x2), (oc, oa, ob, os)) K (sm, gr, rw, sd, h))) 60 [.ref 0, .int (nI (10 + m))] [] (mw_M (rd, (pl, pc), (ra, up, f0, su, nn, wk), ki, (jn_N 5 we w2, jn_N 25 ow o2, jn_N 25 fr f2, jn_N 25 of x2), (oc, oa, ob, os)) K (sm, gr, rw, sd, mf_L (fun k => tm_I (sr_B nn ow) (10 + k)) m h)) := by
    intro h he w2 o2 f2 x2 sm gr k
    induction k with
    | zero =>
      intro m hm rw
      obtain rfl : m = 4 := by omega
      refine aw_iload_1 dX10_digest_60 ?_
      refine akN_bipush_14 dX10_digest_61 ?_
      refine aw_icmp_geN 82 dX10_digest_63 (by decide) (by omega) (by omega) (fun _ => ?_) (fun hh => absurd hh (by omega))
      refine akN_iconst_0 dX10_digest_82 ?_
      refine aw_istore_1 dX10_digest_83 rfl (Nat.le_of_ble_eq_true rfl) ?_
      have hh := codes (mf_L (fun k => tm_I (sr_B nn ow) (10 + k)) 4 h) he w2 o2 f2 x2 sm gr rw pl 0 (by omega)
      rw [mf_0] at hh
      exact hh
    | succ k ih =>
      intro m hm rw
      refine aw_iload_1 dX10_digest_60 ?_
      refine akN_bipush_14 dX10_digest_61 ?_
      refine aw_icmp_geN 82 dX10_digest_63 (by decide) (by omega) (by omega) (fun hh => absurd hh (by omega)) (fun _ => ?_)
      refine aw_aload_0 dX10_digest_66 ?_
      refine aw_aload_0 dX10_digest_67 ?_
      refine aw_iload_1 dX10_digest_68 ?_
      refine ca_X10_171 dX10_digest_69 rfl (hB w2 o2 f2 x2 sm gr rw _ (10 + m) (by omega)) (fun r w1 hc => ?_)
      obtain ⟨rfl, rw, rfl⟩ := hc
      refine aw_i2l dX10_digest_72 ?_
      refine ce_X10_248 dX10_digest_73 rfl (k_X10_mix rd pl pc ra up f0 su nn wk ki (jn_N 5 we w2) (jn_N 25 ow o2) (jn_N 25 fr f2) (jn_N 25 of x2) oc oa ob os K sm gr rw sd _ _) ?_
      refine aw_iincN_1 dX10_digest_76 rfl (Nat.le_of_ble_eq_true rfl) ?_
      refine aw_goto 60 dX10_digest_79 (by decide) ?_
      exact ih (m + 1) (by omega) rw
  have persons : ∀ k j, j + k = nn → ∀ (w2 o2 f2 x2 : Nat → Nat), AW 10 RX10 cX10_digest 2 (some .long) 18 (fun r w' => r = some (.long (dm_L rd pl pc (ra, up, f0, su, nn, wk, ki, we, ow, fr, of) oc)) ∧ ∃ (w2 o2 f2 x2 : Nat → Nat) (sm gr rw : Nat → Int32) (h : Int64), w' = (mw_M (rd, (pl, pc), (ra, up, f0, su, nn, wk), ki, (jn_N 5 we w2, jn_N 25 ow o2, jn_N 25 fr f2, jn_N 25 of x2), (oc, oa, ob, os)) K (sm, gr, rw, sd, h))) 9 [.ref 0, .int (nI j)] [] (mw_M (rd, (pl, pc), (ra, up, f0, su, nn, wk), ki, (jn_N 5 we w2, jn_N 25 ow o2, jn_N 25 fr f2, jn_N 25 of x2), (oc, oa, ob, os)) K (sm, gr, rw, sd, da_L (ra, up, f0, su, nn, wk, ki, we, ow, fr, of) j 809)) := by
    intro k
    induction k with
    | zero =>
      intro j hj w2 o2 f2 x2
      have hS := k_X10_settlingNow rd pl pc ra up f0 su nn wk ki (jn_N 5 we w2) (jn_N 25 ow o2) (jn_N 25 fr f2) (jn_N 25 of x2) oc oa ob os K sm gr rw sd (da_L (ra, up, f0, su, nn, wk, ki, we, ow, fr, of) nn 809) hn (fun p q hp hq => by rw [jn_lo _ _ (by omega)]; exact how _)
      rw [sg_c hn (fun k hk => jn_lo ow o2 hk)] at hS
      obtain rfl : j = nn := by omega
      refine aw_iload_1 dX10_digest_9 ?_
      refine aw_aload_0 dX10_digest_10 ?_
      refine gf_X10_93 dX10_digest_11 rfl rfl ?_
      refine aw_icmp_geN 28 dX10_digest_14 (by decide) (by omega) (by omega) (fun _ => ?_) (fun hh => absurd hh (by omega))
      refine aw_aload_0 dX10_digest_28 ?_
      refine aw_aload_0 dX10_digest_29 ?_
      refine ca_X10_164 dX10_digest_30 rfl (hS) (fun r w1 hc => ?_)
      obtain ⟨rfl, sm, gr, rfl⟩ := hc
      refine aw_i2l dX10_digest_33 ?_
      refine ce_X10_248 dX10_digest_34 rfl (k_X10_mix rd pl pc ra up f0 su j wk ki (jn_N 5 we w2) (jn_N 25 ow o2) (jn_N 25 fr f2) (jn_N 25 of x2) oc oa ob os K sm gr rw sd _ _) ?_
      refine aw_aload_0 dX10_digest_37 ?_
      refine aw_aload_0 dX10_digest_38 ?_
      refine ak_iconst_0 dX10_digest_39 ?_
      refine ca_X10_171 dX10_digest_40 rfl (hB w2 o2 f2 x2 sm gr rw _ 0 (by omega)) (fun r w1 hc => ?_)
      obtain ⟨rfl, rw, rfl⟩ := hc
      refine aw_i2l dX10_digest_43 ?_
      refine ce_X10_248 dX10_digest_44 rfl (k_X10_mix rd pl pc ra up f0 su j wk ki (jn_N 5 we w2) (jn_N 25 ow o2) (jn_N 25 fr f2) (jn_N 25 of x2) oc oa ob os K sm gr rw sd _ _) ?_
      refine aw_aload_0 dX10_digest_47 ?_
      refine aw_aload_0 dX10_digest_48 ?_
      refine ak_iconst_1 dX10_digest_49 ?_
      refine ca_X10_171 dX10_digest_50 rfl (hB w2 o2 f2 x2 sm gr rw _ 1 (by omega)) (fun r w1 hc => ?_)
      obtain ⟨rfl, rw, rfl⟩ := hc
      refine aw_i2l dX10_digest_53 ?_
      refine ce_X10_248 dX10_digest_54 rfl (k_X10_mix rd pl pc ra up f0 su j wk ki (jn_N 5 we w2) (jn_N 25 ow o2) (jn_N 25 fr f2) (jn_N 25 of x2) oc oa ob os K sm gr rw sd _ _) ?_
      refine akN_bipush_10 dX10_digest_57 ?_
      refine aw_istore_1 dX10_digest_59 rfl (Nat.le_of_ble_eq_true rfl) ?_
      exact places _ rfl w2 o2 f2 x2 sm gr 4 0 (by omega) rw
    | succ k ih =>
      intro j hj w2 o2 f2 x2
      refine aw_iload_1 dX10_digest_9 ?_
      refine aw_aload_0 dX10_digest_10 ?_
      refine gf_X10_93 dX10_digest_11 rfl rfl ?_
      refine aw_icmp_geN 28 dX10_digest_14 (by decide) (by omega) (by omega) (fun hh => absurd hh (by omega)) (fun _ => ?_)
      refine aw_aload_0 dX10_digest_17 ?_
      refine aw_iload_1 dX10_digest_18 ?_
      refine ca_X10_254 dX10_digest_19 rfl (k_X10_mixPerson rd pl pc ra up f0 su nn wk ki we ow fr of oc oa ob os K w2 o2 f2 x2 sm gr rw sd _ j hok (by omega)) (fun r w1 hc => ?_)
      obtain ⟨rfl, w2, o2, f2, x2, rfl⟩ := hc
      refine aw_iincN_1 dX10_digest_22 rfl (Nat.le_of_ble_eq_true rfl) ?_
      refine aw_goto 9 dX10_digest_25 (by decide) ?_
      exact ih (j + 1) (by omega) w2 o2 f2 x2
  exact persons nn 0 (by omega) w2 o2 f2 x2
