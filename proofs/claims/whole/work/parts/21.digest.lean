/-! ===== the class's digest ===== -/
/-- so many numbers mixed in -/
def mf_L (f : Nat → Int32) : Nat → Int64 → Int64
  | 0, h => h
  | n + 1, h => 31 * mf_L f n h + (f n).toInt64
/-- what is mixed in of one and the others -/
def mo_L (ow fr of : Nat → Nat) (p : Nat) : Nat → Int64 → Int64
  | 0, h => h
  | j + 1, h => if j = p then mo_L ow fr of p j h else mf_L (bw_I ow fr of (5 * p + j)) 3 (mo_L ow fr of p j h)
def dp_L (t : tw_T) (p : Nat) (h : Int64) : Int64 := match t with
  | (ra, up, f0, su, nn, wk, ki, we, ow, fr, of) => mo_L ow fr of p nn (31 * mf_L (ab_I nn ki we ow p) 6 h + (rn_I (ra, up, f0, su, nn, wk, ki, we, ow, fr, of) p 41).toInt64)
def da_L (t : tw_T) : Nat → Int64 → Int64
  | 0, h => h
  | j + 1, h => dp_L t j (da_L t j h)
theorem k_X9_digestPerson (ik : Nat) (rd : Int32) (pl : Nat) (pc : Nat → Nat) (ra up f0 su nn : Nat) (wk : Int32) (ki we ow fr of : Nat → Nat) (t1 t2 : tw_T) (oc : Nat) (oa ob os : Nat → Nat) (o1 : of_T) (xr : (Nat → Int32) × (Nat → Int32) × Int32 × Int32) (xs : (Nat → Int32) × (Nat → Int32)) (xa : Int32 × Int32) (sd : Int32) (h : Int64) (p : Nat) (hok : ok_T (ra, up, f0, su, nn, wk, ki, we, ow, fr, of)) (hp : p < nn) : AM 9 yX9_digestPerson cX9_digestPerson 8 (some .long) [.ref 0, .long h, .int (nI p)] (cw_C (ik, rd) (pl, pc) (ra, up, f0, su, nn, wk, ki, we, ow, fr, of) t1 t2 (oc, oa, ob, os) o1 (xr, xs, xa, sd, rk_F (ra, up, f0, su, nn, wk, ki, we, ow, fr, of) 41)) (ac_R (some (.long (dp_L (ra, up, f0, su, nn, wk, ki, we, ow, fr, of) p h))) (cw_C (ik, rd) (pl, pc) (ra, up, f0, su, nn, wk, ki, we, ow, fr, of) t1 t2 (oc, oa, ob, os) o1 (xr, xs, xa, sd, rk_F (ra, up, f0, su, nn, wk, ki, we, ow, fr, of) 41))) := by
  have hn : nn ≤ 5 := hok.2.2.2.2.1
  refine AM.of (loc := [.ref 0, .long h, .null, .int (nI p), .null, .null, .null, .null]) RX9 rfl (by decide +kernel) (Nat.le_of_ble_eq_true rfl) rfl ?_
  refine aw_lload_1 dX9_digestPerson_0 ?_
  refine aw_lstore_4 dX9_digestPerson_1 rfl (Nat.le_of_ble_eq_true rfl) ?_
  refine akN_iconst_0 dX9_digestPerson_3 ?_
  refine aw_istore_6 dX9_digestPerson_4 rfl (Nat.le_of_ble_eq_true rfl) ?_
  have others : ∀ k j, j + k = nn → ∀ j7 : Value, AW 9 RX9 cX9_digestPerson 8 (some .long) 41 (ac_R (some (.long (dp_L (ra, up, f0, su, nn, wk, ki, we, ow, fr, of) p h))) (cw_C (ik, rd) (pl, pc) (ra, up, f0, su, nn, wk, ki, we, ow, fr, of) t1 t2 (oc, oa, ob, os) o1 (xr, xs, xa, sd, rk_F (ra, up, f0, su, nn, wk, ki, we, ow, fr, of) 41))) 54 [.ref 0, .long h, .null, .int (nI p), .long (mo_L ow fr of p j (31 * mf_L (ab_I nn ki we ow p) 6 h + (rn_I (ra, up, f0, su, nn, wk, ki, we, ow, fr, of) p 41).toInt64)), .null, .int (nI j), j7] [] (cw_C (ik, rd) (pl, pc) (ra, up, f0, su, nn, wk, ki, we, ow, fr, of) t1 t2 (oc, oa, ob, os) o1 (xr, xs, xa, sd, rk_F (ra, up, f0, su, nn, wk, ki, we, ow, fr, of) 41)) := by
    intro k
    induction k with
    | zero =>
      intro j hj j7
      obtain rfl : j = nn := by omega
      refine aw_iload_6 dX9_digestPerson_54 ?_
      refine aw_aload_0 dX9_digestPerson_56 ?_
      refine gf_X9_19 dX9_digestPerson_57 rfl rfl ?_
      refine gf_X9_108 dX9_digestPerson_60 rfl rfl ?_
      refine aw_icmp_geN 115 dX9_digestPerson_63 (by decide) (by omega) (by omega) (fun _ => ?_) (fun hh => absurd hh (by omega))
      refine aw_lload_4 dX9_digestPerson_115 ?_
      exact aw_lret dX9_digestPerson_117 rfl (⟨rfl, rfl⟩)
    | succ k ih =>
      intro j hj j7
      refine aw_iload_6 dX9_digestPerson_54 ?_
      refine aw_aload_0 dX9_digestPerson_56 ?_
      refine gf_X9_19 dX9_digestPerson_57 rfl rfl ?_
      refine gf_X9_108 dX9_digestPerson_60 rfl rfl ?_
      refine aw_icmp_geN 115 dX9_digestPerson_63 (by decide) (by omega) (by omega) (fun hh => absurd hh (by omega)) (fun _ => ?_)
      refine aw_iload_6 dX9_digestPerson_66 ?_
      refine aw_iload_3 dX9_digestPerson_68 ?_
      refine aw_icmp_neN 75 dX9_digestPerson_69 (by decide) (by omega) (by omega) (fun q => ?_) (fun q => ?_)
      · have hb : hb_P nn (nI p) (nI j) := ⟨hs_of hp (by omega), hs_of (by omega) (by omega), fun e => q ((nI_eq (by omega) (by omega)).mp e).symm⟩
        refine akN_iconst_0 dX9_digestPerson_75 ?_
        refine aw_istore_7 dX9_digestPerson_76 rfl (Nat.le_of_ble_eq_true rfl) ?_
        have inner : ∀ i m, m + i = 3 → AW 9 RX9 cX9_digestPerson 8 (some .long) 41 (ac_R (some (.long (dp_L (ra, up, f0, su, nn, wk, ki, we, ow, fr, of) p h))) (cw_C (ik, rd) (pl, pc) (ra, up, f0, su, nn, wk, ki, we, ow, fr, of) t1 t2 (oc, oa, ob, os) o1 (xr, xs, xa, sd, rk_F (ra, up, f0, su, nn, wk, ki, we, ow, fr, of) 41))) 78 [.ref 0, .long h, .null, .int (nI p), .long (mf_L (bw_I ow fr of (5 * p + j)) m (mo_L ow fr of p j (31 * mf_L (ab_I nn ki we ow p) 6 h + (rn_I (ra, up, f0, su, nn, wk, ki, we, ow, fr, of) p 41).toInt64))), .null, .int (nI j), .int (nI m)] [] (cw_C (ik, rd) (pl, pc) (ra, up, f0, su, nn, wk, ki, we, ow, fr, of) t1 t2 (oc, oa, ob, os) o1 (xr, xs, xa, sd, rk_F (ra, up, f0, su, nn, wk, ki, we, ow, fr, of) 41)) := by
          intro i
          induction i with
          | zero =>
            intro m hm
            obtain rfl : m = 3 := by omega
            refine aw_iload_7 dX9_digestPerson_78 ?_
            refine akN_iconst_2 dX9_digestPerson_80 ?_
            refine aw_icmp_gtN 109 dX9_digestPerson_81 (by decide) (by omega) (by omega) (fun _ => ?_) (fun hh => absurd hh (by omega))
            refine aw_iincN_6 dX9_digestPerson_109 rfl (Nat.le_of_ble_eq_true rfl) ?_
            refine aw_goto 54 dX9_digestPerson_112 (by decide) ?_
            have e : mo_L ow fr of p (j + 1) (31 * mf_L (ab_I nn ki we ow p) 6 h + (rn_I (ra, up, f0, su, nn, wk, ki, we, ow, fr, of) p 41).toInt64) = mf_L (bw_I ow fr of (5 * p + j)) 3 (mo_L ow fr of p j (31 * mf_L (ab_I nn ki we ow p) 6 h + (rn_I (ra, up, f0, su, nn, wk, ki, we, ow, fr, of) p 41).toInt64)) := if_neg q
            rw [← e]
            exact ih (j + 1) (by omega) _
          | succ i ihi =>
            intro m hm
            refine aw_iload_7 dX9_digestPerson_78 ?_
            refine akN_iconst_2 dX9_digestPerson_80 ?_
            refine aw_icmp_gtN 109 dX9_digestPerson_81 (by decide) (by omega) (by omega) (fun hh => absurd hh (by omega)) (fun _ => ?_)
            refine aw_ldc2 gq_659 dX9_digestPerson_84 ?_
            refine aw_lload_4 dX9_digestPerson_87 ?_
            refine aw_lmul dX9_digestPerson_89 ?_
            refine aw_aload_0 dX9_digestPerson_90 ?_
            refine aw_iload_3 dX9_digestPerson_91 ?_
            refine aw_iload_6 dX9_digestPerson_92 ?_
            refine aw_iload_7 dX9_digestPerson_94 ?_
            refine ce_X9_288 dX9_digestPerson_96 rfl (c_between_ok ik rd pl pc ra up f0 su nn wk ki we ow fr of t1 t2 oc oa ob os o1 _ p j m (by omega) (by omega) hb (by omega)) ?_
            refine aw_i2l dX9_digestPerson_99 ?_
            refine aw_ladd dX9_digestPerson_100 ?_
            refine aw_lstore_4 dX9_digestPerson_101 rfl (Nat.le_of_ble_eq_true rfl) ?_
            refine aw_iincN_7 dX9_digestPerson_103 rfl (Nat.le_of_ble_eq_true rfl) ?_
            refine aw_goto 78 dX9_digestPerson_106 (by decide) ?_
            exact ihi (m + 1) (by omega)
        exact inner 3 0 (by omega)
      · refine aw_goto 109 dX9_digestPerson_72 (by decide) ?_
        refine aw_iincN_6 dX9_digestPerson_109 rfl (Nat.le_of_ble_eq_true rfl) ?_
        refine aw_goto 54 dX9_digestPerson_112 (by decide) ?_
        have e : mo_L ow fr of p (j + 1) (31 * mf_L (ab_I nn ki we ow p) 6 h + (rn_I (ra, up, f0, su, nn, wk, ki, we, ow, fr, of) p 41).toInt64) = mo_L ow fr of p j (31 * mf_L (ab_I nn ki we ow p) 6 h + (rn_I (ra, up, f0, su, nn, wk, ki, we, ow, fr, of) p 41).toInt64) := if_pos q
        rw [← e]
        exact ih (j + 1) (by omega) _
  have abouts : ∀ k m, m + k = 6 → AW 9 RX9 cX9_digestPerson 8 (some .long) 41 (ac_R (some (.long (dp_L (ra, up, f0, su, nn, wk, ki, we, ow, fr, of) p h))) (cw_C (ik, rd) (pl, pc) (ra, up, f0, su, nn, wk, ki, we, ow, fr, of) t1 t2 (oc, oa, ob, os) o1 (xr, xs, xa, sd, rk_F (ra, up, f0, su, nn, wk, ki, we, ow, fr, of) 41))) 6 [.ref 0, .long h, .null, .int (nI p), .long (mf_L (ab_I nn ki we ow p) m h), .null, .int (nI m), .null] [] (cw_C (ik, rd) (pl, pc) (ra, up, f0, su, nn, wk, ki, we, ow, fr, of) t1 t2 (oc, oa, ob, os) o1 (xr, xs, xa, sd, rk_F (ra, up, f0, su, nn, wk, ki, we, ow, fr, of) 41)) := by
    intro k
    induction k with
    | zero =>
      intro m hm
      obtain rfl : m = 6 := by omega
      refine aw_iload_6 dX9_digestPerson_6 ?_
      refine akN_iconst_5 dX9_digestPerson_8 ?_
      refine aw_icmp_gtN 35 dX9_digestPerson_9 (by decide) (by omega) (by omega) (fun _ => ?_) (fun hh => absurd hh (by omega))
      refine aw_ldc2 gq_659 dX9_digestPerson_35 ?_
      refine aw_lload_4 dX9_digestPerson_38 ?_
      refine aw_lmul dX9_digestPerson_40 ?_
      refine aw_aload_0 dX9_digestPerson_41 ?_
      refine gf_X9_67 dX9_digestPerson_42 rfl rfl ?_
      refine aw_iload_3 dX9_digestPerson_45 ?_
      refine aw_ialdI dX9_digestPerson_46 rfl (by omega) ?_
      refine aw_topi (show rk_F (ra, up, f0, su, nn, wk, ki, we, ow, fr, of) 41 p = rn_I (ra, up, f0, su, nn, wk, ki, we, ow, fr, of) p 41 from if_pos hp) ?_
      refine aw_i2l dX9_digestPerson_47 ?_
      refine aw_ladd dX9_digestPerson_48 ?_
      refine aw_lstore_4 dX9_digestPerson_49 rfl (Nat.le_of_ble_eq_true rfl) ?_
      refine akN_iconst_0 dX9_digestPerson_51 ?_
      refine aw_istore_6 dX9_digestPerson_52 rfl (Nat.le_of_ble_eq_true rfl) ?_
      exact others nn 0 (by omega) _
    | succ k ih =>
      intro m hm
      refine aw_iload_6 dX9_digestPerson_6 ?_
      refine akN_iconst_5 dX9_digestPerson_8 ?_
      refine aw_icmp_gtN 35 dX9_digestPerson_9 (by decide) (by omega) (by omega) (fun hh => absurd hh (by omega)) (fun _ => ?_)
      refine aw_ldc2 gq_659 dX9_digestPerson_12 ?_
      refine aw_lload_4 dX9_digestPerson_15 ?_
      refine aw_lmul dX9_digestPerson_17 ?_
      refine aw_aload_0 dX9_digestPerson_18 ?_
      refine aw_iload_3 dX9_digestPerson_19 ?_
      refine aw_iload_6 dX9_digestPerson_20 ?_
      refine ce_X9_285 dX9_digestPerson_22 rfl (c_about_ok ik rd pl pc ra up f0 su nn wk ki we ow fr of t1 t2 oc oa ob os o1 _ p m hn hp (by omega)) ?_
      refine aw_i2l dX9_digestPerson_25 ?_
      refine aw_ladd dX9_digestPerson_26 ?_
      refine aw_lstore_4 dX9_digestPerson_27 rfl (Nat.le_of_ble_eq_true rfl) ?_
      refine aw_iincN_6 dX9_digestPerson_29 rfl (Nat.le_of_ble_eq_true rfl) ?_
      refine aw_goto 6 dX9_digestPerson_32 (by decide) ?_
      exact ih (m + 1) (by omega)
  exact abouts 6 0 (by omega)
/-- DIGEST; be: what the best ring's row held before -/
def di_L (rd : Int32) (pl : Nat) (pc : Nat → Nat) (t : tw_T) (oc : Nat) (be : Nat → Int32) : Int64 := match t with
  | (ra, up, f0, su, nn, wk, ki, we, ow, fr, of) =>
    mf_L (ct_I rd pl ra up f0 su nn wk we ow oc) 11
      (mf_L (fun k => nI (pc k)) pl
        (mf_L (fun k => tl_I (se_B nn ow be) (10 + k)) 4
          (31 * (31 * (31 * da_L (ra, up, f0, su, nn, wk, ki, we, ow, fr, of) nn 809 + (st_I nn ow).toInt64) + (tl_I (se_B nn ow be) 0).toInt64) + (tl_I (se_B nn ow be) 1).toInt64)))
theorem c_digest (ik : Nat) (rd : Int32) (pl : Nat) (pc : Nat → Nat) (ra up f0 su nn : Nat) (wk : Int32) (ki we ow fr of : Nat → Nat) (t1 t2 : tw_T) (oc : Nat) (oa ob os : Nat → Nat) (o1 : of_T) (rw be : Nat → Int32) (bl bt : Int32) (sm ev : Nat → Int32) (xa : Int32 × Int32) (sd : Int32) (rk : Nat → Int32) (hpl : pl ≤ 6) (hok : ok_T (ra, up, f0, su, nn, wk, ki, we, ow, fr, of)) (hs0 : sm 0 = 0) (he0 : ev 0 = 0) : AM 10 yX9_digest cX9_digest 4 (some .long) [.ref 0] (cw_C (ik, rd) (pl, pc) (ra, up, f0, su, nn, wk, ki, we, ow, fr, of) t1 t2 (oc, oa, ob, os) o1 ((rw, be, bl, bt), (sm, ev), xa, sd, rk)) (fun r w' => r = some (.long (di_L rd pl pc (ra, up, f0, su, nn, wk, ki, we, ow, fr, of) oc be)) ∧ ∃ (rw2 sm2 ev2 : Nat → Int32), sm2 0 = 0 ∧ ev2 0 = 0 ∧ w' = (cw_C (ik, rd) (pl, pc) (ra, up, f0, su, nn, wk, ki, we, ow, fr, of) t1 (it_T (ra, up, f0, su, nn, wk, ki, we, ow, fr, of) 40) (oc, oa, ob, os) o1 ((rw2, (se_B nn ow be).2.2, nI (se_B nn ow be).2.1, nI (se_B nn ow be).1), (sm2, ev2), xa, sd, rk_F (ra, up, f0, su, nn, wk, ki, we, ow, fr, of) 41))) := by
  have hn : nn ≤ 5 := hok.2.2.2.2.1
  have how := hok.2.2.2.2.2.2.2.1
  have hu : up ≤ 1 := hok.2.1
  refine AM.of (loc := [.ref 0, .null, .null, .null]) RX9 rfl (by decide +kernel) (Nat.le_of_ble_eq_true rfl) rfl ?_
  refine aw_ldc2 gq_654 dX9_digest_0 ?_
  refine aw_lstore_1 dX9_digest_3 rfl (Nat.le_of_ble_eq_true rfl) ?_
  refine aw_aload_0 dX9_digest_4 ?_
  refine ce_X9_200 dX9_digest_5 rfl (k_X9_foreseeRuin _ _ _ _ _ _ _ (rw, be, bl, bt) (sm, ev) xa sd rk hok) ?_
  refine akN_iconst_0 dX9_digest_8 ?_
  refine aw_istore_3 dX9_digest_9 rfl (Nat.le_of_ble_eq_true rfl) ?_
  have persons : ∀ k j, j + k = nn → AW 10 RX9 cX9_digest 4 (some .long) 41 (fun r w' => r = some (.long (di_L rd pl pc (ra, up, f0, su, nn, wk, ki, we, ow, fr, of) oc be)) ∧ ∃ (rw2 sm2 ev2 : Nat → Int32), sm2 0 = 0 ∧ ev2 0 = 0 ∧ w' = (cw_C (ik, rd) (pl, pc) (ra, up, f0, su, nn, wk, ki, we, ow, fr, of) t1 (it_T (ra, up, f0, su, nn, wk, ki, we, ow, fr, of) 40) (oc, oa, ob, os) o1 ((rw2, (se_B nn ow be).2.2, nI (se_B nn ow be).2.1, nI (se_B nn ow be).1), (sm2, ev2), xa, sd, rk_F (ra, up, f0, su, nn, wk, ki, we, ow, fr, of) 41))) 10 [.ref 0, .long (da_L (ra, up, f0, su, nn, wk, ki, we, ow, fr, of) j 809), .null, .int (nI j)] [] (cw_C (ik, rd) (pl, pc) (ra, up, f0, su, nn, wk, ki, we, ow, fr, of) t1 (it_T (ra, up, f0, su, nn, wk, ki, we, ow, fr, of) 40) (oc, oa, ob, os) o1 ((rw, be, bl, bt), (sm, ev), xa, sd, rk_F (ra, up, f0, su, nn, wk, ki, we, ow, fr, of) 41)) := by
    intro k
    induction k with
    | succ k ih =>
      intro j hj
      refine aw_iload_3 dX9_digest_10 ?_
      refine aw_aload_0 dX9_digest_11 ?_
      refine gf_X9_19 dX9_digest_12 rfl rfl ?_
      refine gf_X9_108 dX9_digest_15 rfl rfl ?_
      refine aw_icmp_geN 34 dX9_digest_18 (by decide) (by omega) (by omega) (fun hh => absurd hh (by omega)) (fun _ => ?_)
      refine aw_aload_0 dX9_digest_21 ?_
      refine aw_lload_1 dX9_digest_22 ?_
      refine aw_iload_3 dX9_digest_23 ?_
      refine ce_X9_274 dX9_digest_24 rfl (k_X9_digestPerson ik rd pl pc ra up f0 su nn wk ki we ow fr of t1 _ oc oa ob os o1 (rw, be, bl, bt) (sm, ev) xa sd _ j hok (by omega)) ?_
      refine aw_lstore_1 dX9_digest_27 rfl (Nat.le_of_ble_eq_true rfl) ?_
      refine aw_iincN_3 dX9_digest_28 rfl (Nat.le_of_ble_eq_true rfl) ?_
      refine aw_goto 10 dX9_digest_31 (by decide) ?_
      exact ih (j + 1) (by omega)
    | zero =>
      intro j hj
      obtain rfl : j = nn := by omega
      refine aw_iload_3 dX9_digest_10 ?_
      refine aw_aload_0 dX9_digest_11 ?_
      refine gf_X9_19 dX9_digest_12 rfl rfl ?_
      refine gf_X9_108 dX9_digest_15 rfl rfl ?_
      refine aw_icmp_geN 34 dX9_digest_18 (by decide) (by omega) (by omega) (fun _ => ?_) (fun hh => absurd hh (by omega))
      refine aw_ldc2 gq_659 dX9_digest_34 ?_
      refine aw_lload_1 dX9_digest_37 ?_
      refine aw_lmul dX9_digest_38 ?_
      refine aw_aload_0 dX9_digest_39 ?_
      refine gf_X9_49 dX9_digest_40 rfl rfl ?_
      refine aw_aload_0 dX9_digest_43 ?_
      refine gf_X9_19 dX9_digest_44 rfl rfl ?_
      refine ca_X9_203 dX9_digest_47 rfl (k_X7_fewestPayments _ _ _ _ _ _ (rw, be, bl, bt) sm ev xa sd _ ra up f0 su j wk ki we ow fr of hn how hs0 he0) (fun r w1 hc => ?_)
      obtain ⟨rfl, sm2, ev2, q1, q2, rfl⟩ := hc
      refine aw_i2l dX9_digest_50 ?_
      refine aw_ladd dX9_digest_51 ?_
      refine aw_lstore_1 dX9_digest_52 rfl (Nat.le_of_ble_eq_true rfl) ?_
      refine aw_aload_0 dX9_digest_53 ?_
      refine gf_X9_42 dX9_digest_54 rfl rfl ?_
      refine aw_aload_0 dX9_digest_57 ?_
      refine gf_X9_19 dX9_digest_58 rfl rfl ?_
      refine ca_X9_207 dX9_digest_61 rfl (k_X6_search _ _ _ _ _ _ rw be bl bt (sm2, ev2) xa sd _ ra up f0 su j wk ki we ow fr of hn how) (fun r w1 hc => ?_)
      obtain ⟨rfl, rw2, rfl⟩ := hc
      refine aw_ldc2 gq_659 dX9_digest_64 ?_
      refine aw_lload_1 dX9_digest_67 ?_
      refine aw_lmul dX9_digest_68 ?_
      refine aw_aload_0 dX9_digest_69 ?_
      refine gf_X9_42 dX9_digest_70 rfl rfl ?_
      refine akN_iconst_0 dX9_digest_73 ?_
      refine ce_X9_211 dX9_digest_74 rfl (k_X6_tell _ _ _ _ _ _ _ rw2 _ xa sd _ (se_B j ow be) 0 (ok_se j ow be) (by omega)) ?_
      refine aw_i2l dX9_digest_77 ?_
      refine aw_ladd dX9_digest_78 ?_
      refine aw_lstore_1 dX9_digest_79 rfl (Nat.le_of_ble_eq_true rfl) ?_
      refine aw_ldc2 gq_659 dX9_digest_80 ?_
      refine aw_lload_1 dX9_digest_83 ?_
      refine aw_lmul dX9_digest_84 ?_
      refine aw_aload_0 dX9_digest_85 ?_
      refine gf_X9_42 dX9_digest_86 rfl rfl ?_
      refine akN_iconst_1 dX9_digest_89 ?_
      refine ce_X9_211 dX9_digest_90 rfl (k_X6_tell _ _ _ _ _ _ _ rw2 _ xa sd _ (se_B j ow be) 1 (ok_se j ow be) (by omega)) ?_
      refine aw_i2l dX9_digest_93 ?_
      refine aw_ladd dX9_digest_94 ?_
      refine aw_lstore_1 dX9_digest_95 rfl (Nat.le_of_ble_eq_true rfl) ?_
      refine akN_iconst_0 dX9_digest_96 ?_
      refine aw_istore_3 dX9_digest_97 rfl (Nat.le_of_ble_eq_true rfl) ?_
      have counts : ∀ k m h, m + k = 11 → mf_L (ct_I rd pl ra up f0 su j wk we ow oc) m h = mf_L (ct_I rd pl ra up f0 su j wk we ow oc) m h → (∀ z : Int64, z = mf_L (ct_I rd pl ra up f0 su j wk we ow oc) m h → mf_L (ct_I rd pl ra up f0 su j wk we ow oc) 11 h = di_L rd pl pc (ra, up, f0, su, j, wk, ki, we, ow, fr, of) oc be → AW 10 RX9 cX9_digest 4 (some .long) 41 (fun r w' => r = some (.long (di_L rd pl pc (ra, up, f0, su, j, wk, ki, we, ow, fr, of) oc be)) ∧ ∃ (rw2 sm2 ev2 : Nat → Int32), sm2 0 = 0 ∧ ev2 0 = 0 ∧ w' = (cw_C (ik, rd) (pl, pc) (ra, up, f0, su, j, wk, ki, we, ow, fr, of) t1 (it_T (ra, up, f0, su, j, wk, ki, we, ow, fr, of) 40) (oc, oa, ob, os) o1 ((rw2, (se_B j ow be).2.2, nI (se_B j ow be).2.1, nI (se_B j ow be).1), (sm2, ev2), xa, sd, rk_F (ra, up, f0, su, j, wk, ki, we, ow, fr, of) 41))) 166 [.ref 0, .long z, .null, .int (nI m)] [] (cw_C (ik, rd) (pl, pc) (ra, up, f0, su, j, wk, ki, we, ow, fr, of) t1 (it_T (ra, up, f0, su, j, wk, ki, we, ow, fr, of) 40) (oc, oa, ob, os) o1 ((rw2, (se_B j ow be).2.2, nI (se_B j ow be).2.1, nI (se_B j ow be).1), (sm2, ev2), xa, sd, rk_F (ra, up, f0, su, j, wk, ki, we, ow, fr, of) 41))) := by
        intro k
        induction k with
        | zero =>
          intro m h hm _ z hz he
          obtain rfl : m = 11 := by omega
          refine aw_iload_3 dX9_digest_166 ?_
          refine akN_bipush_10 dX9_digest_167 ?_
          refine aw_icmp_gtN 191 dX9_digest_169 (by decide) (by omega) (by omega) (fun _ => ?_) (fun hh => absurd hh (by omega))
          refine aw_lload_1 dX9_digest_191 ?_
          exact aw_lret dX9_digest_192 rfl (⟨by rw [hz, he], rw2, sm2, ev2, q1, q2, rfl⟩)
        | succ k ih =>
          intro m h hm _ z hz he
          refine aw_iload_3 dX9_digest_166 ?_
          refine akN_bipush_10 dX9_digest_167 ?_
          refine aw_icmp_gtN 191 dX9_digest_169 (by decide) (by omega) (by omega) (fun hh => absurd hh (by omega)) (fun _ => ?_)
          refine aw_ldc2 gq_659 dX9_digest_172 ?_
          refine aw_lload_1 dX9_digest_175 ?_
          refine aw_lmul dX9_digest_176 ?_
          refine aw_aload_0 dX9_digest_177 ?_
          refine aw_iload_3 dX9_digest_178 ?_
          refine ce_X9_283 dX9_digest_179 rfl (c_count_ok ik rd pl pc ra up f0 su j wk ki we ow fr of t1 _ oc oa ob os o1 _ m hn hu (by omega)) ?_
          refine aw_i2l dX9_digest_182 ?_
          refine aw_ladd dX9_digest_183 ?_
          refine aw_lstore_1 dX9_digest_184 rfl (Nat.le_of_ble_eq_true rfl) ?_
          refine aw_iincN_3 dX9_digest_185 rfl (Nat.le_of_ble_eq_true rfl) ?_
          refine aw_goto 166 dX9_digest_188 (by decide) ?_
          exact ih (m + 1) h (by omega) rfl _ (by rw [hz]; rfl) he
      have codes : ∀ k m h, m + k = pl → (∀ z : Int64, z = mf_L (fun k => nI (pc k)) m h → mf_L (ct_I rd pl ra up f0 su j wk we ow oc) 11 (mf_L (fun k => nI (pc k)) pl h) = di_L rd pl pc (ra, up, f0, su, j, wk, ki, we, ow, fr, of) oc be → AW 10 RX9 cX9_digest 4 (some .long) 41 (fun r w' => r = some (.long (di_L rd pl pc (ra, up, f0, su, j, wk, ki, we, ow, fr, of) oc be)) ∧ ∃ (rw2 sm2 ev2 : Nat → Int32), sm2 0 = 0 ∧ ev2 0 = 0 ∧ w' = (cw_C (ik, rd) (pl, pc) (ra, up, f0, su, j, wk, ki, we, ow, fr, of) t1 (it_T (ra, up, f0, su, j, wk, ki, we, ow, fr, of) 40) (oc, oa, ob, os) o1 ((rw2, (se_B j ow be).2.2, nI (se_B j ow be).2.1, nI (se_B j ow be).1), (sm2, ev2), xa, sd, rk_F (ra, up, f0, su, j, wk, ki, we, ow, fr, of) 41))) 130 [.ref 0, .long z, .null, .int (nI m)] [] (cw_C (ik, rd) (pl, pc) (ra, up, f0, su, j, wk, ki, we, ow, fr, of) t1 (it_T (ra, up, f0, su, j, wk, ki, we, ow, fr, of) 40) (oc, oa, ob, os) o1 ((rw2, (se_B j ow be).2.2, nI (se_B j ow be).2.1, nI (se_B j ow be).1), (sm2, ev2), xa, sd, rk_F (ra, up, f0, su, j, wk, ki, we, ow, fr, of) 41))) := by
        intro k
        induction k with
        | zero =>
          intro m h hm z hz he
          obtain rfl : m = pl := by omega
          refine aw_iload_3 dX9_digest_130 ?_
          refine aw_aload_0 dX9_digest_131 ?_
          refine gf_X9_12 dX9_digest_132 rfl rfl ?_
          refine gf_X9_75 dX9_digest_135 rfl rfl ?_
          refine aw_icmp_geN 164 dX9_digest_138 (by decide) (by omega) (by omega) (fun _ => ?_) (fun hh => absurd hh (by omega))
          refine akN_iconst_0 dX9_digest_164 ?_
          refine aw_istore_3 dX9_digest_165 rfl (Nat.le_of_ble_eq_true rfl) ?_
          exact counts 11 0 _ (by omega) rfl _ hz he
        | succ k ih =>
          intro m h hm z hz he
          refine aw_iload_3 dX9_digest_130 ?_
          refine aw_aload_0 dX9_digest_131 ?_
          refine gf_X9_12 dX9_digest_132 rfl rfl ?_
          refine gf_X9_75 dX9_digest_135 rfl rfl ?_
          refine aw_icmp_geN 164 dX9_digest_138 (by decide) (by omega) (by omega) (fun hh => absurd hh (by omega)) (fun _ => ?_)
          refine aw_ldc2 gq_659 dX9_digest_141 ?_
          refine aw_lload_1 dX9_digest_144 ?_
          refine aw_lmul dX9_digest_145 ?_
          refine aw_aload_0 dX9_digest_146 ?_
          refine gf_X9_12 dX9_digest_147 rfl rfl ?_
          refine gf_X9_280 dX9_digest_150 rfl rfl ?_
          refine aw_iload_3 dX9_digest_153 ?_
          refine aw_ialdN dX9_digest_154 rfl (by omega) ?_
          refine aw_i2l dX9_digest_155 ?_
          refine aw_ladd dX9_digest_156 ?_
          refine aw_lstore_1 dX9_digest_157 rfl (Nat.le_of_ble_eq_true rfl) ?_
          refine aw_iincN_3 dX9_digest_158 rfl (Nat.le_of_ble_eq_true rfl) ?_
          refine aw_goto 130 dX9_digest_161 (by decide) ?_
          exact ih (m + 1) h (by omega) _ (by rw [hz]; rfl) he
      have places : ∀ k m h, m + k = 4 → (∀ z : Int64, z = mf_L (fun k => tl_I (se_B j ow be) (10 + k)) m h → mf_L (ct_I rd pl ra up f0 su j wk we ow oc) 11 (mf_L (fun k => nI (pc k)) pl (mf_L (fun k => tl_I (se_B j ow be) (10 + k)) 4 h)) = di_L rd pl pc (ra, up, f0, su, j, wk, ki, we, ow, fr, of) oc be → AW 10 RX9 cX9_digest 4 (some .long) 41 (fun r w' => r = some (.long (di_L rd pl pc (ra, up, f0, su, j, wk, ki, we, ow, fr, of) oc be)) ∧ ∃ (rw2 sm2 ev2 : Nat → Int32), sm2 0 = 0 ∧ ev2 0 = 0 ∧ w' = (cw_C (ik, rd) (pl, pc) (ra, up, f0, su, j, wk, ki, we, ow, fr, of) t1 (it_T (ra, up, f0, su, j, wk, ki, we, ow, fr, of) 40) (oc, oa, ob, os) o1 ((rw2, (se_B j ow be).2.2, nI (se_B j ow be).2.1, nI (se_B j ow be).1), (sm2, ev2), xa, sd, rk_F (ra, up, f0, su, j, wk, ki, we, ow, fr, of) 41))) 98 [.ref 0, .long z, .null, .int (nI m)] [] (cw_C (ik, rd) (pl, pc) (ra, up, f0, su, j, wk, ki, we, ow, fr, of) t1 (it_T (ra, up, f0, su, j, wk, ki, we, ow, fr, of) 40) (oc, oa, ob, os) o1 ((rw2, (se_B j ow be).2.2, nI (se_B j ow be).2.1, nI (se_B j ow be).1), (sm2, ev2), xa, sd, rk_F (ra, up, f0, su, j, wk, ki, we, ow, fr, of) 41))) := by
        intro k
        induction k with
        | zero =>
          intro m h hm z hz he
          obtain rfl : m = 4 := by omega
          refine aw_iload_3 dX9_digest_98 ?_
          refine akN_iconst_4 dX9_digest_99 ?_
          refine aw_icmp_geN 128 dX9_digest_100 (by decide) (by omega) (by omega) (fun _ => ?_) (fun hh => absurd hh (by omega))
          refine akN_iconst_0 dX9_digest_128 ?_
          refine aw_istore_3 dX9_digest_129 rfl (Nat.le_of_ble_eq_true rfl) ?_
          exact codes pl 0 _ (by omega) _ hz he
        | succ k ih =>
          intro m h hm z hz he
          refine aw_iload_3 dX9_digest_98 ?_
          refine akN_iconst_4 dX9_digest_99 ?_
          refine aw_icmp_geN 128 dX9_digest_100 (by decide) (by omega) (by omega) (fun hh => absurd hh (by omega)) (fun _ => ?_)
          refine aw_ldc2 gq_659 dX9_digest_103 ?_
          refine aw_lload_1 dX9_digest_106 ?_
          refine aw_lmul dX9_digest_107 ?_
          refine aw_aload_0 dX9_digest_108 ?_
          refine gf_X9_42 dX9_digest_109 rfl rfl ?_
          refine akN_bipush_10 dX9_digest_112 ?_
          refine aw_iload_3 dX9_digest_114 ?_
          refine aw_iaddN dX9_digest_115 ?_
          refine ce_X9_211 dX9_digest_116 rfl (k_X6_tell _ _ _ _ _ _ _ rw2 _ xa sd _ (se_B j ow be) (10 + m) (ok_se j ow be) (by omega)) ?_
          refine aw_i2l dX9_digest_119 ?_
          refine aw_ladd dX9_digest_120 ?_
          refine aw_lstore_1 dX9_digest_121 rfl (Nat.le_of_ble_eq_true rfl) ?_
          refine aw_iincN_3 dX9_digest_122 rfl (Nat.le_of_ble_eq_true rfl) ?_
          refine aw_goto 98 dX9_digest_125 (by decide) ?_
          exact ih (m + 1) h (by omega) _ (by rw [hz]; rfl) he
      exact places 4 0 _ (by omega) _ rfl rfl
  exact persons nn 0 (by omega)
