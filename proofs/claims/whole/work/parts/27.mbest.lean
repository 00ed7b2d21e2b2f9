/-! ===== the reference: accepting ===== -/
def em_I : Option (Nat × Nat) → Int32 × Nat
  | none => (-1, 268435456)
  | some (c, v) => (nI c, v)
theorem vm_le {ra up f0 su nn : Nat} {wk : Int32} {ki we ow fr of : Nat → Nat} (hok : ok_T (ra, up, f0, su, nn, wk, ki, we, ow, fr, of)) (oc : Nat) (oa ob os : Nat → Nat) (p need wks c v : Nat) (h : vm_N (ra, up, f0, su, nn, wk, ki, we, ow, fr, of) oc oa ob os p need wks c = some v) : v ≤ 49995 := by
  have hn : nn ≤ 5 := hok.2.2.2.2.1
  obtain ⟨O, F, htf⟩ := tf_A ra up f0 su nn wk ki we ow fr of oa ob os c oc
  obtain ⟨wz, hz⟩ := it_A ra up f0 su nn wk ki we O F of wks
  have hk := ok_it (ok_tf hok oa ob os c oc) wks
  unfold vm_N at h
  rw [htf, hz] at h
  rw [htf, hz] at hk
  by_cases q : iv_B ob p c oc = true ∧ need ≤ sz_N os c oc
  · rw [if_pos q] at h
    obtain rfl := Option.some.inj h
    have h1 := sm_le (f := fun q => (ai_A nn ra up ki (O, F, of) wks).1 (5 * p + q)) (fun q => hk.2.2.2.2.2.2.2.1 (5 * p + q)) nn
    have h3 : nn * 9999 ≤ 5 * 9999 := Nat.mul_le_mul_right _ hn
    exact Nat.le_trans h1 h3
  · rw [if_neg q] at h
    exact absurd h (by simp)
def ok_E : Option (Nat × Nat) → Prop
  | none => True
  | some (c, v) => c < 64 ∧ v ≤ 49995
theorem k_X10_acceptNow (rd : Int32) (pl : Nat) (pc : Nat → Nat) (ra up f0 su nn : Nat) (wk : Int32) (ki we ow fr of : Nat → Nat) (oc : Nat) (oa ob os : Nat → Nat) (K : mk_T) (x : ms_T) (w2 o2 f2 x2 : Nat → Nat) (p need wks w : Nat) (hok : ok_T (ra, up, f0, su, nn, wk, ki, we, ow, fr, of)) (hoO : ok_O (oc, oa, ob, os)) (hp : p < 5) (hne : need ≤ 500) (hw : wks ≤ 20) (hw1 : w ≤ 1) : AM 5 yX10_acceptNow cX10_acceptNow 10 (some .int) [.ref 0, .int (nI p), .int (nI need), .int (nI wks), .int (nI w)] (mw_M (rd, (pl, pc), (ra, up, f0, su, nn, wk), ki, (jn_N 5 we w2, jn_N 25 ow o2, jn_N 25 fr f2, jn_N 25 of x2), (oc, oa, ob, os)) K x) (fun r w' => r = some (.int (if w = 0 then (en_I (af_N (vm_N (ra, up, f0, su, nn, wk, ki, we, ow, fr, of) oc oa ob os p need wks) (2 ^ oc))).1 else (en_I (af_N (vm_N (ra, up, f0, su, nn, wk, ki, we, ow, fr, of) oc oa ob os p need wks) (2 ^ oc))).2)) ∧ ∃ w2 o2 f2 x2 : Nat → Nat, w' = (mw_M (rd, (pl, pc), (ra, up, f0, su, nn, wk), ki, (jn_N 5 we w2, jn_N 25 ow o2, jn_N 25 fr f2, jn_N 25 of x2), (oc, oa, ob, os)) K x)) := by
  have hoc : oc ≤ 6 := hoO.1
  have hpow : 2 ^ oc ≤ 2 ^ 6 := Nat.pow_le_pow_right (by decide) hoc
  have hpos : 0 < 2 ^ oc := Nat.two_pow_pos oc
  refine AM.of (loc := [.ref 0, .int (nI p), .int (nI need), .int (nI wks), .int (nI w), .null, .null, .null, .null, .null]) RX10 rfl (by decide +kernel) (Nat.le_of_ble_eq_true rfl) rfl ?_
  refine ak_iconst_m1 dX10_acceptNow_0 ?_
  refine aw_istore_5 dX10_acceptNow_1 rfl (Nat.le_of_ble_eq_true rfl) ?_
  refine aw_ldc gq_947 dX10_acceptNow_3 ?_
  refine aw_istore_6 dX10_acceptNow_5 rfl (Nat.le_of_ble_eq_true rfl) ?_
  refine akN_iconst_0 dX10_acceptNow_7 ?_
  refine aw_istore_7 dX10_acceptNow_8 rfl (Nat.le_of_ble_eq_true rfl) ?_
  have loop : ∀ k c, c + k = 2 ^ oc → ok_E (af_N (vm_N (ra, up, f0, su, nn, wk, ki, we, ow, fr, of) oc oa ob os p need wks) c) → ∀ (w2 o2 f2 x2 : Nat → Nat) (j8 j9 : Value), AW 5 RX10 cX10_acceptNow 10 (some .int) 18 (fun r w' => r = some (.int (if w = 0 then (en_I (af_N (vm_N (ra, up, f0, su, nn, wk, ki, we, ow, fr, of) oc oa ob os p need wks) (2 ^ oc))).1 else (en_I (af_N (vm_N (ra, up, f0, su, nn, wk, ki, we, ow, fr, of) oc oa ob os p need wks) (2 ^ oc))).2)) ∧ ∃ w2 o2 f2 x2 : Nat → Nat, w' = (mw_M (rd, (pl, pc), (ra, up, f0, su, nn, wk), ki, (jn_N 5 we w2, jn_N 25 ow o2, jn_N 25 fr f2, jn_N 25 of x2), (oc, oa, ob, os)) K x)) 10 [.ref 0, .int (nI p), .int (nI need), .int (nI wks), .int (nI w), .int (em_I (af_N (vm_N (ra, up, f0, su, nn, wk, ki, we, ow, fr, of) oc oa ob os p need wks) c)).1, .int (nI (em_I (af_N (vm_N (ra, up, f0, su, nn, wk, ki, we, ow, fr, of) oc oa ob os p need wks) c)).2), .int (nI c), j8, j9] [] (mw_M (rd, (pl, pc), (ra, up, f0, su, nn, wk), ki, (jn_N 5 we w2, jn_N 25 ow o2, jn_N 25 fr f2, jn_N 25 of x2), (oc, oa, ob, os)) K x) := by
    intro k
    induction k with
    | zero =>
      intro c hc hE w2 o2 f2 x2 j8 j9
      obtain rfl : c = 2 ^ oc := by omega
      refine aw_iload_7 dX10_acceptNow_10 ?_
      refine ak_iconst_1 dX10_acceptNow_12 ?_
      refine aw_aload_0 dX10_acceptNow_13 ?_
      refine gf_X10_174 dX10_acceptNow_14 rfl rfl ?_
      refine aw_ishl dX10_acceptNow_17 ?_
      refine aw_topi (sh_one (by omega)) ?_
      refine aw_icmp_geN 101 dX10_acceptNow_18 (by decide) (by omega) (by omega) (fun _ => ?_) (fun hh => absurd hh (by omega))
      generalize hA : af_N (vm_N (ra, up, f0, su, nn, wk, ki, we, ow, fr, of) oc oa ob os p need wks) (2 ^ oc) = A
      rw [hA] at hE
      match A, hE with
      | none, _ =>
        show AW 5 RX10 cX10_acceptNow 10 (some .int) 18 (fun r w' => r = some (.int (if w = 0 then (en_I none).1 else (en_I none).2)) ∧ ∃ w2 o2 f2 x2 : Nat → Nat, w' = (mw_M (rd, (pl, pc), (ra, up, f0, su, nn, wk), ki, (jn_N 5 we w2, jn_N 25 ow o2, jn_N 25 fr f2, jn_N 25 of x2), (oc, oa, ob, os)) K x)) 101 [.ref 0, .int (nI p), .int (nI need), .int (nI wks), .int (nI w), .int (-1), .int (nI 268435456), .int (nI (2 ^ oc)), j8, j9] [] (mw_M (rd, (pl, pc), (ra, up, f0, su, nn, wk), ki, (jn_N 5 we w2, jn_N 25 ow o2, jn_N 25 fr f2, jn_N 25 of x2), (oc, oa, ob, os)) K x)
        refine aw_iload_5 dX10_acceptNow_101 ?_
        refine ak_iconst_m1 dX10_acceptNow_103 ?_
        refine aw_icmp_eq 112 dX10_acceptNow_104 (by decide) (fun _ => ?_) (fun hh => absurd (rfl) hh)
        refine aw_iload_5 dX10_acceptNow_112 ?_
        refine aw_goto 119 dX10_acceptNow_114 (by decide) ?_
        exact aw_iret dX10_acceptNow_119 rfl (⟨by show _ = some (Value.int (if w = 0 then (-1 : Int32) else -1)); rw [ite_self], _, _, _, _, rfl⟩)
      | some (c, v), hE =>
        show AW 5 RX10 cX10_acceptNow 10 (some .int) 18 (fun r w' => r = some (.int (if w = 0 then (en_I (some (c, v))).1 else (en_I (some (c, v))).2)) ∧ ∃ w2 o2 f2 x2 : Nat → Nat, w' = (mw_M (rd, (pl, pc), (ra, up, f0, su, nn, wk), ki, (jn_N 5 we w2, jn_N 25 ow o2, jn_N 25 fr f2, jn_N 25 of x2), (oc, oa, ob, os)) K x)) 101 [.ref 0, .int (nI p), .int (nI need), .int (nI wks), .int (nI w), .int (nI c), .int (nI v), .int (nI (2 ^ oc)), j8, j9] [] (mw_M (rd, (pl, pc), (ra, up, f0, su, nn, wk), ki, (jn_N 5 we w2, jn_N 25 ow o2, jn_N 25 fr f2, jn_N 25 of x2), (oc, oa, ob, os)) K x)
        refine aw_iload_5 dX10_acceptNow_101 ?_
        refine ak_iconst_m1 dX10_acceptNow_103 ?_
        refine aw_icmp_eq 112 dX10_acceptNow_104 (by decide) (fun hh => absurd hh (ni_m1 (by have := hE.1; omega))) (fun _ => ?_)
        refine aw_iload_4 dX10_acceptNow_107 ?_
        refine aw_if_neN 117 dX10_acceptNow_109 (by decide) (by omega) (fun q => ?_) (fun q => ?_)
        · refine aw_iload_6 dX10_acceptNow_117 ?_
          exact aw_iret dX10_acceptNow_119 rfl (⟨by rw [if_neg q]; rfl, _, _, _, _, rfl⟩)
        · refine aw_iload_5 dX10_acceptNow_112 ?_
          refine aw_goto 119 dX10_acceptNow_114 (by decide) ?_
          exact aw_iret dX10_acceptNow_119 rfl (⟨by rw [if_pos q]; rfl, _, _, _, _, rfl⟩)
    | succ k ih =>
      intro c hc hE w2 o2 f2 x2 j8 j9
      refine aw_iload_7 dX10_acceptNow_10 ?_
      refine ak_iconst_1 dX10_acceptNow_12 ?_
      refine aw_aload_0 dX10_acceptNow_13 ?_
      refine gf_X10_174 dX10_acceptNow_14 rfl rfl ?_
      refine aw_ishl dX10_acceptNow_17 ?_
      refine aw_topi (sh_one (by omega)) ?_
      refine aw_icmp_geN 101 dX10_acceptNow_18 (by decide) (by omega) (by omega) (fun hh => absurd hh (by omega)) (fun _ => ?_)
      refine aw_aload_0 dX10_acceptNow_21 ?_
      refine aw_iload_1 dX10_acceptNow_22 ?_
      refine aw_iload_7 dX10_acceptNow_23 ?_
      refine aw_iload_2 dX10_acceptNow_25 ?_
      refine aw_iload_3 dX10_acceptNow_26 ?_
      refine ca_X10_177 dX10_acceptNow_27 rfl (k_X10_owesBy rd pl pc ra up f0 su nn wk ki we ow fr of oc oa ob os K x w2 o2 f2 x2 p c need wks hok hoO hp (by omega) hne hw) (fun r w1 hc => ?_)
      obtain ⟨rfl, w2, o2, f2, x2, rfl⟩ := hc
      have hI := ih (c + 1) (by omega)
      rw [af_N] at hI
      generalize hA : af_N (vm_N (ra, up, f0, su, nn, wk, ki, we, ow, fr, of) oc oa ob os p need wks) c = A
      rw [hA] at hE hI
      generalize hV : vm_N (ra, up, f0, su, nn, wk, ki, we, ow, fr, of) oc oa ob os p need wks c = V
      rw [hV] at hI
      match A, hE, V, hV, hI with
      | none, hE, none, _, hI =>
        show AW 5 RX10 cX10_acceptNow 10 (some .int) 18 (fun r w' => r = some (.int (if w = 0 then (en_I (af_N (vm_N (ra, up, f0, su, nn, wk, ki, we, ow, fr, of) oc oa ob os p need wks) (2 ^ oc))).1 else (en_I (af_N (vm_N (ra, up, f0, su, nn, wk, ki, we, ow, fr, of) oc oa ob os p need wks) (2 ^ oc))).2)) ∧ ∃ w2 o2 f2 x2 : Nat → Nat, w' = (mw_M (rd, (pl, pc), (ra, up, f0, su, nn, wk), ki, (jn_N 5 we w2, jn_N 25 ow o2, jn_N 25 fr f2, jn_N 25 of x2), (oc, oa, ob, os)) K x)) 30 [.ref 0, .int (nI p), .int (nI need), .int (nI wks), .int (nI w), .int (-1), .int (nI 268435456), .int (nI c), j8, j9] [.int (nI 268435456)] (mw_M (rd, (pl, pc), (ra, up, f0, su, nn, wk), ki, (jn_N 5 we w2, jn_N 25 ow o2, jn_N 25 fr f2, jn_N 25 of x2), (oc, oa, ob, os)) K x)
        refine aw_istore_8 dX10_acceptNow_30 rfl (Nat.le_of_ble_eq_true rfl) ?_
        refine aw_iload_8 dX10_acceptNow_32 ?_
        refine aw_iload_6 dX10_acceptNow_34 ?_
        refine aw_icmp_neN 62 dX10_acceptNow_36 (by decide) (by omega) (by omega) (fun hh => absurd hh (by omega)) (fun _ => ?_)
        refine aw_iload_5 dX10_acceptNow_39 ?_
        refine ak_iconst_m1 dX10_acceptNow_41 ?_
        refine aw_icmp_eq 62 dX10_acceptNow_42 (by decide) (fun _ => ?_) (fun hh => absurd (rfl) hh)
        refine akN_iconst_0 dX10_acceptNow_62 ?_
        refine aw_istore_9 dX10_acceptNow_63 rfl (Nat.le_of_ble_eq_true rfl) ?_
        refine aw_iload_8 dX10_acceptNow_65 ?_
        refine aw_iload_6 dX10_acceptNow_67 ?_
        refine aw_icmp_ltN 77 dX10_acceptNow_69 (by decide) (by omega) (by omega) (fun hh => absurd hh (by omega)) (fun _ => ?_)
        refine aw_iload_9 dX10_acceptNow_72 ?_
        refine aw_if_eqN 82 dX10_acceptNow_74 (by decide) (by omega) (fun _ => ?_) (fun hh => absurd hh (by omega))
        refine aw_iload_5 dX10_acceptNow_82 ?_
        refine aw_istore_5 dX10_acceptNow_84 rfl (Nat.le_of_ble_eq_true rfl) ?_
        refine aw_iload_6 dX10_acceptNow_86 ?_
        refine aw_iload_8 dX10_acceptNow_88 ?_
        refine ce_X10_124 dX10_acceptNow_90 (k_X10_less _ 268435456 268435456 (by decide) (by decide)) ?_
        refine aw_istore_6 dX10_acceptNow_93 rfl (Nat.le_of_ble_eq_true rfl) ?_
        refine aw_iincN_7 dX10_acceptNow_95 rfl (Nat.le_of_ble_eq_true rfl) ?_
        refine aw_goto 10 dX10_acceptNow_98 (by decide) ?_
        exact hI trivial _ _ _ _ _ _
      | none, hE, some v, hV, hI =>
        have hv := vm_le hok oc oa ob os p need wks c v hV
        show AW 5 RX10 cX10_acceptNow 10 (some .int) 18 (fun r w' => r = some (.int (if w = 0 then (en_I (af_N (vm_N (ra, up, f0, su, nn, wk, ki, we, ow, fr, of) oc oa ob os p need wks) (2 ^ oc))).1 else (en_I (af_N (vm_N (ra, up, f0, su, nn, wk, ki, we, ow, fr, of) oc oa ob os p need wks) (2 ^ oc))).2)) ∧ ∃ w2 o2 f2 x2 : Nat → Nat, w' = (mw_M (rd, (pl, pc), (ra, up, f0, su, nn, wk), ki, (jn_N 5 we w2, jn_N 25 ow o2, jn_N 25 fr f2, jn_N 25 of x2), (oc, oa, ob, os)) K x)) 30 [.ref 0, .int (nI p), .int (nI need), .int (nI wks), .int (nI w), .int (-1), .int (nI 268435456), .int (nI c), j8, j9] [.int (nI v)] (mw_M (rd, (pl, pc), (ra, up, f0, su, nn, wk), ki, (jn_N 5 we w2, jn_N 25 ow o2, jn_N 25 fr f2, jn_N 25 of x2), (oc, oa, ob, os)) K x)
        refine aw_istore_8 dX10_acceptNow_30 rfl (Nat.le_of_ble_eq_true rfl) ?_
        refine aw_iload_8 dX10_acceptNow_32 ?_
        refine aw_iload_6 dX10_acceptNow_34 ?_
        refine aw_icmp_neN 62 dX10_acceptNow_36 (by decide) (by omega) (by omega) (fun _ => ?_) (fun hh => absurd hh (by omega))
        refine akN_iconst_0 dX10_acceptNow_62 ?_
        refine aw_istore_9 dX10_acceptNow_63 rfl (Nat.le_of_ble_eq_true rfl) ?_
        refine aw_iload_8 dX10_acceptNow_65 ?_
        refine aw_iload_6 dX10_acceptNow_67 ?_
        refine aw_icmp_ltN 77 dX10_acceptNow_69 (by decide) (by omega) (by omega) (fun _ => ?_) (fun hh => absurd hh (by omega))
        refine aw_iload_7 dX10_acceptNow_77 ?_
        refine aw_goto 84 dX10_acceptNow_79 (by decide) ?_
        refine aw_istore_5 dX10_acceptNow_84 rfl (Nat.le_of_ble_eq_true rfl) ?_
        refine aw_iload_6 dX10_acceptNow_86 ?_
        refine aw_iload_8 dX10_acceptNow_88 ?_
        refine ce_X10_124 dX10_acceptNow_90 (k_X10_less _ 268435456 v (by decide) (by omega)) ?_
        rw [show min 268435456 v = v by omega]
        refine aw_istore_6 dX10_acceptNow_93 rfl (Nat.le_of_ble_eq_true rfl) ?_
        refine aw_iincN_7 dX10_acceptNow_95 rfl (Nat.le_of_ble_eq_true rfl) ?_
        refine aw_goto 10 dX10_acceptNow_98 (by decide) ?_
        exact hI ⟨by omega, hv⟩ _ _ _ _ _ _
      | some (c', v'), hE, none, _, hI =>
        have hE1 : c' < 64 := hE.1
        have hE2 : v' ≤ 49995 := hE.2
        show AW 5 RX10 cX10_acceptNow 10 (some .int) 18 (fun r w' => r = some (.int (if w = 0 then (en_I (af_N (vm_N (ra, up, f0, su, nn, wk, ki, we, ow, fr, of) oc oa ob os p need wks) (2 ^ oc))).1 else (en_I (af_N (vm_N (ra, up, f0, su, nn, wk, ki, we, ow, fr, of) oc oa ob os p need wks) (2 ^ oc))).2)) ∧ ∃ w2 o2 f2 x2 : Nat → Nat, w' = (mw_M (rd, (pl, pc), (ra, up, f0, su, nn, wk), ki, (jn_N 5 we w2, jn_N 25 ow o2, jn_N 25 fr f2, jn_N 25 of x2), (oc, oa, ob, os)) K x)) 30 [.ref 0, .int (nI p), .int (nI need), .int (nI wks), .int (nI w), .int (nI c'), .int (nI v'), .int (nI c), j8, j9] [.int (nI 268435456)] (mw_M (rd, (pl, pc), (ra, up, f0, su, nn, wk), ki, (jn_N 5 we w2, jn_N 25 ow o2, jn_N 25 fr f2, jn_N 25 of x2), (oc, oa, ob, os)) K x)
        refine aw_istore_8 dX10_acceptNow_30 rfl (Nat.le_of_ble_eq_true rfl) ?_
        refine aw_iload_8 dX10_acceptNow_32 ?_
        refine aw_iload_6 dX10_acceptNow_34 ?_
        refine aw_icmp_neN 62 dX10_acceptNow_36 (by decide) (by omega) (by omega) (fun _ => ?_) (fun hh => absurd hh (by omega))
        refine akN_iconst_0 dX10_acceptNow_62 ?_
        refine aw_istore_9 dX10_acceptNow_63 rfl (Nat.le_of_ble_eq_true rfl) ?_
        refine aw_iload_8 dX10_acceptNow_65 ?_
        refine aw_iload_6 dX10_acceptNow_67 ?_
        refine aw_icmp_ltN 77 dX10_acceptNow_69 (by decide) (by omega) (by omega) (fun hh => absurd hh (by omega)) (fun _ => ?_)
        refine aw_iload_9 dX10_acceptNow_72 ?_
        refine aw_if_eqN 82 dX10_acceptNow_74 (by decide) (by omega) (fun _ => ?_) (fun hh => absurd hh (by omega))
        refine aw_iload_5 dX10_acceptNow_82 ?_
        refine aw_istore_5 dX10_acceptNow_84 rfl (Nat.le_of_ble_eq_true rfl) ?_
        refine aw_iload_6 dX10_acceptNow_86 ?_
        refine aw_iload_8 dX10_acceptNow_88 ?_
        refine ce_X10_124 dX10_acceptNow_90 (k_X10_less _ v' 268435456 (by omega) (by decide)) ?_
        rw [show min v' 268435456 = v' by omega]
        refine aw_istore_6 dX10_acceptNow_93 rfl (Nat.le_of_ble_eq_true rfl) ?_
        refine aw_iincN_7 dX10_acceptNow_95 rfl (Nat.le_of_ble_eq_true rfl) ?_
        refine aw_goto 10 dX10_acceptNow_98 (by decide) ?_
        exact hI hE _ _ _ _ _ _
      | some (c', v'), hE, some v, hV, hI =>
        have hv := vm_le hok oc oa ob os p need wks c v hV
        have hE1 : c' < 64 := hE.1
        have hE2 : v' ≤ 49995 := hE.2
        have hp1 := pn_le c
        have hp2 := pn_le c'
        by_cases q : v < v' ∨ (v = v' ∧ pn_N c < pn_N c')
        · have eW : wg_O (some (c', v')) c v = some (c, v) := if_pos q
          have hI := hI (by show ok_E (wg_O (some (c', v')) c v); rw [eW]; exact ⟨by omega, hv⟩)
          dsimp only at hI
          rw [eW] at hI
          show AW 5 RX10 cX10_acceptNow 10 (some .int) 18 (fun r w' => r = some (.int (if w = 0 then (en_I (af_N (vm_N (ra, up, f0, su, nn, wk, ki, we, ow, fr, of) oc oa ob os p need wks) (2 ^ oc))).1 else (en_I (af_N (vm_N (ra, up, f0, su, nn, wk, ki, we, ow, fr, of) oc oa ob os p need wks) (2 ^ oc))).2)) ∧ ∃ w2 o2 f2 x2 : Nat → Nat, w' = (mw_M (rd, (pl, pc), (ra, up, f0, su, nn, wk), ki, (jn_N 5 we w2, jn_N 25 ow o2, jn_N 25 fr f2, jn_N 25 of x2), (oc, oa, ob, os)) K x)) 30 [.ref 0, .int (nI p), .int (nI need), .int (nI wks), .int (nI w), .int (nI c'), .int (nI v'), .int (nI c), j8, j9] [.int (nI v)] (mw_M (rd, (pl, pc), (ra, up, f0, su, nn, wk), ki, (jn_N 5 we w2, jn_N 25 ow o2, jn_N 25 fr f2, jn_N 25 of x2), (oc, oa, ob, os)) K x)
          by_cases r : v < v'
          · refine aw_istore_8 dX10_acceptNow_30 rfl (Nat.le_of_ble_eq_true rfl) ?_
            refine aw_iload_8 dX10_acceptNow_32 ?_
            refine aw_iload_6 dX10_acceptNow_34 ?_
            refine aw_icmp_neN 62 dX10_acceptNow_36 (by decide) (by omega) (by omega) (fun _ => ?_) (fun hh => absurd hh (by omega))
            refine akN_iconst_0 dX10_acceptNow_62 ?_
            refine aw_istore_9 dX10_acceptNow_63 rfl (Nat.le_of_ble_eq_true rfl) ?_
            refine aw_iload_8 dX10_acceptNow_65 ?_
            refine aw_iload_6 dX10_acceptNow_67 ?_
            refine aw_icmp_ltN 77 dX10_acceptNow_69 (by decide) (by omega) (by omega) (fun _ => ?_) (fun hh => absurd hh (by omega))
            refine aw_iload_7 dX10_acceptNow_77 ?_
            refine aw_goto 84 dX10_acceptNow_79 (by decide) ?_
            refine aw_istore_5 dX10_acceptNow_84 rfl (Nat.le_of_ble_eq_true rfl) ?_
            refine aw_iload_6 dX10_acceptNow_86 ?_
            refine aw_iload_8 dX10_acceptNow_88 ?_
            refine ce_X10_124 dX10_acceptNow_90 (k_X10_less _ v' v (by omega) (by omega)) ?_
            rw [show min v' v = v by omega]
            refine aw_istore_6 dX10_acceptNow_93 rfl (Nat.le_of_ble_eq_true rfl) ?_
            refine aw_iincN_7 dX10_acceptNow_95 rfl (Nat.le_of_ble_eq_true rfl) ?_
            refine aw_goto 10 dX10_acceptNow_98 (by decide) ?_
            exact hI _ _ _ _ _ _
          · refine aw_istore_8 dX10_acceptNow_30 rfl (Nat.le_of_ble_eq_true rfl) ?_
            refine aw_iload_8 dX10_acceptNow_32 ?_
            refine aw_iload_6 dX10_acceptNow_34 ?_
            refine aw_icmp_neN 62 dX10_acceptNow_36 (by decide) (by omega) (by omega) (fun hh => absurd hh (by omega)) (fun _ => ?_)
            refine aw_iload_5 dX10_acceptNow_39 ?_
            refine ak_iconst_m1 dX10_acceptNow_41 ?_
            refine aw_icmp_eq 62 dX10_acceptNow_42 (by decide) (fun hh => absurd hh (ni_m1 (by omega))) (fun _ => ?_)
            refine aw_iload_7 dX10_acceptNow_45 ?_
            refine ce_X10_161 dX10_acceptNow_47 (k_X10_size _ c (by omega)) ?_
            refine aw_iload_5 dX10_acceptNow_50 ?_
            refine ce_X10_161 dX10_acceptNow_52 (k_X10_size _ c' (by omega)) ?_
            refine aw_icmp_geN 62 dX10_acceptNow_55 (by decide) (by omega) (by omega) (fun hh => absurd hh (by omega)) (fun _ => ?_)
            refine akN_iconst_1 dX10_acceptNow_58 ?_
            refine aw_goto 63 dX10_acceptNow_59 (by decide) ?_
            refine aw_istore_9 dX10_acceptNow_63 rfl (Nat.le_of_ble_eq_true rfl) ?_
            refine aw_iload_8 dX10_acceptNow_65 ?_
            refine aw_iload_6 dX10_acceptNow_67 ?_
            refine aw_icmp_ltN 77 dX10_acceptNow_69 (by decide) (by omega) (by omega) (fun hh => absurd hh (by omega)) (fun _ => ?_)
            refine aw_iload_9 dX10_acceptNow_72 ?_
            refine aw_if_eqN 82 dX10_acceptNow_74 (by decide) (by omega) (fun hh => absurd hh (by omega)) (fun _ => ?_)
            refine aw_iload_7 dX10_acceptNow_77 ?_
            refine aw_goto 84 dX10_acceptNow_79 (by decide) ?_
            refine aw_istore_5 dX10_acceptNow_84 rfl (Nat.le_of_ble_eq_true rfl) ?_
            refine aw_iload_6 dX10_acceptNow_86 ?_
            refine aw_iload_8 dX10_acceptNow_88 ?_
            refine ce_X10_124 dX10_acceptNow_90 (k_X10_less _ v' v (by omega) (by omega)) ?_
            rw [show min v' v = v by omega]
            refine aw_istore_6 dX10_acceptNow_93 rfl (Nat.le_of_ble_eq_true rfl) ?_
            refine aw_iincN_7 dX10_acceptNow_95 rfl (Nat.le_of_ble_eq_true rfl) ?_
            refine aw_goto 10 dX10_acceptNow_98 (by decide) ?_
            exact hI _ _ _ _ _ _
        · have eW : wg_O (some (c', v')) c v = some (c', v') := if_neg q
          have hI := hI (by show ok_E (wg_O (some (c', v')) c v); rw [eW]; exact hE)
          dsimp only at hI
          rw [eW] at hI
          show AW 5 RX10 cX10_acceptNow 10 (some .int) 18 (fun r w' => r = some (.int (if w = 0 then (en_I (af_N (vm_N (ra, up, f0, su, nn, wk, ki, we, ow, fr, of) oc oa ob os p need wks) (2 ^ oc))).1 else (en_I (af_N (vm_N (ra, up, f0, su, nn, wk, ki, we, ow, fr, of) oc oa ob os p need wks) (2 ^ oc))).2)) ∧ ∃ w2 o2 f2 x2 : Nat → Nat, w' = (mw_M (rd, (pl, pc), (ra, up, f0, su, nn, wk), ki, (jn_N 5 we w2, jn_N 25 ow o2, jn_N 25 fr f2, jn_N 25 of x2), (oc, oa, ob, os)) K x)) 30 [.ref 0, .int (nI p), .int (nI need), .int (nI wks), .int (nI w), .int (nI c'), .int (nI v'), .int (nI c), j8, j9] [.int (nI v)] (mw_M (rd, (pl, pc), (ra, up, f0, su, nn, wk), ki, (jn_N 5 we w2, jn_N 25 ow o2, jn_N 25 fr f2, jn_N 25 of x2), (oc, oa, ob, os)) K x)
          by_cases r : v = v'
          · refine aw_istore_8 dX10_acceptNow_30 rfl (Nat.le_of_ble_eq_true rfl) ?_
            refine aw_iload_8 dX10_acceptNow_32 ?_
            refine aw_iload_6 dX10_acceptNow_34 ?_
            refine aw_icmp_neN 62 dX10_acceptNow_36 (by decide) (by omega) (by omega) (fun hh => absurd hh (by omega)) (fun _ => ?_)
            refine aw_iload_5 dX10_acceptNow_39 ?_
            refine ak_iconst_m1 dX10_acceptNow_41 ?_
            refine aw_icmp_eq 62 dX10_acceptNow_42 (by decide) (fun hh => absurd hh (ni_m1 (by omega))) (fun _ => ?_)
            refine aw_iload_7 dX10_acceptNow_45 ?_
            refine ce_X10_161 dX10_acceptNow_47 (k_X10_size _ c (by omega)) ?_
            refine aw_iload_5 dX10_acceptNow_50 ?_
            refine ce_X10_161 dX10_acceptNow_52 (k_X10_size _ c' (by omega)) ?_
            refine aw_icmp_geN 62 dX10_acceptNow_55 (by decide) (by omega) (by omega) (fun _ => ?_) (fun hh => absurd hh (by omega))
            refine akN_iconst_0 dX10_acceptNow_62 ?_
            refine aw_istore_9 dX10_acceptNow_63 rfl (Nat.le_of_ble_eq_true rfl) ?_
            refine aw_iload_8 dX10_acceptNow_65 ?_
            refine aw_iload_6 dX10_acceptNow_67 ?_
            refine aw_icmp_ltN 77 dX10_acceptNow_69 (by decide) (by omega) (by omega) (fun hh => absurd hh (by omega)) (fun _ => ?_)
            refine aw_iload_9 dX10_acceptNow_72 ?_
            refine aw_if_eqN 82 dX10_acceptNow_74 (by decide) (by omega) (fun _ => ?_) (fun hh => absurd hh (by omega))
            refine aw_iload_5 dX10_acceptNow_82 ?_
            refine aw_istore_5 dX10_acceptNow_84 rfl (Nat.le_of_ble_eq_true rfl) ?_
            refine aw_iload_6 dX10_acceptNow_86 ?_
            refine aw_iload_8 dX10_acceptNow_88 ?_
            refine ce_X10_124 dX10_acceptNow_90 (k_X10_less _ v' v (by omega) (by omega)) ?_
            rw [show min v' v = v' by omega]
            refine aw_istore_6 dX10_acceptNow_93 rfl (Nat.le_of_ble_eq_true rfl) ?_
            refine aw_iincN_7 dX10_acceptNow_95 rfl (Nat.le_of_ble_eq_true rfl) ?_
            refine aw_goto 10 dX10_acceptNow_98 (by decide) ?_
            exact hI _ _ _ _ _ _
          · refine aw_istore_8 dX10_acceptNow_30 rfl (Nat.le_of_ble_eq_true rfl) ?_
            refine aw_iload_8 dX10_acceptNow_32 ?_
            refine aw_iload_6 dX10_acceptNow_34 ?_
            refine aw_icmp_neN 62 dX10_acceptNow_36 (by decide) (by omega) (by omega) (fun _ => ?_) (fun hh => absurd hh (by omega))
            refine akN_iconst_0 dX10_acceptNow_62 ?_
            refine aw_istore_9 dX10_acceptNow_63 rfl (Nat.le_of_ble_eq_true rfl) ?_
            refine aw_iload_8 dX10_acceptNow_65 ?_
            refine aw_iload_6 dX10_acceptNow_67 ?_
            refine aw_icmp_ltN 77 dX10_acceptNow_69 (by decide) (by omega) (by omega) (fun hh => absurd hh (by omega)) (fun _ => ?_)
            refine aw_iload_9 dX10_acceptNow_72 ?_
            refine aw_if_eqN 82 dX10_acceptNow_74 (by decide) (by omega) (fun _ => ?_) (fun hh => absurd hh (by omega))
            refine aw_iload_5 dX10_acceptNow_82 ?_
            refine aw_istore_5 dX10_acceptNow_84 rfl (Nat.le_of_ble_eq_true rfl) ?_
            refine aw_iload_6 dX10_acceptNow_86 ?_
            refine aw_iload_8 dX10_acceptNow_88 ?_
            refine ce_X10_124 dX10_acceptNow_90 (k_X10_less _ v' v (by omega) (by omega)) ?_
            rw [show min v' v = v' by omega]
            refine aw_istore_6 dX10_acceptNow_93 rfl (Nat.le_of_ble_eq_true rfl) ?_
            refine aw_iincN_7 dX10_acceptNow_95 rfl (Nat.le_of_ble_eq_true rfl) ?_
            refine aw_goto 10 dX10_acceptNow_98 (by decide) ?_
            exact hI _ _ _ _ _ _
  exact loop (2 ^ oc) 0 (by omega) trivial w2 o2 f2 x2 _ _
theorem m_accept_no (rd : Int32) (pl : Nat) (pc : Nat → Nat) (ra up f0 su nn : Nat) (wk : Int32) (ki we ow fr of : Nat → Nat) (oc : Nat) (oa ob os : Nat → Nat) (K : mk_T) (x : ms_T) (a nd ws w : Int32) (hn : nn ≤ 5) (h : ¬ hs_P nn a) : AM 8 yX10_accept cX10_accept 5 (some .int) [.ref 0, .int a, .int nd, .int ws, .int w] (mw_M (rd, (pl, pc), (ra, up, f0, su, nn, wk), ki, (we, ow, fr, of), (oc, oa, ob, os)) K x) (ac_R (some (.int (-101))) (mw_M (rd, (pl, pc), (ra, up, f0, su, nn, wk), ki, (we, ow, fr, of), (oc, oa, ob, os)) K x)) := by
  refine AM.of (loc := [.ref 0, .int a, .int nd, .int ws, .int w]) RX10 rfl (by decide +kernel) (Nat.le_of_ble_eq_true rfl) rfl ?_
  refine aw_aload_0 dX10_accept_0 ?_
  refine aw_iload_1 dX10_accept_1 ?_
  refine ce_X10_96 dX10_accept_2 rfl (k_X10_isPerson rd pl pc ra up f0 su nn wk ki we ow fr of oc oa ob os K x a hn) ?_
  refine aw_if_ne 11 dX10_accept_5 (by decide) (fun hh => absurd (bI_f h) hh) (fun _ => ?_)
  refine ak_bipush_m101 dX10_accept_8 ?_
  exact aw_iret dX10_accept_10 rfl (⟨rfl, rfl⟩)
theorem m_accept_out (rd : Int32) (pl : Nat) (pc : Nat → Nat) (ra up f0 su nn : Nat) (wk : Int32) (ki we ow fr of : Nat → Nat) (oc : Nat) (oa ob os : Nat → Nat) (K : mk_T) (x : ms_T) (a nd ws w : Int32) (hn : nn ≤ 5) (h : hs_P nn a) (ho : ¬ ((1 ≤ nd ∧ nd ≤ 500) ∧ (0 ≤ ws ∧ ws ≤ 20) ∧ 0 ≤ w ∧ w ≤ 1)) : AM 8 yX10_accept cX10_accept 5 (some .int) [.ref 0, .int a, .int nd, .int ws, .int w] (mw_M (rd, (pl, pc), (ra, up, f0, su, nn, wk), ki, (we, ow, fr, of), (oc, oa, ob, os)) K x) (ac_R (some (.int (-102))) (mw_M (rd, (pl, pc), (ra, up, f0, su, nn, wk), ki, (we, ow, fr, of), (oc, oa, ob, os)) K x)) := by
  refine AM.of (loc := [.ref 0, .int a, .int nd, .int ws, .int w]) RX10 rfl (by decide +kernel) (Nat.le_of_ble_eq_true rfl) rfl ?_
  refine aw_aload_0 dX10_accept_0 ?_
  refine aw_iload_1 dX10_accept_1 ?_
  refine ce_X10_96 dX10_accept_2 rfl (k_X10_isPerson rd pl pc ra up f0 su nn wk ki we ow fr of oc oa ob os K x a hn) ?_
  refine aw_if_ne 11 dX10_accept_5 (by decide) (fun _ => ?_) (fun hh => absurd hh (bI_n h))
  refine aw_iload_2 dX10_accept_11 ?_
  refine ak_iconst_1 dX10_accept_12 ?_
  refine ak_sipush_500 dX10_accept_13 ?_
  refine ce_X10_69 dX10_accept_16 (k_X10_within _ nd 1 500) ?_
  by_cases h1 : 1 ≤ nd ∧ nd ≤ 500
  · refine aw_if_eq 54 dX10_accept_19 (by decide) (fun hh => absurd hh (bI_n h1)) (fun _ => ?_)
    refine aw_iload_3 dX10_accept_22 ?_
    refine ak_iconst_0 dX10_accept_23 ?_
    refine ak_bipush_20 dX10_accept_24 ?_
    refine ce_X10_69 dX10_accept_26 (k_X10_within _ ws 0 20) ?_
    by_cases h2 : 0 ≤ ws ∧ ws ≤ 20
    · refine aw_if_eq 54 dX10_accept_29 (by decide) (fun hh => absurd hh (bI_n h2)) (fun _ => ?_)
      refine aw_iload_4 dX10_accept_32 ?_
      refine ak_iconst_0 dX10_accept_34 ?_
      refine ak_iconst_1 dX10_accept_35 ?_
      refine ce_X10_69 dX10_accept_36 (k_X10_within _ w 0 1) ?_
      refine aw_if_eq 54 dX10_accept_39 (by decide) (fun _ => ?_) (fun hh => absurd (bI_f (fun q => ho ⟨h1, h2, q⟩)) hh)
      refine ak_bipush_m102 dX10_accept_54 ?_
      exact aw_iret dX10_accept_56 rfl (⟨rfl, rfl⟩)
    refine aw_if_eq 54 dX10_accept_29 (by decide) (fun _ => ?_) (fun hh => absurd (bI_f h2) hh)
    refine ak_bipush_m102 dX10_accept_54 ?_
    exact aw_iret dX10_accept_56 rfl (⟨rfl, rfl⟩)
  refine aw_if_eq 54 dX10_accept_19 (by decide) (fun _ => ?_) (fun hh => absurd (bI_f h1) hh)
  refine ak_bipush_m102 dX10_accept_54 ?_
  exact aw_iret dX10_accept_56 rfl (⟨rfl, rfl⟩)
theorem m_accept_ok (rd : Int32) (pl : Nat) (pc : Nat → Nat) (ra up f0 su nn : Nat) (wk : Int32) (ki we ow fr of : Nat → Nat) (oc : Nat) (oa ob os : Nat → Nat) (K : mk_T) (x : ms_T) (w2 o2 f2 x2 : Nat → Nat) (p nd ws w : Nat) (hok : ok_T (ra, up, f0, su, nn, wk, ki, we, ow, fr, of)) (hoO : ok_O (oc, oa, ob, os)) (hp : p < nn) (h1 : (1 : Int32) ≤ nI nd ∧ nI nd ≤ 500) (h2 : (0 : Int32) ≤ nI ws ∧ nI ws ≤ 20) (h3 : (0 : Int32) ≤ nI w ∧ nI w ≤ 1) (hnd2 : nd ≤ 500) (hws : ws ≤ 20) (hw : w ≤ 1) : AM 8 yX10_accept cX10_accept 5 (some .int) [.ref 0, .int (nI p), .int (nI nd), .int (nI ws), .int (nI w)] (mw_M (rd, (pl, pc), (ra, up, f0, su, nn, wk), ki, (jn_N 5 we w2, jn_N 25 ow o2, jn_N 25 fr f2, jn_N 25 of x2), (oc, oa, ob, os)) K x) (fun r w' => r = some (.int (if w = 0 then (en_I (af_N (vm_N (ra, up, f0, su, nn, wk, ki, we, ow, fr, of) oc oa ob os p nd ws) (2 ^ oc))).1 else (en_I (af_N (vm_N (ra, up, f0, su, nn, wk, ki, we, ow, fr, of) oc oa ob os p nd ws) (2 ^ oc))).2)) ∧ ∃ w2 o2 f2 x2 : Nat → Nat, w' = (mw_M (rd, (pl, pc), (ra, up, f0, su, nn, wk), ki, (jn_N 5 we w2, jn_N 25 ow o2, jn_N 25 fr f2, jn_N 25 of x2), (oc, oa, ob, os)) K x)) := by
  have hn : nn ≤ 5 := hok.2.2.2.2.1
  refine AM.of (loc := [.ref 0, .int (nI p), .int (nI nd), .int (nI ws), .int (nI w)]) RX10 rfl (by decide +kernel) (Nat.le_of_ble_eq_true rfl) rfl ?_
  refine aw_aload_0 dX10_accept_0 ?_
  refine aw_iload_1 dX10_accept_1 ?_
  refine ce_X10_96 dX10_accept_2 rfl (k_X10_isPerson rd pl pc ra up f0 su nn wk ki (jn_N 5 we w2) (jn_N 25 ow o2) (jn_N 25 fr f2) (jn_N 25 of x2) oc oa ob os K x (nI p) hn) ?_
  refine aw_if_ne 11 dX10_accept_5 (by decide) (fun _ => ?_) (fun hh => absurd hh (bI_n (hs_of hp (by omega))))
  refine aw_iload_2 dX10_accept_11 ?_
  refine ak_iconst_1 dX10_accept_12 ?_
  refine ak_sipush_500 dX10_accept_13 ?_
  refine ce_X10_69 dX10_accept_16 (k_X10_within _ (nI nd) 1 500) ?_
  refine aw_if_eq 54 dX10_accept_19 (by decide) (fun hh => absurd hh (bI_n h1)) (fun _ => ?_)
  refine aw_iload_3 dX10_accept_22 ?_
  refine ak_iconst_0 dX10_accept_23 ?_
  refine ak_bipush_20 dX10_accept_24 ?_
  refine ce_X10_69 dX10_accept_26 (k_X10_within _ (nI ws) 0 20) ?_
  refine aw_if_eq 54 dX10_accept_29 (by decide) (fun hh => absurd hh (bI_n h2)) (fun _ => ?_)
  refine aw_iload_4 dX10_accept_32 ?_
  refine ak_iconst_0 dX10_accept_34 ?_
  refine ak_iconst_1 dX10_accept_35 ?_
  refine ce_X10_69 dX10_accept_36 (k_X10_within _ (nI w) 0 1) ?_
  refine aw_if_eq 54 dX10_accept_39 (by decide) (fun hh => absurd hh (bI_n h3)) (fun _ => ?_)
  refine aw_aload_0 dX10_accept_42 ?_
  refine aw_iload_1 dX10_accept_43 ?_
  refine aw_iload_2 dX10_accept_44 ?_
  refine aw_iload_3 dX10_accept_45 ?_
  refine aw_iload_4 dX10_accept_46 ?_
  refine ca_X10_181 dX10_accept_48 rfl (k_X10_acceptNow rd pl pc ra up f0 su nn wk ki we ow fr of oc oa ob os K x w2 o2 f2 x2 p nd ws w hok hoO (by omega) hnd2 hws hw) (fun r w1 hc => ?_)
  refine aw_goto 56 dX10_accept_51 (by decide) ?_
  obtain ⟨rfl, a1, a2, a3, a4, rfl⟩ := hc
  exact aw_iret dX10_accept_56 rfl (⟨rfl, a1, a2, a3, a4, rfl⟩)
