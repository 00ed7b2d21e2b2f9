/-! ===== bits, offers, accepting ===== -/
theorem sh_l : ∀ n : Nat, n < 32 → ((nI n &&& 31).toBitVec.smod 32).toNat = n := by decide +kernel
theorem sh_shr {b k : Nat} (hb : b < 2147483648) (hk : k < 32) : nI b >>> (nI k &&& 31) = nI (b / 2 ^ k) := pk_shrN hb _ k (sh_l k hk)
theorem sh_one {k : Nat} (hk : k < 32) : (1 : Int32) <<< (nI k &&& 31) = nI (2 ^ k) := by
  have h : nI 1 <<< (nI k &&& 31) = nI (1 * 2 ^ k) := pk_shlN _ k (sh_l k hk) (by rw [Nat.one_mul]; exact Nat.pow_lt_pow_right (by decide) hk)
  rw [Nat.one_mul] at h
  exact h
theorem or_bit {a k : Nat} (h : a < 2 ^ k) : nI a ||| nI (2 ^ k) = nI (a + 2 ^ k) := by
  rw [fa_or, Nat.or_comm, ← fa_or]
  have := fa_or_sum 1 h
  rw [Nat.mul_one] at this
  rw [this, Nat.add_comm]
/-- the bit k of b is set -/
abbrev bt_P (b k : Nat) : Prop := b / 2 ^ k % 2 = 1
theorem k_X9_isAmong (w : List ac_T) (k b : Nat) (hk : k < 31) (hb : b < 2147483648) : AM 1 yX9_isAmong cX9_isAmong 2 (some .boolean) [.int (nI k), .int (nI b)] w (ac_R (some (.int (bI (bt_P b k)))) w) := by
  have hd : b / 2 ^ k ≤ b := Nat.div_le_self _ _
  refine AM.of (loc := [.int (nI k), .int (nI b)]) RX9 rfl (by decide +kernel) (Nat.le_of_ble_eq_true rfl) rfl ?_
  refine aw_iload_1 dX9_isAmong_0 ?_
  refine aw_iload_0 dX9_isAmong_1 ?_
  refine aw_ishr dX9_isAmong_2 ?_
  refine aw_topi (sh_shr hb (by omega)) ?_
  refine ak_iconst_1 dX9_isAmong_3 ?_
  refine aw_iand dX9_isAmong_4 ?_
  refine aw_topi (pk_andN (by omega) 1 rfl : nI (b / 2 ^ k) &&& 1 = nI (b / 2 ^ k % 2 ^ 1)) ?_
  have hm : b / 2 ^ k % 2 ^ 1 < 2 := Nat.mod_lt _ (by decide)
  refine akN_iconst_1 dX9_isAmong_5 ?_
  refine aw_icmp_neN 13 dX9_isAmong_6 (by decide) (by omega) (by omega) (fun h1 => ?_) (fun h1 => ?_)
  · refine ak_iconst_0 dX9_isAmong_13 ?_
    exact aw_zret dX9_isAmong_14 rfl (rfl) (⟨by rw [bI_f h1], rfl⟩)
  refine ak_iconst_1 dX9_isAmong_9 ?_
  refine aw_goto 14 dX9_isAmong_10 (by decide) ?_
  exact aw_zret dX9_isAmong_14 rfl (rfl) (⟨by rw [bI_t h1], rfl⟩)
/-- offers are as they must be -/
def ok_O : of_T → Prop
  | (oc, oa, ob, os) => oc ≤ 6 ∧ (∀ k, oa k ≤ 4) ∧ (∀ k, ob k ≤ 4) ∧ ∀ k, os k ≤ 99
/-- the offers for one, as bits -/
def bf_N (ob : Nat → Nat) (p : Nat) : Nat → Nat := fb_sm (fun k => if ob k = p then 2 ^ k else 0)
theorem bf_lt (ob : Nat → Nat) (p : Nat) : ∀ j, bf_N ob p j < 2 ^ j
  | 0 => by show 0 < 1; decide
  | j + 1 => by
    have ih := bf_lt ob p j
    show bf_N ob p j + (if ob j = p then 2 ^ j else 0) < 2 ^ (j + 1)
    rw [Nat.pow_succ]
    split <;> omega
def sz_N (os : Nat → Nat) (c : Nat) : Nat → Nat := fb_sm (fun k => if bt_P c k then os k else 0)
def sf_N (oa os : Nat → Nat) (q c : Nat) : Nat → Nat := fb_sm (fun k => if bt_P c k ∧ oa k = q then os k else 0)
theorem sz_le {os : Nat → Nat} (h : ∀ k, os k ≤ 99) (c j : Nat) : sz_N os c j ≤ j * 99 := sm_le (fun k => by split; exact h k; exact Nat.zero_le _) j
theorem sf_le {oa os : Nat → Nat} (h : ∀ k, os k ≤ 99) (q c j : Nat) : sf_N oa os q c j ≤ j * 99 := sm_le (fun k => by split; exact h k; exact Nat.zero_le _) j
theorem k_X4_put (g : Nat × Int32) (P : pg_T) (t0 t1 t2 : tw_T) (o1 : of_T) (x : sc_T) (oc : Nat) (oa ob os : Nat → Nat) (a b z : Nat) (h : oc < 6) : AM 1 yX4_put cX4_put 4 none [.ref 10, .int (nI a), .int (nI b), .int (nI z)] (cw_C g P t0 t1 t2 (oc, oa, ob, os) o1 x) (ac_R none (cw_C g P t0 t1 t2 (oc + 1, va_up oa oc a, va_up ob oc b, va_up os oc z) o1 x)) := by
  refine AM.of (loc := [.ref 10, .int (nI a), .int (nI b), .int (nI z)]) RX4 rfl (by decide +kernel) (Nat.le_of_ble_eq_true rfl) rfl ?_
  refine aw_aload_0 dX4_put_0 ?_
  refine gf_X4_27 dX4_put_1 rfl rfl ?_
  refine akN_bipush_6 dX4_put_4 ?_
  refine aw_icmp_geN 49 dX4_put_6 (by decide) (by omega) (by omega) (fun hh => absurd hh (by omega)) (fun _ => ?_)
  refine aw_aload_0 dX4_put_9 ?_
  refine gf_X4_9 dX4_put_10 rfl rfl ?_
  refine aw_aload_0 dX4_put_13 ?_
  refine gf_X4_27 dX4_put_14 rfl rfl ?_
  refine aw_iload_1 dX4_put_17 ?_
  refine aw_iastN dX4_put_18 rfl h ?_
  refine aw_w cs_11 ?_
  refine aw_aload_0 dX4_put_19 ?_
  refine gf_X4_15 dX4_put_20 rfl rfl ?_
  refine aw_aload_0 dX4_put_23 ?_
  refine gf_X4_27 dX4_put_24 rfl rfl ?_
  refine aw_iload_2 dX4_put_27 ?_
  refine aw_iastN dX4_put_28 rfl h ?_
  refine aw_w cs_12 ?_
  refine aw_aload_0 dX4_put_29 ?_
  refine gf_X4_18 dX4_put_30 rfl rfl ?_
  refine aw_aload_0 dX4_put_33 ?_
  refine gf_X4_27 dX4_put_34 rfl rfl ?_
  refine aw_iload_3 dX4_put_37 ?_
  refine aw_iastN dX4_put_38 rfl h ?_
  refine aw_w cs_13 ?_
  refine aw_aload_0 dX4_put_39 ?_
  refine aw_dup dX4_put_40 rfl ?_
  refine gf_X4_27 dX4_put_41 rfl rfl ?_
  refine akN_iconst_1 dX4_put_44 ?_
  refine aw_iaddN dX4_put_45 ?_
  refine pf_X4_27 dX4_put_46 rfl (Nat.le_of_ble_eq_true rfl) ?_
  refine aw_w cs_10_3 ?_
  exact aw_vret dX4_put_49 rfl (⟨rfl, rfl⟩)
theorem k_X4_bitsFor (g : Nat × Int32) (P : pg_T) (t0 t1 t2 : tw_T) (o1 : of_T) (x : sc_T) (oc : Nat) (oa ob os : Nat → Nat) (p : Nat) (hok : ok_O (oc, oa, ob, os)) (hp : p < 5) : AM 1 yX4_bitsFor cX4_bitsFor 4 (some .int) [.ref 10, .int (nI p)] (cw_C g P t0 t1 t2 (oc, oa, ob, os) o1 x) (ac_R (some (.int (nI (bf_N ob p oc)))) (cw_C g P t0 t1 t2 (oc, oa, ob, os) o1 x)) := by
  obtain ⟨h1, h2, h3, h4⟩ := hok
  refine AM.of (loc := [.ref 10, .int (nI p), .null, .null]) RX4 rfl (by decide +kernel) (Nat.le_of_ble_eq_true rfl) rfl ?_
  refine akN_iconst_0 dX4_bitsFor_0 ?_
  refine aw_istore_2 dX4_bitsFor_1 rfl (Nat.le_of_ble_eq_true rfl) ?_
  refine akN_iconst_0 dX4_bitsFor_2 ?_
  refine aw_istore_3 dX4_bitsFor_3 rfl (Nat.le_of_ble_eq_true rfl) ?_
  have loop : ∀ k i, i + k = oc → AW 1 RX4 cX4_bitsFor 4 (some .int) 41 (ac_R (some (.int (nI (bf_N ob p oc)))) (cw_C g P t0 t1 t2 (oc, oa, ob, os) o1 x)) 4 [.ref 10, .int (nI p), .int (nI (bf_N ob p i)), .int (nI i)] [] (cw_C g P t0 t1 t2 (oc, oa, ob, os) o1 x) := by
    intro k
    induction k with
    | zero =>
      intro i hi
      obtain rfl : i = oc := by omega
      refine aw_iload_3 dX4_bitsFor_4 ?_
      refine aw_aload_0 dX4_bitsFor_5 ?_
      refine gf_X4_27 dX4_bitsFor_6 rfl rfl ?_
      refine aw_icmp_geN 34 dX4_bitsFor_9 (by decide) (by omega) (by omega) (fun _ => ?_) (fun hh => absurd hh (by omega))
      refine aw_iload_2 dX4_bitsFor_34 ?_
      exact aw_iret dX4_bitsFor_35 rfl (⟨rfl, rfl⟩)
    | succ k ih =>
      intro i hi
      have h5 := h3 i
      refine aw_iload_3 dX4_bitsFor_4 ?_
      refine aw_aload_0 dX4_bitsFor_5 ?_
      refine gf_X4_27 dX4_bitsFor_6 rfl rfl ?_
      refine aw_icmp_geN 34 dX4_bitsFor_9 (by decide) (by omega) (by omega) (fun hh => absurd hh (by omega)) (fun _ => ?_)
      refine aw_aload_0 dX4_bitsFor_12 ?_
      refine gf_X4_15 dX4_bitsFor_13 rfl rfl ?_
      refine aw_iload_3 dX4_bitsFor_16 ?_
      refine aw_ialdN dX4_bitsFor_17 rfl (by omega) ?_
      refine aw_iload_1 dX4_bitsFor_18 ?_
      refine aw_icmp_neN 28 dX4_bitsFor_19 (by decide) (by omega) (by omega) (fun q => ?_) (fun q => ?_)
      · refine aw_iincN_3 dX4_bitsFor_28 rfl (Nat.le_of_ble_eq_true rfl) ?_
        refine aw_goto 4 dX4_bitsFor_31 (by decide) ?_
        have e : bf_N ob p (i + 1) = bf_N ob p i := by show bf_N ob p i + (if ob i = p then 2 ^ i else 0) = _; rw [if_neg q]; rfl
        rw [← e]
        exact ih (i + 1) (by omega)
      · refine aw_iload_2 dX4_bitsFor_22 ?_
        refine ak_iconst_1 dX4_bitsFor_23 ?_
        refine aw_iload_3 dX4_bitsFor_24 ?_
        refine aw_ishl dX4_bitsFor_25 ?_
        refine aw_topi (sh_one (by omega)) ?_
        refine aw_ior dX4_bitsFor_26 ?_
        refine aw_topi (or_bit (bf_lt ob p i)) ?_
        refine aw_istore_2 dX4_bitsFor_27 rfl (Nat.le_of_ble_eq_true rfl) ?_
        refine aw_iincN_3 dX4_bitsFor_28 rfl (Nat.le_of_ble_eq_true rfl) ?_
        refine aw_goto 4 dX4_bitsFor_31 (by decide) ?_
        have e : bf_N ob p (i + 1) = bf_N ob p i + 2 ^ i := by show bf_N ob p i + (if ob i = p then 2 ^ i else 0) = _; rw [if_pos q]
        rw [← e]
        exact ih (i + 1) (by omega)
  exact loop oc 0 (by omega)
theorem k_X4_sizeOf (g : Nat × Int32) (P : pg_T) (t0 t1 t2 : tw_T) (o1 : of_T) (x : sc_T) (oc : Nat) (oa ob os : Nat → Nat) (c : Nat) (hok : ok_O (oc, oa, ob, os)) (hc : c < 64) : AM 2 yX4_sizeOf cX4_sizeOf 4 (some .int) [.ref 10, .int (nI c)] (cw_C g P t0 t1 t2 (oc, oa, ob, os) o1 x) (ac_R (some (.int (nI (sz_N os c oc)))) (cw_C g P t0 t1 t2 (oc, oa, ob, os) o1 x)) := by
  obtain ⟨h1, h2, h3, h4⟩ := hok
  refine AM.of (loc := [.ref 10, .int (nI c), .null, .null]) RX4 rfl (by decide +kernel) (Nat.le_of_ble_eq_true rfl) rfl ?_
  refine akN_iconst_0 dX4_sizeOf_0 ?_
  refine aw_istore_2 dX4_sizeOf_1 rfl (Nat.le_of_ble_eq_true rfl) ?_
  refine akN_iconst_0 dX4_sizeOf_2 ?_
  refine aw_istore_3 dX4_sizeOf_3 rfl (Nat.le_of_ble_eq_true rfl) ?_
  have loop : ∀ k i, i + k = oc → AW 2 RX4 cX4_sizeOf 4 (some .int) 41 (ac_R (some (.int (nI (sz_N os c oc)))) (cw_C g P t0 t1 t2 (oc, oa, ob, os) o1 x)) 4 [.ref 10, .int (nI c), .int (nI (sz_N os c i)), .int (nI i)] [] (cw_C g P t0 t1 t2 (oc, oa, ob, os) o1 x) := by
    intro k
    induction k with
    | zero =>
      intro i hi
      obtain rfl : i = oc := by omega
      refine aw_iload_3 dX4_sizeOf_4 ?_
      refine aw_aload_0 dX4_sizeOf_5 ?_
      refine gf_X4_27 dX4_sizeOf_6 rfl rfl ?_
      refine aw_icmp_geN 35 dX4_sizeOf_9 (by decide) (by omega) (by omega) (fun _ => ?_) (fun hh => absurd hh (by omega))
      refine aw_iload_2 dX4_sizeOf_35 ?_
      exact aw_iret dX4_sizeOf_36 rfl (⟨rfl, rfl⟩)
    | succ k ih =>
      intro i hi
      refine aw_iload_3 dX4_sizeOf_4 ?_
      refine aw_aload_0 dX4_sizeOf_5 ?_
      refine gf_X4_27 dX4_sizeOf_6 rfl rfl ?_
      refine aw_icmp_geN 35 dX4_sizeOf_9 (by decide) (by omega) (by omega) (fun hh => absurd hh (by omega)) (fun _ => ?_)
      refine aw_iload_3 dX4_sizeOf_12 ?_
      refine aw_iload_1 dX4_sizeOf_13 ?_
      refine ce_X4_31 dX4_sizeOf_14 (k_X9_isAmong _ i c (by omega) (by omega)) ?_
      by_cases q : bt_P c i
      · refine aw_if_eq 29 dX4_sizeOf_17 (by decide) (fun hh => absurd hh (bI_n q)) (fun _ => ?_)
        refine aw_iload_2 dX4_sizeOf_20 ?_
        refine aw_aload_0 dX4_sizeOf_21 ?_
        refine gf_X4_18 dX4_sizeOf_22 rfl rfl ?_
        refine aw_iload_3 dX4_sizeOf_25 ?_
        refine aw_ialdN dX4_sizeOf_26 rfl (by omega) ?_
        refine aw_iaddN dX4_sizeOf_27 ?_
        refine aw_istore_2 dX4_sizeOf_28 rfl (Nat.le_of_ble_eq_true rfl) ?_
        refine aw_iincN_3 dX4_sizeOf_29 rfl (Nat.le_of_ble_eq_true rfl) ?_
        refine aw_goto 4 dX4_sizeOf_32 (by decide) ?_
        have e : sz_N os c (i + 1) = sz_N os c i + os i := by show sz_N os c i + (if bt_P c i then os i else 0) = _; rw [if_pos q]
        rw [← e]
        exact ih (i + 1) (by omega)
      · refine aw_if_eq 29 dX4_sizeOf_17 (by decide) (fun _ => ?_) (fun hh => absurd (bI_f q) hh)
        refine aw_iincN_3 dX4_sizeOf_29 rfl (Nat.le_of_ble_eq_true rfl) ?_
        refine aw_goto 4 dX4_sizeOf_32 (by decide) ?_
        have e : sz_N os c (i + 1) = sz_N os c i := by show sz_N os c i + (if bt_P c i then os i else 0) = _; rw [if_neg q]; rfl
        rw [← e]
        exact ih (i + 1) (by omega)
  exact loop oc 0 (by omega)
theorem k_X4_sizeFrom (g : Nat × Int32) (P : pg_T) (t0 t1 t2 : tw_T) (o1 : of_T) (x : sc_T) (oc : Nat) (oa ob os : Nat → Nat) (p c : Nat) (hok : ok_O (oc, oa, ob, os)) (hp : p < 5) (hc : c < 64) : AM 2 yX4_sizeFrom cX4_sizeFrom 5 (some .int) [.ref 10, .int (nI p), .int (nI c)] (cw_C g P t0 t1 t2 (oc, oa, ob, os) o1 x) (ac_R (some (.int (nI (sf_N oa os p c oc)))) (cw_C g P t0 t1 t2 (oc, oa, ob, os) o1 x)) := by
  obtain ⟨h1, h2, h3, h4⟩ := hok
  refine AM.of (loc := [.ref 10, .int (nI p), .int (nI c), .null, .null]) RX4 rfl (by decide +kernel) (Nat.le_of_ble_eq_true rfl) rfl ?_
  refine akN_iconst_0 dX4_sizeFrom_0 ?_
  refine aw_istore_3 dX4_sizeFrom_1 rfl (Nat.le_of_ble_eq_true rfl) ?_
  refine akN_iconst_0 dX4_sizeFrom_2 ?_
  refine aw_istore_4 dX4_sizeFrom_3 rfl (Nat.le_of_ble_eq_true rfl) ?_
  have loop : ∀ k i, i + k = oc → AW 2 RX4 cX4_sizeFrom 5 (some .int) 41 (ac_R (some (.int (nI (sf_N oa os p c oc)))) (cw_C g P t0 t1 t2 (oc, oa, ob, os) o1 x)) 5 [.ref 10, .int (nI p), .int (nI c), .int (nI (sf_N oa os p c i)), .int (nI i)] [] (cw_C g P t0 t1 t2 (oc, oa, ob, os) o1 x) := by
    intro k
    induction k with
    | zero =>
      intro i hi
      obtain rfl : i = oc := by omega
      refine aw_iload_4 dX4_sizeFrom_5 ?_
      refine aw_aload_0 dX4_sizeFrom_7 ?_
      refine gf_X4_27 dX4_sizeFrom_8 rfl rfl ?_
      refine aw_icmp_geN 50 dX4_sizeFrom_11 (by decide) (by omega) (by omega) (fun _ => ?_) (fun hh => absurd hh (by omega))
      refine aw_iload_3 dX4_sizeFrom_50 ?_
      exact aw_iret dX4_sizeFrom_51 rfl (⟨rfl, rfl⟩)
    | succ k ih =>
      intro i hi
      have h5 := h2 i
      refine aw_iload_4 dX4_sizeFrom_5 ?_
      refine aw_aload_0 dX4_sizeFrom_7 ?_
      refine gf_X4_27 dX4_sizeFrom_8 rfl rfl ?_
      refine aw_icmp_geN 50 dX4_sizeFrom_11 (by decide) (by omega) (by omega) (fun hh => absurd hh (by omega)) (fun _ => ?_)
      refine aw_iload_4 dX4_sizeFrom_14 ?_
      refine aw_iload_2 dX4_sizeFrom_16 ?_
      refine ce_X4_31 dX4_sizeFrom_17 (k_X9_isAmong _ i c (by omega) (by omega)) ?_
      by_cases q : bt_P c i
      · refine aw_if_eq 44 dX4_sizeFrom_20 (by decide) (fun hh => absurd hh (bI_n q)) (fun _ => ?_)
        refine aw_aload_0 dX4_sizeFrom_23 ?_
        refine gf_X4_9 dX4_sizeFrom_24 rfl rfl ?_
        refine aw_iload_4 dX4_sizeFrom_27 ?_
        refine aw_ialdN dX4_sizeFrom_29 rfl (by omega) ?_
        refine aw_iload_1 dX4_sizeFrom_30 ?_
        refine aw_icmp_neN 44 dX4_sizeFrom_31 (by decide) (by omega) (by omega) (fun r => ?_) (fun r => ?_)
        · refine aw_iincN_4 dX4_sizeFrom_44 rfl (Nat.le_of_ble_eq_true rfl) ?_
          refine aw_goto 5 dX4_sizeFrom_47 (by decide) ?_
          have e : sf_N oa os p c (i + 1) = sf_N oa os p c i := by show sf_N oa os p c i + (if bt_P c i ∧ oa i = p then os i else 0) = _; rw [if_neg (fun z => r z.2)]; rfl
          rw [← e]
          exact ih (i + 1) (by omega)
        · refine aw_iload_3 dX4_sizeFrom_34 ?_
          refine aw_aload_0 dX4_sizeFrom_35 ?_
          refine gf_X4_18 dX4_sizeFrom_36 rfl rfl ?_
          refine aw_iload_4 dX4_sizeFrom_39 ?_
          refine aw_ialdN dX4_sizeFrom_41 rfl (by omega) ?_
          refine aw_iaddN dX4_sizeFrom_42 ?_
          refine aw_istore_3 dX4_sizeFrom_43 rfl (Nat.le_of_ble_eq_true rfl) ?_
          refine aw_iincN_4 dX4_sizeFrom_44 rfl (Nat.le_of_ble_eq_true rfl) ?_
          refine aw_goto 5 dX4_sizeFrom_47 (by decide) ?_
          have e : sf_N oa os p c (i + 1) = sf_N oa os p c i + os i := by show sf_N oa os p c i + (if bt_P c i ∧ oa i = p then os i else 0) = _; rw [if_pos ⟨q, r⟩]
          rw [← e]
          exact ih (i + 1) (by omega)
      · refine aw_if_eq 44 dX4_sizeFrom_20 (by decide) (fun _ => ?_) (fun hh => absurd (bI_f q) hh)
        refine aw_iincN_4 dX4_sizeFrom_44 rfl (Nat.le_of_ble_eq_true rfl) ?_
        refine aw_goto 5 dX4_sizeFrom_47 (by decide) ?_
        have e : sf_N oa os p c (i + 1) = sf_N oa os p c i := by show sf_N oa os p c i + (if bt_P c i ∧ oa i = p then os i else 0) = _; rw [if_neg (fun z => q z.1)]; rfl
        rw [← e]
        exact ih (i + 1) (by omega)
  exact loop oc 0 (by omega)
/-- how many bits of six -/
def pn_N (c : Nat) : Nat := fb_sm (fun k => c / 2 ^ k % 2) 6
theorem pn_le (c : Nat) : pn_N c ≤ 6 := sm_le (c := 1) (fun k => by omega) 6
def b1_I (i : Int32) : Int32 := i - ((i.toUInt32 >>> ((1 : Int32).toUInt32 &&& Int32.toUInt32 31)).toInt32 &&& 1431655765)
def b2_I (i : Int32) : Int32 := (i &&& 858993459) + ((i.toUInt32 >>> ((2 : Int32).toUInt32 &&& Int32.toUInt32 31)).toInt32 &&& 858993459)
def b3_I (i : Int32) : Int32 := (i + (i.toUInt32 >>> ((4 : Int32).toUInt32 &&& Int32.toUInt32 31)).toInt32) &&& 252645135
def b4_I (i : Int32) : Int32 := i + (i.toUInt32 >>> ((8 : Int32).toUInt32 &&& Int32.toUInt32 31)).toInt32
def b5_I (i : Int32) : Int32 := i + (i.toUInt32 >>> ((16 : Int32).toUInt32 &&& Int32.toUInt32 31)).toInt32
theorem bc_tab : ∀ c : Nat, c < 64 → b5_I (b4_I (b3_I (b2_I (b1_I (nI c))))) &&& 63 = nI (pn_N c) := by decide +kernel
theorem k_J6_bitCount (w : List ac_T) (c : Nat) (hc : c < 64) : AM 1 yJ6_bitCount_0f7a4 cJ6_bitCount_0f7a4 1 (some .int) [.int (nI c)] w (ac_R (some (.int (nI (pn_N c)))) w) := by
  refine AM.of (loc := [.int (nI c)]) RJ6 rfl (by decide +kernel) (Nat.le_of_ble_eq_true rfl) rfl ?_
  refine aw_iload_0 dJ6_bitCount_0f7a4_0 ?_
  refine aw_iload_0 dJ6_bitCount_0f7a4_1 ?_
  refine ak_iconst_1 dJ6_bitCount_0f7a4_2 ?_
  refine aw_iushr dJ6_bitCount_0f7a4_3 ?_
  refine aw_ldcw gq_594 dJ6_bitCount_0f7a4_4 ?_
  refine aw_iand dJ6_bitCount_0f7a4_7 ?_
  refine aw_isub dJ6_bitCount_0f7a4_8 ?_
  refine aw_topi (show _ = b1_I (nI c) from rfl) ?_
  refine aw_istore_0 dJ6_bitCount_0f7a4_9 (Nat.le_of_ble_eq_true rfl) ?_
  refine aw_iload_0 dJ6_bitCount_0f7a4_10 ?_
  refine aw_ldcw gq_595 dJ6_bitCount_0f7a4_11 ?_
  refine aw_iand dJ6_bitCount_0f7a4_14 ?_
  refine aw_iload_0 dJ6_bitCount_0f7a4_15 ?_
  refine ak_iconst_2 dJ6_bitCount_0f7a4_16 ?_
  refine aw_iushr dJ6_bitCount_0f7a4_17 ?_
  refine aw_ldcw gq_595 dJ6_bitCount_0f7a4_18 ?_
  refine aw_iand dJ6_bitCount_0f7a4_21 ?_
  refine aw_iadd dJ6_bitCount_0f7a4_22 ?_
  refine aw_topi (show _ = b2_I (b1_I (nI c)) from rfl) ?_
  refine aw_istore_0 dJ6_bitCount_0f7a4_23 (Nat.le_of_ble_eq_true rfl) ?_
  refine aw_iload_0 dJ6_bitCount_0f7a4_24 ?_
  refine aw_iload_0 dJ6_bitCount_0f7a4_25 ?_
  refine ak_iconst_4 dJ6_bitCount_0f7a4_26 ?_
  refine aw_iushr dJ6_bitCount_0f7a4_27 ?_
  refine aw_iadd dJ6_bitCount_0f7a4_28 ?_
  refine aw_ldcw gq_596 dJ6_bitCount_0f7a4_29 ?_
  refine aw_iand dJ6_bitCount_0f7a4_32 ?_
  refine aw_topi (show _ = b3_I (b2_I (b1_I (nI c))) from rfl) ?_
  refine aw_istore_0 dJ6_bitCount_0f7a4_33 (Nat.le_of_ble_eq_true rfl) ?_
  refine aw_iload_0 dJ6_bitCount_0f7a4_34 ?_
  refine aw_iload_0 dJ6_bitCount_0f7a4_35 ?_
  refine ak_bipush_8 dJ6_bitCount_0f7a4_36 ?_
  refine aw_iushr dJ6_bitCount_0f7a4_38 ?_
  refine aw_iadd dJ6_bitCount_0f7a4_39 ?_
  refine aw_topi (show _ = b4_I (b3_I (b2_I (b1_I (nI c)))) from rfl) ?_
  refine aw_istore_0 dJ6_bitCount_0f7a4_40 (Nat.le_of_ble_eq_true rfl) ?_
  refine aw_iload_0 dJ6_bitCount_0f7a4_41 ?_
  refine aw_iload_0 dJ6_bitCount_0f7a4_42 ?_
  refine ak_bipush_16 dJ6_bitCount_0f7a4_43 ?_
  refine aw_iushr dJ6_bitCount_0f7a4_45 ?_
  refine aw_iadd dJ6_bitCount_0f7a4_46 ?_
  refine aw_topi (show _ = b5_I (b4_I (b3_I (b2_I (b1_I (nI c))))) from rfl) ?_
  refine aw_istore_0 dJ6_bitCount_0f7a4_47 (Nat.le_of_ble_eq_true rfl) ?_
  refine aw_iload_0 dJ6_bitCount_0f7a4_48 ?_
  refine ak_bipush_63 dJ6_bitCount_0f7a4_49 ?_
  refine aw_iand dJ6_bitCount_0f7a4_51 ?_
  exact aw_iret dJ6_bitCount_0f7a4_52 rfl (⟨by rw [bc_tab c hc], rfl⟩)
/-- the best choice so far, as two fields -/
def en_I : Option (Nat × Nat) → Int32 × Int32
  | none => (-1, -1)
  | some (c, v) => (nI c, nI v)
/-- one more choice -/
def wg_O : Option (Nat × Nat) → Nat → Nat → Option (Nat × Nat)
  | none, c2, v2 => some (c2, v2)
  | some (c, v), c2, v2 => if v2 < v ∨ (v2 = v ∧ pn_N c2 < pn_N c) then some (c2, v2) else some (c, v)
def ok_B : Option (Nat × Nat) → Prop
  | none => True
  | some (c, v) => c < 64 ∧ v < 2147483648
theorem ok_wg {b : Option (Nat × Nat)} {c v : Nat} (h : ok_B b) (hc : c < 64) (hv : v < 2147483648) : ok_B (wg_O b c v) := by
  match b, h with
  | none, _ => exact ⟨hc, hv⟩
  | some (c1, v1), h =>
    by_cases q : v < v1 ∨ (v = v1 ∧ pn_N c < pn_N c1)
    · rw [show wg_O (some (c1, v1)) c v = some (c, v) from if_pos q]; exact ⟨hc, hv⟩
    · rw [show wg_O (some (c1, v1)) c v = some (c1, v1) from if_neg q]; exact h
theorem ni_m1 {c : Nat} (h : c < 2147483648) : ¬ nI c = -1 := by
  rw [fa_eq, nI_toInt h, show (-1 : Int32).toInt = -1 from rfl]
  omega
theorem k_X0_weigh (g : Nat × Int32) (P : pg_T) (t0 t1 t2 : tw_T) (o0 o1 : of_T) (xr : (Nat → Int32) × (Nat → Int32) × Int32 × Int32) (xs : (Nat → Int32) × (Nat → Int32)) (sd : Int32) (rk : Nat → Int32) (b : Option (Nat × Nat)) (c v : Nat) (hb : ok_B b) (hc : c < 64) (hv : v < 2147483648) : AM 2 yX0_weigh cX0_weigh 3 none [.ref 38, .int (nI c), .int (nI v)] (cw_C g P t0 t1 t2 o0 o1 (xr, xs, en_I b, sd, rk)) (ac_R none (cw_C g P t0 t1 t2 o0 o1 (xr, xs, en_I (wg_O b c v), sd, rk))) := by
  refine AM.of (loc := [.ref 38, .int (nI c), .int (nI v)]) RX0 rfl (by decide +kernel) (Nat.le_of_ble_eq_true rfl) rfl ?_
  match b, hb with
  | none, _ =>
    refine aw_w (w' := cw_C g P t0 t1 t2 o0 o1 (xr, xs, (-1, -1), sd, rk)) rfl ?_
    refine aw_aload_0 dX0_weigh_0 ?_
    refine gf_X0_9 dX0_weigh_1 rfl rfl ?_
    refine ak_iconst_m1 dX0_weigh_4 ?_
    refine aw_icmp_eq 38 dX0_weigh_5 (by decide) (fun _ => ?_) (fun hh => absurd (rfl) hh)
    refine aw_aload_0 dX0_weigh_38 ?_
    refine aw_iload_1 dX0_weigh_39 ?_
    refine pf_X0_9 dX0_weigh_40 rfl (Nat.le_of_ble_eq_true rfl) ?_
    refine aw_w cs_38_0 ?_
    refine aw_aload_0 dX0_weigh_43 ?_
    refine aw_iload_2 dX0_weigh_44 ?_
    refine pf_X0_15 dX0_weigh_45 rfl (Nat.le_of_ble_eq_true rfl) ?_
    refine aw_w cs_38_1 ?_
    exact aw_vret dX0_weigh_48 rfl (⟨rfl, rfl⟩)
  | some (c1, v1), hb =>
    obtain ⟨h1, h2⟩ := hb
    refine aw_w (w' := cw_C g P t0 t1 t2 o0 o1 (xr, xs, (nI c1, nI v1), sd, rk)) rfl ?_
    refine aw_aload_0 dX0_weigh_0 ?_
    refine gf_X0_9 dX0_weigh_1 rfl rfl ?_
    refine ak_iconst_m1 dX0_weigh_4 ?_
    refine aw_icmp_eq 38 dX0_weigh_5 (by decide) (fun hh => absurd hh (ni_m1 (by omega))) (fun _ => ?_)
    refine aw_iload_2 dX0_weigh_8 ?_
    refine aw_aload_0 dX0_weigh_9 ?_
    refine gf_X0_15 dX0_weigh_10 rfl rfl ?_
    refine aw_icmp_ltN 38 dX0_weigh_13 (by decide) (by omega) (by omega) (fun h3 => ?_) (fun h3 => ?_)
    · have e : wg_O (some (c1, v1)) c v = some (c, v) := if_pos (Or.inl h3)
      rw [e]
      refine aw_aload_0 dX0_weigh_38 ?_
      refine aw_iload_1 dX0_weigh_39 ?_
      refine pf_X0_9 dX0_weigh_40 rfl (Nat.le_of_ble_eq_true rfl) ?_
      refine aw_w cs_38_0 ?_
      refine aw_aload_0 dX0_weigh_43 ?_
      refine aw_iload_2 dX0_weigh_44 ?_
      refine pf_X0_15 dX0_weigh_45 rfl (Nat.le_of_ble_eq_true rfl) ?_
      refine aw_w cs_38_1 ?_
      exact aw_vret dX0_weigh_48 rfl (⟨rfl, rfl⟩)
    refine aw_iload_2 dX0_weigh_16 ?_
    refine aw_aload_0 dX0_weigh_17 ?_
    refine gf_X0_15 dX0_weigh_18 rfl rfl ?_
    refine aw_icmp_neN 48 dX0_weigh_21 (by decide) (by omega) (by omega) (fun h4 => ?_) (fun h4 => ?_)
    · have e : wg_O (some (c1, v1)) c v = some (c1, v1) := if_neg (fun q => by omega)
      rw [e]
      exact aw_vret dX0_weigh_48 rfl (⟨rfl, rfl⟩)
    have p1 := pn_le c
    have p2 := pn_le c1
    refine aw_iload_1 dX0_weigh_24 ?_
    refine ce_X0_35 dX0_weigh_25 (k_J6_bitCount _ c hc) ?_
    refine aw_aload_0 dX0_weigh_28 ?_
    refine gf_X0_9 dX0_weigh_29 rfl rfl ?_
    refine ce_X0_35 dX0_weigh_32 (k_J6_bitCount _ c1 h1) ?_
    refine aw_icmp_geN 48 dX0_weigh_35 (by decide) (by omega) (by omega) (fun h5 => ?_) (fun h5 => ?_)
    · have e : wg_O (some (c1, v1)) c v = some (c1, v1) := if_neg (fun q => by omega)
      rw [e]
      exact aw_vret dX0_weigh_48 rfl (⟨rfl, rfl⟩)
    have e : wg_O (some (c1, v1)) c v = some (c, v) := if_pos (Or.inr ⟨h4, h5⟩)
    rw [e]
    refine aw_aload_0 dX0_weigh_38 ?_
    refine aw_iload_1 dX0_weigh_39 ?_
    refine pf_X0_9 dX0_weigh_40 rfl (Nat.le_of_ble_eq_true rfl) ?_
    refine aw_w cs_38_0 ?_
    refine aw_aload_0 dX0_weigh_43 ?_
    refine aw_iload_2 dX0_weigh_44 ?_
    refine pf_X0_15 dX0_weigh_45 rfl (Nat.le_of_ble_eq_true rfl) ?_
    refine aw_w cs_38_1 ?_
    exact aw_vret dX0_weigh_48 rfl (⟨rfl, rfl⟩)
