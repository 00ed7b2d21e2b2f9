/-! ===== the reference: settling ===== -/
theorem an_1 : ∀ a : Nat, a < 32 → ∀ b : Nat, b < 32 → nI a &&& (nI b ^^^ (-1)) = nI (a - (a &&& b)) := by decide +kernel
theorem an_0 {a b : Nat} (ha : a < 32) : nI (a - (a &&& b)) = 0 ↔ a &&& b = a := by
  have h : a &&& b ≤ a := Nat.and_le_left
  rw [show (0 : Int32) = nI 0 from rfl, nI_eq (by omega) (by omega)]
  omega
/-- a set of even groups, all of them off -/
abbrev ge_P (dd : Nat → Int) (nn S off T : Nat) : Prop := T &&& S = T ∧ T &&& off = T ∧ ss_Z dd nn T = 0
def gm_N (dd : Nat → Int) (nn : Nat) (tab : Nat → Nat) (S off : Nat) : Nat → Nat
  | 0 => 0
  | j + 1 => if ge_P dd nn S off (j + 1) then max (gm_N dd nn tab S off j) (tab (S - (j + 1)) + 1) else gm_N dd nn tab S off j
def gt_N (dd : Nat → Int) (nn off : Nat) : Nat → Nat → Nat
  | 0 => fun _ => 0
  | 1 => fun _ => 0
  | g + 2 => va_up (gt_N dd nn off (g + 1)) (g + 1) (gm_N dd nn (gt_N dd nn off (g + 1)) (g + 1) off (g + 1))
theorem gm_le {dd : Nat → Int} {nn : Nat} {tab : Nat → Nat} {c : Nat} (h : ∀ k, tab k ≤ c) (S off : Nat) : ∀ j, gm_N dd nn tab S off j ≤ c + 1
  | 0 => Nat.zero_le _
  | j + 1 => by
    have ih := gm_le (dd := dd) (nn := nn) h S off j
    have := h (S - (j + 1))
    unfold gm_N
    split <;> omega
theorem gt_le (dd : Nat → Int) (nn off : Nat) : ∀ g k, gt_N dd nn off g k ≤ g
  | 0, k => Nat.zero_le _
  | 1, k => Nat.zero_le _
  | g + 2, k => by
    have ih := gt_le dd nn off (g + 1)
    have h1 := gm_le (dd := dd) (nn := nn) ih (g + 1) off (g + 1)
    unfold gt_N va_up
    split
    · omega
    · have := ih k
      omega
theorem k_X10_layGroups (rd : Int32) (pl : Nat) (pc : Nat → Nat) (ra up f0 su nn : Nat) (wk : Int32) (ki we ow fr of : Nat → Nat) (oc : Nat) (oa ob os : Nat → Nat) (K : mk_T) (sm gr rw : Nat → Int32) (sd h : Int64) (dd : Nat → Int) (tab : Nat → Nat) (S off : Nat) (hS : S < 32) (ho : off < 32) (hdd : ∀ g, -500000 ≤ ss_Z dd nn g ∧ ss_Z dd nn g ≤ 500000) (htab : ∀ k, tab k ≤ 100) (hsm : ∀ g, g ≤ S → sm g = Int32.ofInt (ss_Z dd nn g)) (hgr : ∀ g, g < S → gr g = nI (tab g)) (hgS : gr S = 0) : AM 2 yX10_layGroups cX10_layGroups 5 none [.ref 0, .int (nI S), .int (nI off)] (mw_M (rd, (pl, pc), (ra, up, f0, su, nn, wk), ki, (we, ow, fr, of), (oc, oa, ob, os)) K (sm, gr, rw, sd, h)) (ac_R none (mw_M (rd, (pl, pc), (ra, up, f0, su, nn, wk), ki, (we, ow, fr, of), (oc, oa, ob, os)) K (sm, upd gr S (nI (gm_N dd nn tab S off S)), rw, sd, h))) := by
  refine AM.of (loc := [.ref 0, .int (nI S), .int (nI off), .null, .null]) RX10 rfl (by decide +kernel) (Nat.le_of_ble_eq_true rfl) rfl ?_
  refine akN_iconst_1 dX10_layGroups_0 ?_
  refine aw_istore_3 dX10_layGroups_1 rfl (Nat.le_of_ble_eq_true rfl) ?_
  have loop : ∀ k j, j + k = S → ∀ j4 : Value, AW 2 RX10 cX10_layGroups 5 none 18 (ac_R none (mw_M (rd, (pl, pc), (ra, up, f0, su, nn, wk), ki, (we, ow, fr, of), (oc, oa, ob, os)) K (sm, upd gr S (nI (gm_N dd nn tab S off S)), rw, sd, h))) 2 [.ref 0, .int (nI S), .int (nI off), .int (nI (j + 1)), j4] [] (mw_M (rd, (pl, pc), (ra, up, f0, su, nn, wk), ki, (we, ow, fr, of), (oc, oa, ob, os)) K (sm, upd gr S (nI (gm_N dd nn tab S off j)), rw, sd, h)) := by
    intro k
    induction k with
    | zero =>
      intro j hj j4
      obtain rfl : j = S := by omega
      refine aw_iload_3 dX10_layGroups_2 ?_
      refine aw_iload_1 dX10_layGroups_3 ?_
      refine aw_icmp_gtN 86 dX10_layGroups_4 (by decide) (by omega) (by omega) (fun _ => ?_) (fun hh => absurd hh (by omega))
      exact aw_vret dX10_layGroups_86 rfl (⟨rfl, rfl⟩)
    | succ k ih =>
      intro j hj j4
      have hm := gm_le (dd := dd) (nn := nn) htab S off j
      have ht := htab (S - (j + 1))
      have hb := hdd (j + 1)
      have no : ¬ ge_P dd nn S off (j + 1) → AW 2 RX10 cX10_layGroups 5 none 18 (ac_R none (mw_M (rd, (pl, pc), (ra, up, f0, su, nn, wk), ki, (we, ow, fr, of), (oc, oa, ob, os)) K (sm, upd gr S (nI (gm_N dd nn tab S off S)), rw, sd, h))) 36 [.ref 0, .int (nI S), .int (nI off), .int (nI (j + 1)), j4] [] (mw_M (rd, (pl, pc), (ra, up, f0, su, nn, wk), ki, (we, ow, fr, of), (oc, oa, ob, os)) K (sm, upd gr S (nI (gm_N dd nn tab S off j)), rw, sd, h)) := by
        intro q
        refine ak_iconst_0 dX10_layGroups_36 ?_
        refine aw_istore_4 dX10_layGroups_37 rfl (Nat.le_of_ble_eq_true rfl) ?_
        refine aw_aload_0 dX10_layGroups_39 ?_
        refine gf_X10_48 dX10_layGroups_40 rfl rfl ?_
        refine aw_iload_1 dX10_layGroups_43 ?_
        refine aw_iload_4 dX10_layGroups_44 ?_
        refine aw_if_eq 73 dX10_layGroups_46 (by decide) (fun _ => ?_) (fun hh => absurd (rfl) hh)
        refine aw_aload_0 dX10_layGroups_73 ?_
        refine gf_X10_48 dX10_layGroups_74 rfl rfl ?_
        refine aw_iload_1 dX10_layGroups_77 ?_
        refine aw_ialdI dX10_layGroups_78 rfl (by omega) ?_
        refine aw_topi pk_us ?_
        refine aw_iastI dX10_layGroups_79 rfl (by omega) ?_
        refine aw_w cm_11 ?_
        refine aw_iincN_3 dX10_layGroups_80 rfl (Nat.le_of_ble_eq_true rfl) ?_
        refine aw_goto 2 dX10_layGroups_83 (by decide) ?_
        rw [fa_upd_twice]
        have h := ih (j + 1) (by omega) (.int 0)
        rw [gm_N, if_neg q] at h
        exact h
      refine aw_iload_3 dX10_layGroups_2 ?_
      refine aw_iload_1 dX10_layGroups_3 ?_
      refine aw_icmp_gtN 86 dX10_layGroups_4 (by decide) (by omega) (by omega) (fun hh => absurd hh (by omega)) (fun _ => ?_)
      refine aw_iload_3 dX10_layGroups_7 ?_
      refine aw_iload_1 dX10_layGroups_8 ?_
      refine ak_iconst_m1 dX10_layGroups_9 ?_
      refine aw_ixor dX10_layGroups_10 ?_
      refine aw_iand dX10_layGroups_11 ?_
      refine aw_topi (an_1 (j + 1) (by omega) S hS) ?_
      by_cases q1 : (j + 1) &&& S = j + 1
      · refine aw_if_ne 36 dX10_layGroups_12 (by decide) (fun hh => absurd ((an_0 (by omega)).mpr q1) hh) (fun _ => ?_)
        refine aw_iload_3 dX10_layGroups_15 ?_
        refine aw_iload_2 dX10_layGroups_16 ?_
        refine ak_iconst_m1 dX10_layGroups_17 ?_
        refine aw_ixor dX10_layGroups_18 ?_
        refine aw_iand dX10_layGroups_19 ?_
        refine aw_topi (an_1 (j + 1) (by omega) off ho) ?_
        by_cases q2 : (j + 1) &&& off = j + 1
        · refine aw_if_ne 36 dX10_layGroups_20 (by decide) (fun hh => absurd ((an_0 (by omega)).mpr q2) hh) (fun _ => ?_)
          refine aw_aload_0 dX10_layGroups_23 ?_
          refine gf_X10_45 dX10_layGroups_24 rfl rfl ?_
          refine aw_iload_3 dX10_layGroups_27 ?_
          refine aw_ialdI dX10_layGroups_28 rfl (by omega) ?_
          refine aw_topi (hsm (j + 1) (by omega)) ?_
          by_cases q3 : ss_Z dd nn (j + 1) = 0
          · refine aw_if_ne 36 dX10_layGroups_29 (by decide) (fun hh => absurd ((ii_0 (by omega) (by omega)).mpr q3) hh) (fun _ => ?_)
            refine ak_iconst_1 dX10_layGroups_32 ?_
            refine aw_goto 37 dX10_layGroups_33 (by decide) ?_
            refine aw_istore_4 dX10_layGroups_37 rfl (Nat.le_of_ble_eq_true rfl) ?_
            refine aw_aload_0 dX10_layGroups_39 ?_
            refine gf_X10_48 dX10_layGroups_40 rfl rfl ?_
            refine aw_iload_1 dX10_layGroups_43 ?_
            refine aw_iload_4 dX10_layGroups_44 ?_
            refine aw_if_eq 73 dX10_layGroups_46 (by decide) (fun hh => absurd hh ((by decide))) (fun _ => ?_)
            refine aw_aload_0 dX10_layGroups_49 ?_
            refine gf_X10_48 dX10_layGroups_50 rfl rfl ?_
            refine aw_iload_1 dX10_layGroups_53 ?_
            refine aw_ialdI dX10_layGroups_54 rfl (by omega) ?_
            refine aw_topi pk_us ?_
            refine aw_aload_0 dX10_layGroups_55 ?_
            refine gf_X10_48 dX10_layGroups_56 rfl rfl ?_
            refine aw_iload_1 dX10_layGroups_59 ?_
            refine aw_iload_3 dX10_layGroups_60 ?_
            refine ak_iconst_m1 dX10_layGroups_61 ?_
            refine aw_ixor dX10_layGroups_62 ?_
            refine aw_iand dX10_layGroups_63 ?_
            refine aw_topi (an_1 S hS (j + 1) (by omega)) ?_
            rw [Nat.and_comm S (j + 1), q1]
            refine aw_ialdI dX10_layGroups_64 rfl (by omega) ?_
            refine aw_topi ((pk_un (by omega)).trans (hgr _ (by omega))) ?_
            refine akN_iconst_1 dX10_layGroups_65 ?_
            refine aw_iaddN dX10_layGroups_66 ?_
            refine ce_X10_127 dX10_layGroups_67 (k_X10_more _ _ _ (by omega) (by omega)) ?_
            refine aw_goto 79 dX10_layGroups_70 (by decide) ?_
            refine aw_iastI dX10_layGroups_79 rfl (by omega) ?_
            refine aw_w cm_11 ?_
            refine aw_iincN_3 dX10_layGroups_80 rfl (Nat.le_of_ble_eq_true rfl) ?_
            refine aw_goto 2 dX10_layGroups_83 (by decide) ?_
            rw [fa_upd_twice]
            have h := ih (j + 1) (by omega) (.int 1)
            rw [gm_N, if_pos ⟨q1, q2, q3⟩] at h
            exact h
          · refine aw_if_ne 36 dX10_layGroups_29 (by decide) (fun _ => ?_) (fun hh => absurd hh ((fun z => q3 ((ii_0 (by omega) (by omega)).mp z))))
            exact no (fun z => q3 z.2.2)
        · refine aw_if_ne 36 dX10_layGroups_20 (by decide) (fun _ => ?_) (fun hh => absurd hh ((fun z => q2 ((an_0 (by omega)).mp z))))
          exact no (fun z => q2 z.2.1)
      · refine aw_if_ne 36 dX10_layGroups_12 (by decide) (fun _ => ?_) (fun hh => absurd hh ((fun z => q1 ((an_0 (by omega)).mp z))))
        exact no (fun z => q1 z.1)
  have h := loop S 0 (by omega) .null
  rw [fa_upd_same (show gr S = nI (gm_N dd nn tab S off 0) from hgS)] at h
  exact h
/-- those who are off -/
def of_B (dd : Nat → Int) : Nat → Nat := fb_sm (fun p => if dd p = 0 then 0 else 2 ^ p)
theorem of_lt (dd : Nat → Int) : ∀ n, of_B dd n < 2 ^ n
  | 0 => by show 0 < 1; decide
  | j + 1 => by
    have ih := of_lt dd j
    show of_B dd j + (if dd j = 0 then 0 else 2 ^ j) < 2 ^ (j + 1)
    rw [Nat.pow_succ]
    split <;> omega
def sg_I (nn : Nat) (ow : Nat → Nat) : Int32 := nI (pn_N (of_B (dd_Z nn ow) nn)) - nI (gt_N (dd_Z nn ow) nn (of_B (dd_Z nn ow) nn) (2 ^ nn) (of_B (dd_Z nn ow) nn))
theorem dd_br {nn : Nat} {ow : Nat → Nat} (hn : nn ≤ 5) (h : ∀ p q, p < nn → q < nn → ow (5 * p + q) ≤ 9999) (p : Nat) (hp : p < nn) : fb_sm (fun q => ow (5 * p + q)) nn ≤ 49995 ∧ fb_sm (fun q => ow (5 * q + p)) nn ≤ 49995 := by
  have h1 := fb_sm_bound (f := fun q => ow (5 * p + q)) (n := nn) (fun q hq => h p q hp hq)
  have h2 := fb_sm_bound (f := fun q => ow (5 * q + p)) (n := nn) (fun q hq => h q p hq hp)
  have h3 : nn * 9999 ≤ 5 * 9999 := Nat.mul_le_mul_right _ hn
  constructor <;> omega
theorem ss_br {dd : Nat → Int} {nn : Nat} (h : ∀ p, p < nn → -100000 ≤ dd p ∧ dd p ≤ 100000) (hn : nn ≤ 5) (m g : Nat) (hm : m ≤ nn) : -500000 ≤ ss_Z dd m g ∧ ss_Z dd m g ≤ 500000 := by
  have h1 := fb_si_bound (f := fun p => if bt_P g p then dd p else 0) (c := 100000) (by decide) (n := m) (fun k hk => by
    split
    · exact h k (by omega)
    · exact ⟨by decide, by decide⟩)
  unfold ss_Z
  have h2 : (m : Int) ≤ 5 := by omega
  constructor <;> omega
theorem ii_ad2 {z : Int} {a b : Nat} (h1 : -1000000 ≤ z) (h2 : z ≤ 1000000) (ha : a ≤ 100000) (hb : b ≤ 100000) : Int32.ofInt z + (nI a - nI b) = Int32.ofInt (z + ((a : Int) - b)) := by
  have ea : (nI a).toInt = (a : Int) := nI_toInt (show a < 2 ^ 31 by omega)
  have eb : (nI b).toInt = (b : Int) := nI_toInt (show b < 2 ^ 31 by omega)
  have ez : (Int32.ofInt z).toInt = z := fb_ofI (by omega) (by omega)
  have e1 : (nI a - nI b).toInt = (a : Int) - b := by rw [fb_subI (by rw [ea, eb]; omega) (by rw [ea, eb]; omega), ea, eb]
  rw [fa_eq, fb_addI (by rw [ez, e1]; omega) (by rw [ez, e1]; omega), ez, e1, fb_ofI (by omega) (by omega)]
theorem k_X10_settlingNow (rd : Int32) (pl : Nat) (pc : Nat → Nat) (ra up f0 su nn : Nat) (wk : Int32) (ki we ow fr of : Nat → Nat) (oc : Nat) (oa ob os : Nat → Nat) (K : mk_T) (sm gr rw : Nat → Int32) (sd h : Int64) (hn : nn ≤ 5) (how : ∀ p q, p < nn → q < nn → ow (5 * p + q) ≤ 9999) : AM 3 yX10_settlingNow cX10_settlingNow 4 (some .int) [.ref 0] (mw_M (rd, (pl, pc), (ra, up, f0, su, nn, wk), ki, (we, ow, fr, of), (oc, oa, ob, os)) K (sm, gr, rw, sd, h)) (fun r w' => r = some (.int (sg_I nn ow)) ∧ ∃ sm gr : Nat → Int32, w' = (mw_M (rd, (pl, pc), (ra, up, f0, su, nn, wk), ki, (we, ow, fr, of), (oc, oa, ob, os)) K (sm, gr, rw, sd, h))) := by
  have hpow : 2 ^ nn ≤ 2 ^ 5 := Nat.pow_le_pow_right (by decide) hn
  have hpos : 0 < 2 ^ nn := Nat.two_pow_pos nn
  have hdd : ∀ p, p < nn → -100000 ≤ dd_Z nn ow p ∧ dd_Z nn ow p ≤ 100000 := fun p hp => by
    have := dd_br hn how p hp
    unfold dd_Z
    constructor <;> omega
  have hoff := of_lt (dd_Z nn ow) nn
  refine AM.of (loc := [.ref 0, .null, .null, .null]) RX10 rfl (by decide +kernel) (Nat.le_of_ble_eq_true rfl) rfl ?_
  refine akN_iconst_0 dX10_settlingNow_0 ?_
  refine aw_istore_1 dX10_settlingNow_1 rfl (Nat.le_of_ble_eq_true rfl) ?_
  refine akN_iconst_0 dX10_settlingNow_2 ?_
  refine aw_istore_2 dX10_settlingNow_3 rfl (Nat.le_of_ble_eq_true rfl) ?_
  have fin : ∀ k g, g + k = 2 ^ nn → 0 < g → ∀ (sm gr : Nat → Int32) (j3 : Value), (∀ c, c < 2 ^ nn → sm c = Int32.ofInt (ss_Z (dd_Z nn ow) nn c)) → (∀ c, c < g → gr c = nI (gt_N (dd_Z nn ow) nn (of_B (dd_Z nn ow) nn) g c)) → (∀ c, g ≤ c → c < 2 ^ nn → gr c = 0) → AW 3 RX10 cX10_settlingNow 4 (some .int) 18 (fun r w' => r = some (.int (sg_I nn ow)) ∧ ∃ sm gr : Nat → Int32, w' = (mw_M (rd, (pl, pc), (ra, up, f0, su, nn, wk), ki, (we, ow, fr, of), (oc, oa, ob, os)) K (sm, gr, rw, sd, h))) 128 [.ref 0, .int (nI (of_B (dd_Z nn ow) nn)), .int (nI g), j3] [] (mw_M (rd, (pl, pc), (ra, up, f0, su, nn, wk), ki, (we, ow, fr, of), (oc, oa, ob, os)) K (sm, gr, rw, sd, h)) := by
    intro k
    induction k with
    | zero =>
      intro g hg h0 sm gr j3 hsm hgr hz
      obtain rfl : g = 2 ^ nn := by omega
      refine aw_iload_2 dX10_settlingNow_128 ?_
      refine ak_iconst_1 dX10_settlingNow_129 ?_
      refine aw_aload_0 dX10_settlingNow_130 ?_
      refine gf_X10_93 dX10_settlingNow_131 rfl rfl ?_
      refine aw_ishl dX10_settlingNow_134 ?_
      refine aw_topi (sh_one (by omega)) ?_
      refine aw_icmp_geN 150 dX10_settlingNow_135 (by decide) (by omega) (by omega) (fun _ => ?_) (fun hh => absurd hh (by omega))
      refine aw_iload_1 dX10_settlingNow_150 ?_
      refine ce_X10_161 dX10_settlingNow_151 (k_X10_size _ _ (by omega)) ?_
      refine aw_aload_0 dX10_settlingNow_154 ?_
      refine gf_X10_48 dX10_settlingNow_155 rfl rfl ?_
      refine aw_iload_1 dX10_settlingNow_158 ?_
      refine aw_ialdI dX10_settlingNow_159 rfl (by omega) ?_
      refine aw_topi (hgr _ hoff) ?_
      refine aw_isub dX10_settlingNow_160 ?_
      exact aw_iret dX10_settlingNow_161 rfl (⟨rfl, sm, gr, rfl⟩)
    | succ k ih =>
      intro g hg h0 sm gr j3 hsm hgr hz
      refine aw_iload_2 dX10_settlingNow_128 ?_
      refine ak_iconst_1 dX10_settlingNow_129 ?_
      refine aw_aload_0 dX10_settlingNow_130 ?_
      refine gf_X10_93 dX10_settlingNow_131 rfl rfl ?_
      refine aw_ishl dX10_settlingNow_134 ?_
      refine aw_topi (sh_one (by omega)) ?_
      refine aw_icmp_geN 150 dX10_settlingNow_135 (by decide) (by omega) (by omega) (fun hh => absurd hh (by omega)) (fun _ => ?_)
      refine aw_aload_0 dX10_settlingNow_138 ?_
      refine aw_iload_2 dX10_settlingNow_139 ?_
      refine aw_iload_1 dX10_settlingNow_140 ?_
      refine ce_X10_157 dX10_settlingNow_141 rfl (k_X10_layGroups rd pl pc ra up f0 su nn wk ki we ow fr of oc oa ob os K sm gr rw sd h (dd_Z nn ow) (gt_N (dd_Z nn ow) nn (of_B (dd_Z nn ow) nn) g) g (of_B (dd_Z nn ow) nn) (by omega) (by omega) (fun c => ss_br hdd hn nn c (Nat.le_refl _)) (fun k => Nat.le_trans (gt_le _ _ _ g k) (by omega)) (fun c hc => hsm c (by omega)) hgr (hz g (Nat.le_refl _) (by omega))) ?_
      refine aw_iincN_2 dX10_settlingNow_144 rfl (Nat.le_of_ble_eq_true rfl) ?_
      refine aw_goto 128 dX10_settlingNow_147 (by decide) ?_
      refine ih (g + 1) (by omega) (by omega) _ _ _ hsm (fun c hc => ?_) (fun c h1 h2 => (pk_un (by omega)).trans (hz c (by omega) h2))
      match g, h0 with
      | g + 1, _ =>
        by_cases q : c = g + 1
        · subst q
          rw [pk_us, gt_N, va_up, if_pos rfl]
        · rw [pk_un q, gt_N, va_up, if_neg q]
          exact hgr c (by omega)
  have sums : ∀ k g, g + k = 2 ^ nn → ∀ (sm gr : Nat → Int32) (j3 : Value), (∀ c, c < g → sm c = Int32.ofInt (ss_Z (dd_Z nn ow) nn c)) → (∀ c, c < g → gr c = 0) → AW 3 RX10 cX10_settlingNow 4 (some .int) 18 (fun r w' => r = some (.int (sg_I nn ow)) ∧ ∃ sm gr : Nat → Int32, w' = (mw_M (rd, (pl, pc), (ra, up, f0, su, nn, wk), ki, (we, ow, fr, of), (oc, oa, ob, os)) K (sm, gr, rw, sd, h))) 45 [.ref 0, .int (nI (of_B (dd_Z nn ow) nn)), .int (nI g), j3] [] (mw_M (rd, (pl, pc), (ra, up, f0, su, nn, wk), ki, (we, ow, fr, of), (oc, oa, ob, os)) K (sm, gr, rw, sd, h)) := by
    intro k
    induction k with
    | zero =>
      intro g hg sm gr j3 hsm hgr
      obtain rfl : g = 2 ^ nn := by omega
      refine aw_iload_2 dX10_settlingNow_45 ?_
      refine ak_iconst_1 dX10_settlingNow_46 ?_
      refine aw_aload_0 dX10_settlingNow_47 ?_
      refine gf_X10_93 dX10_settlingNow_48 rfl rfl ?_
      refine aw_ishl dX10_settlingNow_51 ?_
      refine aw_topi (sh_one (by omega)) ?_
      refine aw_icmp_geN 126 dX10_settlingNow_52 (by decide) (by omega) (by omega) (fun _ => ?_) (fun hh => absurd hh (by omega))
      refine akN_iconst_1 dX10_settlingNow_126 ?_
      refine aw_istore_2 dX10_settlingNow_127 rfl (Nat.le_of_ble_eq_true rfl) ?_
      refine fin (2 ^ nn - 1) 1 (by omega) (by omega) sm gr j3 hsm (fun c hc => ?_) (fun c h1 h2 => hgr c h2)
      rw [hgr c (by omega)]
      rfl
    | succ k ih =>
      intro g hg sm gr j3 hsm hgr
      refine aw_iload_2 dX10_settlingNow_45 ?_
      refine ak_iconst_1 dX10_settlingNow_46 ?_
      refine aw_aload_0 dX10_settlingNow_47 ?_
      refine gf_X10_93 dX10_settlingNow_48 rfl rfl ?_
      refine aw_ishl dX10_settlingNow_51 ?_
      refine aw_topi (sh_one (by omega)) ?_
      refine aw_icmp_geN 126 dX10_settlingNow_52 (by decide) (by omega) (by omega) (fun hh => absurd hh (by omega)) (fun _ => ?_)
      refine aw_aload_0 dX10_settlingNow_55 ?_
      refine gf_X10_45 dX10_settlingNow_56 rfl rfl ?_
      refine aw_iload_2 dX10_settlingNow_59 ?_
      refine ak_iconst_0 dX10_settlingNow_60 ?_
      refine aw_iastI dX10_settlingNow_61 rfl (by omega) ?_
      refine aw_w cm_10 ?_
      refine aw_aload_0 dX10_settlingNow_62 ?_
      refine gf_X10_48 dX10_settlingNow_63 rfl rfl ?_
      refine aw_iload_2 dX10_settlingNow_66 ?_
      refine ak_iconst_0 dX10_settlingNow_67 ?_
      refine aw_iastI dX10_settlingNow_68 rfl (by omega) ?_
      refine aw_w cm_11 ?_
      refine akN_iconst_0 dX10_settlingNow_69 ?_
      refine aw_istore_3 dX10_settlingNow_70 rfl (Nat.le_of_ble_eq_true rfl) ?_
      have inner : ∀ i m, m + i = nn → AW 3 RX10 cX10_settlingNow 4 (some .int) 18 (fun r w' => r = some (.int (sg_I nn ow)) ∧ ∃ sm gr : Nat → Int32, w' = (mw_M (rd, (pl, pc), (ra, up, f0, su, nn, wk), ki, (we, ow, fr, of), (oc, oa, ob, os)) K (sm, gr, rw, sd, h))) 71 [.ref 0, .int (nI (of_B (dd_Z nn ow) nn)), .int (nI g), .int (nI m)] [] (mw_M (rd, (pl, pc), (ra, up, f0, su, nn, wk), ki, (we, ow, fr, of), (oc, oa, ob, os)) K (upd sm g (Int32.ofInt (ss_Z (dd_Z nn ow) m g)), upd gr g 0, rw, sd, h)) := by
        intro i
        induction i with
        | zero =>
          intro m hm
          obtain rfl : m = nn := by omega
          refine aw_iload_3 dX10_settlingNow_71 ?_
          refine aw_aload_0 dX10_settlingNow_72 ?_
          refine gf_X10_93 dX10_settlingNow_73 rfl rfl ?_
          refine aw_icmp_geN 120 dX10_settlingNow_76 (by decide) (by omega) (by omega) (fun _ => ?_) (fun hh => absurd hh (by omega))
          refine aw_iincN_2 dX10_settlingNow_120 rfl (Nat.le_of_ble_eq_true rfl) ?_
          refine aw_goto 45 dX10_settlingNow_123 (by decide) ?_
          refine ih (g + 1) (by omega) _ _ _ (fun c hc => ?_) (fun c hc => ?_)
          · by_cases q : c = g
            · subst q; exact pk_us
            · rw [pk_un q]; exact hsm c (by omega)
          · by_cases q : c = g
            · subst q; exact pk_us
            · rw [pk_un q]; exact hgr c (by omega)
        | succ i ihi =>
          intro m hm
          have hbm := ss_br hdd hn m g (by omega)
          have hdv : g / 2 ^ m ≤ g := Nat.div_le_self _ _
          have hm2 : g / 2 ^ m % 2 ^ 1 < 2 := Nat.mod_lt _ (by decide)
          have hA := k_X10_owesAll rd pl pc ra up f0 su nn wk ki we ow fr of oc oa ob os K (upd sm g (Int32.ofInt (ss_Z (dd_Z nn ow) m g)), upd gr g 0, rw, sd, h) 0 m (by omega) (by omega) hn
          have hB := k_X10_owedBy rd pl pc ra up f0 su nn wk ki we ow fr of oc oa ob os K (upd sm g (Int32.ofInt (ss_Z (dd_Z nn ow) m g)), upd gr g 0, rw, sd, h) 0 m (by omega) (by omega) hn
          rw [sh_0] at hA hB
          have hbb := dd_br hn how m (by omega)
          refine aw_iload_3 dX10_settlingNow_71 ?_
          refine aw_aload_0 dX10_settlingNow_72 ?_
          refine gf_X10_93 dX10_settlingNow_73 rfl rfl ?_
          refine aw_icmp_geN 120 dX10_settlingNow_76 (by decide) (by omega) (by omega) (fun hh => absurd hh (by omega)) (fun _ => ?_)
          refine aw_aload_0 dX10_settlingNow_79 ?_
          refine gf_X10_45 dX10_settlingNow_80 rfl rfl ?_
          refine aw_iload_2 dX10_settlingNow_83 ?_
          refine aw_dup2 dX10_settlingNow_84 rfl rfl ?_
          refine aw_ialdI dX10_settlingNow_85 rfl (by omega) ?_
          refine aw_topi pk_us ?_
          refine aw_iload_2 dX10_settlingNow_86 ?_
          refine aw_iload_3 dX10_settlingNow_87 ?_
          refine aw_ishr dX10_settlingNow_88 ?_
          refine aw_topi (sh_shr (by omega) (by omega)) ?_
          refine ak_iconst_1 dX10_settlingNow_89 ?_
          refine aw_iand dX10_settlingNow_90 ?_
          refine aw_topi (pk_andN (by omega) 1 rfl : nI (g / 2 ^ m) &&& 1 = nI (g / 2 ^ m % 2 ^ 1)) ?_
          refine akN_iconst_1 dX10_settlingNow_91 ?_
          refine aw_icmp_neN 111 dX10_settlingNow_92 (by decide) (by omega) (by omega) (fun q => ?_) (fun q => ?_)
          · have q : ¬ bt_P g m := q
            refine ak_iconst_0 dX10_settlingNow_111 ?_
            refine aw_iadd dX10_settlingNow_112 ?_
            refine aw_topi (show Int32.ofInt (ss_Z (dd_Z nn ow) m g) + 0 = Int32.ofInt (ss_Z (dd_Z nn ow) (m + 1) g) by
              rw [Int32.add_zero]
              show _ = Int32.ofInt (ss_Z (dd_Z nn ow) m g + if bt_P g m then dd_Z nn ow m else 0)
              rw [if_neg q, Int.add_zero]) ?_
            refine aw_iastI dX10_settlingNow_113 rfl (by omega) ?_
            refine aw_w cm_10 ?_
            rw [fa_upd_twice]
            refine aw_iincN_3 dX10_settlingNow_114 rfl (Nat.le_of_ble_eq_true rfl) ?_
            refine aw_goto 71 dX10_settlingNow_117 (by decide) ?_
            exact ihi (m + 1) (by omega)
          · have q : bt_P g m := q
            refine aw_aload_0 dX10_settlingNow_95 ?_
            refine ak_iconst_0 dX10_settlingNow_96 ?_
            refine aw_iload_3 dX10_settlingNow_97 ?_
            refine ce_X10_107 dX10_settlingNow_98 rfl (hA) ?_
            refine aw_aload_0 dX10_settlingNow_101 ?_
            refine ak_iconst_0 dX10_settlingNow_102 ?_
            refine aw_iload_3 dX10_settlingNow_103 ?_
            refine ce_X10_103 dX10_settlingNow_104 rfl (hB) ?_
            refine aw_isub dX10_settlingNow_107 ?_
            refine aw_goto 112 dX10_settlingNow_108 (by decide) ?_
            refine aw_iadd dX10_settlingNow_112 ?_
            refine aw_topi ((ii_ad2 (by omega) (by omega) (by omega) (by omega)).trans (show Int32.ofInt (ss_Z (dd_Z nn ow) m g + dd_Z nn ow m) = Int32.ofInt (ss_Z (dd_Z nn ow) (m + 1) g) by
              show _ = Int32.ofInt (ss_Z (dd_Z nn ow) m g + if bt_P g m then dd_Z nn ow m else 0)
              rw [if_pos q])) ?_
            refine aw_iastI dX10_settlingNow_113 rfl (by omega) ?_
            refine aw_w cm_10 ?_
            rw [fa_upd_twice]
            refine aw_iincN_3 dX10_settlingNow_114 rfl (Nat.le_of_ble_eq_true rfl) ?_
            refine aw_goto 71 dX10_settlingNow_117 (by decide) ?_
            exact ihi (m + 1) (by omega)
      have hi := inner nn 0 (by omega)
      rw [show Int32.ofInt (ss_Z (dd_Z nn ow) 0 g) = 0 from rfl] at hi
      exact hi
  have offs : ∀ k i, i + k = nn → AW 3 RX10 cX10_settlingNow 4 (some .int) 18 (fun r w' => r = some (.int (sg_I nn ow)) ∧ ∃ sm gr : Nat → Int32, w' = (mw_M (rd, (pl, pc), (ra, up, f0, su, nn, wk), ki, (we, ow, fr, of), (oc, oa, ob, os)) K (sm, gr, rw, sd, h))) 4 [.ref 0, .int (nI (of_B (dd_Z nn ow) i)), .int (nI i), .null] [] (mw_M (rd, (pl, pc), (ra, up, f0, su, nn, wk), ki, (we, ow, fr, of), (oc, oa, ob, os)) K (sm, gr, rw, sd, h)) := by
    intro k
    induction k with
    | zero =>
      intro i hi
      obtain rfl : i = nn := by omega
      refine aw_iload_2 dX10_settlingNow_4 ?_
      refine aw_aload_0 dX10_settlingNow_5 ?_
      refine gf_X10_93 dX10_settlingNow_6 rfl rfl ?_
      refine aw_icmp_geN 43 dX10_settlingNow_9 (by decide) (by omega) (by omega) (fun _ => ?_) (fun hh => absurd hh (by omega))
      refine akN_iconst_0 dX10_settlingNow_43 ?_
      refine aw_istore_2 dX10_settlingNow_44 rfl (Nat.le_of_ble_eq_true rfl) ?_
      exact sums (2 ^ i) 0 (by omega) sm gr _ (fun c hc => absurd hc (by omega)) (fun c hc => absurd hc (by omega))
    | succ k ih =>
      intro i hi
      have hA := k_X10_owesAll rd pl pc ra up f0 su nn wk ki we ow fr of oc oa ob os K (sm, gr, rw, sd, h) 0 i (by omega) (by omega) hn
      have hB := k_X10_owedBy rd pl pc ra up f0 su nn wk ki we ow fr of oc oa ob os K (sm, gr, rw, sd, h) 0 i (by omega) (by omega) hn
      rw [sh_0] at hA hB
      have hbb := dd_br hn how i (by omega)
      have hz : dd_Z nn ow i = 0 ↔ fb_sm (fun q => ow (5 * i + q)) nn = fb_sm (fun q => ow (5 * q + i)) nn := by unfold dd_Z; omega
      refine aw_iload_2 dX10_settlingNow_4 ?_
      refine aw_aload_0 dX10_settlingNow_5 ?_
      refine gf_X10_93 dX10_settlingNow_6 rfl rfl ?_
      refine aw_icmp_geN 43 dX10_settlingNow_9 (by decide) (by omega) (by omega) (fun hh => absurd hh (by omega)) (fun _ => ?_)
      refine aw_iload_1 dX10_settlingNow_12 ?_
      refine aw_aload_0 dX10_settlingNow_13 ?_
      refine akN_iconst_0 dX10_settlingNow_14 ?_
      refine aw_iload_2 dX10_settlingNow_15 ?_
      refine ce_X10_107 dX10_settlingNow_16 rfl (hA) ?_
      refine aw_aload_0 dX10_settlingNow_19 ?_
      refine akN_iconst_0 dX10_settlingNow_20 ?_
      refine aw_iload_2 dX10_settlingNow_21 ?_
      refine ce_X10_103 dX10_settlingNow_22 rfl (hB) ?_
      refine aw_icmp_neN 32 dX10_settlingNow_25 (by decide) (by omega) (by omega) (fun q => ?_) (fun q => ?_)
      · refine ak_iconst_1 dX10_settlingNow_32 ?_
        refine aw_iload_2 dX10_settlingNow_33 ?_
        refine aw_ishl dX10_settlingNow_34 ?_
        refine aw_topi (sh_one (by omega)) ?_
        refine aw_iaddN dX10_settlingNow_35 ?_
        refine aw_istore_1 dX10_settlingNow_36 rfl (Nat.le_of_ble_eq_true rfl) ?_
        refine aw_iincN_2 dX10_settlingNow_37 rfl (Nat.le_of_ble_eq_true rfl) ?_
        refine aw_goto 4 dX10_settlingNow_40 (by decide) ?_
        have h := ih (i + 1) (by omega)
        rw [show of_B (dd_Z nn ow) (i + 1) = of_B (dd_Z nn ow) i + 2 ^ i by
          show of_B (dd_Z nn ow) i + (if dd_Z nn ow i = 0 then 0 else 2 ^ i) = _
          rw [if_neg (fun z => q (hz.mp z))]] at h
        exact h
      · refine akN_iconst_0 dX10_settlingNow_28 ?_
        refine aw_goto 35 dX10_settlingNow_29 (by decide) ?_
        refine aw_iaddN dX10_settlingNow_35 ?_
        refine aw_istore_1 dX10_settlingNow_36 rfl (Nat.le_of_ble_eq_true rfl) ?_
        refine aw_iincN_2 dX10_settlingNow_37 rfl (Nat.le_of_ble_eq_true rfl) ?_
        refine aw_goto 4 dX10_settlingNow_40 (by decide) ?_
        have h := ih (i + 1) (by omega)
        rw [show of_B (dd_Z nn ow) (i + 1) = of_B (dd_Z nn ow) i + 0 by
          show of_B (dd_Z nn ow) i + (if dd_Z nn ow i = 0 then 0 else 2 ^ i) = _
          rw [if_pos (hz.mpr q)]] at h
        exact h
  exact offs nn 0 (by omega)
theorem m_settling (rd : Int32) (pl : Nat) (pc : Nat → Nat) (ra up f0 su nn : Nat) (wk : Int32) (ki we ow fr of : Nat → Nat) (oc : Nat) (oa ob os : Nat → Nat) (K : mk_T) (sm gr rw : Nat → Int32) (sd h : Int64) (hn : nn ≤ 5) (how : ∀ p q, p < nn → q < nn → ow (5 * p + q) ≤ 9999) : AM 8 yX10_settling cX10_settling 1 (some .int) [.ref 0] (mw_M (rd, (pl, pc), (ra, up, f0, su, nn, wk), ki, (we, ow, fr, of), (oc, oa, ob, os)) K (sm, gr, rw, sd, h)) (fun r w' => r = some (.int (sg_I nn ow)) ∧ ∃ sm gr : Nat → Int32, w' = (mw_M (rd, (pl, pc), (ra, up, f0, su, nn, wk), ki, (we, ow, fr, of), (oc, oa, ob, os)) K (sm, gr, rw, sd, h))) := by
  refine AM.of (loc := [.ref 0]) RX10 rfl (by decide +kernel) (Nat.le_of_ble_eq_true rfl) rfl ?_
  refine aw_aload_0 dX10_settling_0 ?_
  refine ca_X10_164 dX10_settling_1 rfl (k_X10_settlingNow rd pl pc ra up f0 su nn wk ki we ow fr of oc oa ob os K sm gr rw sd h hn how) (fun r w1 hc => ?_)
  obtain ⟨rfl, a1, a2, rfl⟩ := hc
  exact aw_iret dX10_settling_4 rfl (⟨rfl, a1, a2, rfl⟩)
