/-! ===== settling ===== -/
def tz_N (g : Nat) : Nat := if g % 2 = 1 then 0 else if g / 2 % 2 = 1 then 1 else if g / 4 % 2 = 1 then 2 else if g / 8 % 2 = 1 then 3 else 4
theorem tz_lt (g : Nat) : tz_N g < 5 := by unfold tz_N; split; omega; split; omega; split; omega; split; omega; omega
theorem tz_1 : ∀ g : Nat, g < 32 → 0 < g → (nI g ^^^ (-1)) &&& (nI g - 1) = nI (2 ^ tz_N g - 1) := by decide +kernel
theorem tz_2 : ∀ g : Nat, g < 32 → 0 < g → g &&& (g - 1) = g - 2 ^ tz_N g ∧ g - 2 ^ tz_N g < g ∧ bt_P g (tz_N g) := by decide +kernel
theorem tz_3 : ∀ g : Nat, g < 32 → 0 < g → ∀ p : Nat, p < 5 → (bt_P (g - 2 ^ tz_N g) p ↔ bt_P g p ∧ p ≠ tz_N g) := by decide +kernel
theorem xo_1 : ∀ g : Nat, g < 32 → ∀ p : Nat, p < 5 → bt_P g p → g ^^^ 2 ^ p = g - 2 ^ p ∧ g - 2 ^ p < g := by decide +kernel
theorem ush_1 : ∀ v : Nat, v < 16 → ((nI v).toUInt32 >>> ((1 : Int32).toUInt32 &&& Int32.toUInt32 31)).toInt32 = nI (v / 2) := by decide +kernel
theorem ush_2 : ∀ v : Nat, v < 16 → ((nI v).toUInt32 >>> ((2 : Int32).toUInt32 &&& Int32.toUInt32 31)).toInt32 = nI (v / 4) := by decide +kernel
theorem k_J6_tz (w : List ac_T) (g : Nat) (h0 : 0 < g) (hg : g < 32) : AM 1 yJ6_numberOfTrailingZeros_0f7a4 cJ6_numberOfTrailingZeros_0f7a4 2 (some .int) [.int (nI g)] w (ac_R (some (.int (nI (tz_N g)))) w) := by
  refine AM.of (loc := [.int (nI g), .null]) RJ6 rfl (by decide +kernel) (Nat.le_of_ble_eq_true rfl) rfl ?_
  refine aw_iload_0 dJ6_numberOfTrailingZeros_0f7a4_0 ?_
  refine ak_iconst_m1 dJ6_numberOfTrailingZeros_0f7a4_1 ?_
  refine aw_ixor dJ6_numberOfTrailingZeros_0f7a4_2 ?_
  refine aw_iload_0 dJ6_numberOfTrailingZeros_0f7a4_3 ?_
  refine ak_iconst_1 dJ6_numberOfTrailingZeros_0f7a4_4 ?_
  refine aw_isub dJ6_numberOfTrailingZeros_0f7a4_5 ?_
  refine aw_iand dJ6_numberOfTrailingZeros_0f7a4_6 ?_
  refine aw_topi (tz_1 g hg h0) ?_
  have ht := tz_lt g
  generalize tz_N g = t at ht ⊢
  match t, ht with
  | 0, _ =>
    refine aw_istore_0 dJ6_numberOfTrailingZeros_0f7a4_7 (Nat.le_of_ble_eq_true rfl) ?_
    refine aw_iload_0 dJ6_numberOfTrailingZeros_0f7a4_8 ?_
    refine aw_topi (show nI (2 ^ 0 - 1) = nI 0 from rfl) ?_
    refine aw_if_gtN 17 dJ6_numberOfTrailingZeros_0f7a4_9 (by decide) (by omega) (fun hh => absurd hh (by omega)) (fun _ => ?_)
    refine aw_iload_0 dJ6_numberOfTrailingZeros_0f7a4_12 ?_
    refine ak_bipush_32 dJ6_numberOfTrailingZeros_0f7a4_13 ?_
    refine aw_iand dJ6_numberOfTrailingZeros_0f7a4_15 ?_
    exact aw_iret dJ6_numberOfTrailingZeros_0f7a4_16 rfl (⟨rfl, rfl⟩)
  | 1, _ =>
    refine aw_topi (show nI (2 ^ 1 - 1) = nI 1 from rfl) ?_
    refine aw_istore_0 dJ6_numberOfTrailingZeros_0f7a4_7 (Nat.le_of_ble_eq_true rfl) ?_
    refine aw_iload_0 dJ6_numberOfTrailingZeros_0f7a4_8 ?_
    refine aw_if_gtN 17 dJ6_numberOfTrailingZeros_0f7a4_9 (by decide) (by omega) (fun _ => ?_) (fun hh => absurd hh (by omega))
    refine akN_iconst_1 dJ6_numberOfTrailingZeros_0f7a4_17 ?_
    refine aw_istore_1 dJ6_numberOfTrailingZeros_0f7a4_18 rfl (Nat.le_of_ble_eq_true rfl) ?_
    refine aw_iload_0 dJ6_numberOfTrailingZeros_0f7a4_19 ?_
    refine aw_ldcw gq_501 dJ6_numberOfTrailingZeros_0f7a4_20 ?_
    refine aw_topi (show (65536 : Int32) = nI 65536 from rfl) ?_
    refine aw_icmp_leN 34 dJ6_numberOfTrailingZeros_0f7a4_23 (by decide) (by omega) (by omega) (fun _ => ?_) (fun hh => absurd hh (by omega))
    refine aw_iload_0 dJ6_numberOfTrailingZeros_0f7a4_34 ?_
    refine akN_sipush_256 dJ6_numberOfTrailingZeros_0f7a4_35 ?_
    refine aw_icmp_leN 49 dJ6_numberOfTrailingZeros_0f7a4_38 (by decide) (by omega) (by omega) (fun _ => ?_) (fun hh => absurd hh (by omega))
    refine aw_iload_0 dJ6_numberOfTrailingZeros_0f7a4_49 ?_
    refine akN_bipush_16 dJ6_numberOfTrailingZeros_0f7a4_50 ?_
    refine aw_icmp_leN 62 dJ6_numberOfTrailingZeros_0f7a4_52 (by decide) (by omega) (by omega) (fun _ => ?_) (fun hh => absurd hh (by omega))
    refine aw_iload_0 dJ6_numberOfTrailingZeros_0f7a4_62 ?_
    refine akN_iconst_4 dJ6_numberOfTrailingZeros_0f7a4_63 ?_
    refine aw_icmp_leN 74 dJ6_numberOfTrailingZeros_0f7a4_64 (by decide) (by omega) (by omega) (fun _ => ?_) (fun hh => absurd hh (by omega))
    refine aw_iload_1 dJ6_numberOfTrailingZeros_0f7a4_74 ?_
    refine aw_iload_0 dJ6_numberOfTrailingZeros_0f7a4_75 ?_
    refine akN_iconst_1 dJ6_numberOfTrailingZeros_0f7a4_76 ?_
    refine aw_iushr dJ6_numberOfTrailingZeros_0f7a4_77 ?_
    refine aw_topi (ush_1 1 (by decide)) ?_
    refine aw_iaddN dJ6_numberOfTrailingZeros_0f7a4_78 ?_
    exact aw_iret dJ6_numberOfTrailingZeros_0f7a4_79 rfl (⟨rfl, rfl⟩)
  | 2, _ =>
    refine aw_topi (show nI (2 ^ 2 - 1) = nI 3 from rfl) ?_
    refine aw_istore_0 dJ6_numberOfTrailingZeros_0f7a4_7 (Nat.le_of_ble_eq_true rfl) ?_
    refine aw_iload_0 dJ6_numberOfTrailingZeros_0f7a4_8 ?_
    refine aw_if_gtN 17 dJ6_numberOfTrailingZeros_0f7a4_9 (by decide) (by omega) (fun _ => ?_) (fun hh => absurd hh (by omega))
    refine akN_iconst_1 dJ6_numberOfTrailingZeros_0f7a4_17 ?_
    refine aw_istore_1 dJ6_numberOfTrailingZeros_0f7a4_18 rfl (Nat.le_of_ble_eq_true rfl) ?_
    refine aw_iload_0 dJ6_numberOfTrailingZeros_0f7a4_19 ?_
    refine aw_ldcw gq_501 dJ6_numberOfTrailingZeros_0f7a4_20 ?_
    refine aw_topi (show (65536 : Int32) = nI 65536 from rfl) ?_
    refine aw_icmp_leN 34 dJ6_numberOfTrailingZeros_0f7a4_23 (by decide) (by omega) (by omega) (fun _ => ?_) (fun hh => absurd hh (by omega))
    refine aw_iload_0 dJ6_numberOfTrailingZeros_0f7a4_34 ?_
    refine akN_sipush_256 dJ6_numberOfTrailingZeros_0f7a4_35 ?_
    refine aw_icmp_leN 49 dJ6_numberOfTrailingZeros_0f7a4_38 (by decide) (by omega) (by omega) (fun _ => ?_) (fun hh => absurd hh (by omega))
    refine aw_iload_0 dJ6_numberOfTrailingZeros_0f7a4_49 ?_
    refine akN_bipush_16 dJ6_numberOfTrailingZeros_0f7a4_50 ?_
    refine aw_icmp_leN 62 dJ6_numberOfTrailingZeros_0f7a4_52 (by decide) (by omega) (by omega) (fun _ => ?_) (fun hh => absurd hh (by omega))
    refine aw_iload_0 dJ6_numberOfTrailingZeros_0f7a4_62 ?_
    refine akN_iconst_4 dJ6_numberOfTrailingZeros_0f7a4_63 ?_
    refine aw_icmp_leN 74 dJ6_numberOfTrailingZeros_0f7a4_64 (by decide) (by omega) (by omega) (fun _ => ?_) (fun hh => absurd hh (by omega))
    refine aw_iload_1 dJ6_numberOfTrailingZeros_0f7a4_74 ?_
    refine aw_iload_0 dJ6_numberOfTrailingZeros_0f7a4_75 ?_
    refine akN_iconst_1 dJ6_numberOfTrailingZeros_0f7a4_76 ?_
    refine aw_iushr dJ6_numberOfTrailingZeros_0f7a4_77 ?_
    refine aw_topi (ush_1 3 (by decide)) ?_
    refine aw_iaddN dJ6_numberOfTrailingZeros_0f7a4_78 ?_
    exact aw_iret dJ6_numberOfTrailingZeros_0f7a4_79 rfl (⟨rfl, rfl⟩)
  | 3, _ =>
    refine aw_topi (show nI (2 ^ 3 - 1) = nI 7 from rfl) ?_
    refine aw_istore_0 dJ6_numberOfTrailingZeros_0f7a4_7 (Nat.le_of_ble_eq_true rfl) ?_
    refine aw_iload_0 dJ6_numberOfTrailingZeros_0f7a4_8 ?_
    refine aw_if_gtN 17 dJ6_numberOfTrailingZeros_0f7a4_9 (by decide) (by omega) (fun _ => ?_) (fun hh => absurd hh (by omega))
    refine akN_iconst_1 dJ6_numberOfTrailingZeros_0f7a4_17 ?_
    refine aw_istore_1 dJ6_numberOfTrailingZeros_0f7a4_18 rfl (Nat.le_of_ble_eq_true rfl) ?_
    refine aw_iload_0 dJ6_numberOfTrailingZeros_0f7a4_19 ?_
    refine aw_ldcw gq_501 dJ6_numberOfTrailingZeros_0f7a4_20 ?_
    refine aw_topi (show (65536 : Int32) = nI 65536 from rfl) ?_
    refine aw_icmp_leN 34 dJ6_numberOfTrailingZeros_0f7a4_23 (by decide) (by omega) (by omega) (fun _ => ?_) (fun hh => absurd hh (by omega))
    refine aw_iload_0 dJ6_numberOfTrailingZeros_0f7a4_34 ?_
    refine akN_sipush_256 dJ6_numberOfTrailingZeros_0f7a4_35 ?_
    refine aw_icmp_leN 49 dJ6_numberOfTrailingZeros_0f7a4_38 (by decide) (by omega) (by omega) (fun _ => ?_) (fun hh => absurd hh (by omega))
    refine aw_iload_0 dJ6_numberOfTrailingZeros_0f7a4_49 ?_
    refine akN_bipush_16 dJ6_numberOfTrailingZeros_0f7a4_50 ?_
    refine aw_icmp_leN 62 dJ6_numberOfTrailingZeros_0f7a4_52 (by decide) (by omega) (by omega) (fun _ => ?_) (fun hh => absurd hh (by omega))
    refine aw_iload_0 dJ6_numberOfTrailingZeros_0f7a4_62 ?_
    refine akN_iconst_4 dJ6_numberOfTrailingZeros_0f7a4_63 ?_
    refine aw_icmp_leN 74 dJ6_numberOfTrailingZeros_0f7a4_64 (by decide) (by omega) (by omega) (fun hh => absurd hh (by omega)) (fun _ => ?_)
    refine ak_iinc_1_2 dJ6_numberOfTrailingZeros_0f7a4_67 rfl (Nat.le_of_ble_eq_true rfl) ?_
    refine aw_iload_0 dJ6_numberOfTrailingZeros_0f7a4_70 ?_
    refine akN_iconst_2 dJ6_numberOfTrailingZeros_0f7a4_71 ?_
    refine aw_iushr dJ6_numberOfTrailingZeros_0f7a4_72 ?_
    refine aw_topi (ush_2 7 (by decide)) ?_
    refine aw_istore_0 dJ6_numberOfTrailingZeros_0f7a4_73 (Nat.le_of_ble_eq_true rfl) ?_
    refine aw_iload_1 dJ6_numberOfTrailingZeros_0f7a4_74 ?_
    refine aw_iload_0 dJ6_numberOfTrailingZeros_0f7a4_75 ?_
    refine ak_iconst_1 dJ6_numberOfTrailingZeros_0f7a4_76 ?_
    refine aw_iushr dJ6_numberOfTrailingZeros_0f7a4_77 ?_
    refine aw_topi (ush_1 1 (by decide)) ?_
    refine aw_iadd dJ6_numberOfTrailingZeros_0f7a4_78 ?_
    exact aw_iret dJ6_numberOfTrailingZeros_0f7a4_79 rfl (⟨rfl, rfl⟩)
  | 4, _ =>
    refine aw_topi (show nI (2 ^ 4 - 1) = nI 15 from rfl) ?_
    refine aw_istore_0 dJ6_numberOfTrailingZeros_0f7a4_7 (Nat.le_of_ble_eq_true rfl) ?_
    refine aw_iload_0 dJ6_numberOfTrailingZeros_0f7a4_8 ?_
    refine aw_if_gtN 17 dJ6_numberOfTrailingZeros_0f7a4_9 (by decide) (by omega) (fun _ => ?_) (fun hh => absurd hh (by omega))
    refine akN_iconst_1 dJ6_numberOfTrailingZeros_0f7a4_17 ?_
    refine aw_istore_1 dJ6_numberOfTrailingZeros_0f7a4_18 rfl (Nat.le_of_ble_eq_true rfl) ?_
    refine aw_iload_0 dJ6_numberOfTrailingZeros_0f7a4_19 ?_
    refine aw_ldcw gq_501 dJ6_numberOfTrailingZeros_0f7a4_20 ?_
    refine aw_topi (show (65536 : Int32) = nI 65536 from rfl) ?_
    refine aw_icmp_leN 34 dJ6_numberOfTrailingZeros_0f7a4_23 (by decide) (by omega) (by omega) (fun _ => ?_) (fun hh => absurd hh (by omega))
    refine aw_iload_0 dJ6_numberOfTrailingZeros_0f7a4_34 ?_
    refine akN_sipush_256 dJ6_numberOfTrailingZeros_0f7a4_35 ?_
    refine aw_icmp_leN 49 dJ6_numberOfTrailingZeros_0f7a4_38 (by decide) (by omega) (by omega) (fun _ => ?_) (fun hh => absurd hh (by omega))
    refine aw_iload_0 dJ6_numberOfTrailingZeros_0f7a4_49 ?_
    refine akN_bipush_16 dJ6_numberOfTrailingZeros_0f7a4_50 ?_
    refine aw_icmp_leN 62 dJ6_numberOfTrailingZeros_0f7a4_52 (by decide) (by omega) (by omega) (fun _ => ?_) (fun hh => absurd hh (by omega))
    refine aw_iload_0 dJ6_numberOfTrailingZeros_0f7a4_62 ?_
    refine akN_iconst_4 dJ6_numberOfTrailingZeros_0f7a4_63 ?_
    refine aw_icmp_leN 74 dJ6_numberOfTrailingZeros_0f7a4_64 (by decide) (by omega) (by omega) (fun hh => absurd hh (by omega)) (fun _ => ?_)
    refine ak_iinc_1_2 dJ6_numberOfTrailingZeros_0f7a4_67 rfl (Nat.le_of_ble_eq_true rfl) ?_
    refine aw_iload_0 dJ6_numberOfTrailingZeros_0f7a4_70 ?_
    refine akN_iconst_2 dJ6_numberOfTrailingZeros_0f7a4_71 ?_
    refine aw_iushr dJ6_numberOfTrailingZeros_0f7a4_72 ?_
    refine aw_topi (ush_2 15 (by decide)) ?_
    refine aw_istore_0 dJ6_numberOfTrailingZeros_0f7a4_73 (Nat.le_of_ble_eq_true rfl) ?_
    refine aw_iload_1 dJ6_numberOfTrailingZeros_0f7a4_74 ?_
    refine aw_iload_0 dJ6_numberOfTrailingZeros_0f7a4_75 ?_
    refine ak_iconst_1 dJ6_numberOfTrailingZeros_0f7a4_76 ?_
    refine aw_iushr dJ6_numberOfTrailingZeros_0f7a4_77 ?_
    refine aw_topi (ush_1 3 (by decide)) ?_
    refine aw_iadd dJ6_numberOfTrailingZeros_0f7a4_78 ?_
    exact aw_iret dJ6_numberOfTrailingZeros_0f7a4_79 rfl (⟨rfl, rfl⟩)
/-- the most of a set's groups that is without one of it -/
def mx_N (tab : Nat → Nat) (g : Nat) : Nat → Nat
  | 0 => 0
  | j + 1 => if bt_P g j then max (mx_N tab g j) (tab (g - 2 ^ j)) else mx_N tab g j
theorem mx_le {tab : Nat → Nat} {c : Nat} (h : ∀ k, tab k ≤ c) (g : Nat) : ∀ j, mx_N tab g j ≤ c
  | 0 => Nat.zero_le _
  | j + 1 => by
    have ih := mx_le h g j
    have := h (g - 2 ^ j)
    unfold mx_N
    split <;> omega
/-- a set's sum -/
def ss_Z (dd : Nat → Int) (nn g : Nat) : Int := fb_si (fun p => if bt_P g p then dd p else 0) nn
/-- the table of even groups, up to a set -/
def et_N (dd : Nat → Int) (nn : Nat) : Nat → Nat → Nat
  | 0 => fun _ => 0
  | 1 => fun _ => 0
  | g + 2 => va_up (et_N dd nn (g + 1)) (g + 1) (mx_N (et_N dd nn (g + 1)) (g + 1) nn + (if ss_Z dd nn (g + 1) = 0 then 1 else 0))
theorem et_le (dd : Nat → Int) (nn : Nat) : ∀ g k, et_N dd nn g k ≤ g
  | 0, k => Nat.zero_le _
  | 1, k => Nat.zero_le _
  | g + 2, k => by
    have ih := et_le dd nn (g + 1)
    have h1 := mx_le ih (g + 1) nn
    unfold et_N va_up
    split
    · split <;> omega
    · have := ih k
      omega
theorem et_zero (dd : Nat → Int) (nn : Nat) : ∀ g, et_N dd nn g 0 = 0
  | 0 => rfl
  | 1 => rfl
  | g + 2 => by
    unfold et_N va_up
    rw [if_neg (by omega)]
    exact et_zero dd nn (g + 1)
theorem ss_zero (dd : Nat → Int) (nn : Nat) : ss_Z dd nn 0 = 0 := by
  unfold ss_Z
  rw [fb_si_cong (g := fun k => (0 : Int) * dd k) (fun k _ => by
    rw [if_neg (show ¬ 0 / 2 ^ k % 2 = 1 by rw [Nat.zero_div]; decide), Int.zero_mul]), fb_si_mul, Int.zero_mul]
theorem k_X7_mostWithoutOne (gg : Nat × Int32) (P : pg_T) (t0 t1 t2 : tw_T) (o0 o1 : of_T) (xr : (Nat → Int32) × (Nat → Int32) × Int32 × Int32) (sm ev : Nat → Int32) (xa : Int32 × Int32) (sd : Int32) (rk : Nat → Int32) (tab : Nat → Nat) (g nn : Nat) (hn : nn ≤ 5) (hg : g < 32) (htab : ∀ k, tab k ≤ 1000) (hev : ∀ k, k < g → ev k = nI (tab k)) : AM 2 yX7_mostWithoutOne cX7_mostWithoutOne 5 (some .int) [.ref 35, .int (nI g), .int (nI nn)] (cw_C gg P t0 t1 t2 o0 o1 (xr, (sm, ev), xa, sd, rk)) (ac_R (some (.int (nI (mx_N tab g nn)))) (cw_C gg P t0 t1 t2 o0 o1 (xr, (sm, ev), xa, sd, rk))) := by
  refine AM.of (loc := [.ref 35, .int (nI g), .int (nI nn), .null, .null]) RX7 rfl (by decide +kernel) (Nat.le_of_ble_eq_true rfl) rfl ?_
  refine akN_iconst_0 dX7_mostWithoutOne_0 ?_
  refine aw_istore_3 dX7_mostWithoutOne_1 rfl (Nat.le_of_ble_eq_true rfl) ?_
  refine akN_iconst_0 dX7_mostWithoutOne_2 ?_
  refine aw_istore_4 dX7_mostWithoutOne_3 rfl (Nat.le_of_ble_eq_true rfl) ?_
  have loop : ∀ k i, i + k = nn → AW 2 RX7 cX7_mostWithoutOne 5 (some .int) 41 (ac_R (some (.int (nI (mx_N tab g nn)))) (cw_C gg P t0 t1 t2 o0 o1 (xr, (sm, ev), xa, sd, rk))) 5 [.ref 35, .int (nI g), .int (nI nn), .int (nI (mx_N tab g i)), .int (nI i)] [] (cw_C gg P t0 t1 t2 o0 o1 (xr, (sm, ev), xa, sd, rk)) := by
    intro k
    induction k with
    | zero =>
      intro i hi
      obtain rfl : i = nn := by omega
      refine aw_iload_4 dX7_mostWithoutOne_5 ?_
      refine aw_iload_2 dX7_mostWithoutOne_7 ?_
      refine aw_icmp_geN 42 dX7_mostWithoutOne_8 (by decide) (by omega) (by omega) (fun _ => ?_) (fun hh => absurd hh (by omega))
      refine aw_iload_3 dX7_mostWithoutOne_42 ?_
      exact aw_iret dX7_mostWithoutOne_43 rfl (⟨rfl, rfl⟩)
    | succ k ih =>
      intro i hi
      refine aw_iload_4 dX7_mostWithoutOne_5 ?_
      refine aw_iload_2 dX7_mostWithoutOne_7 ?_
      refine aw_icmp_geN 42 dX7_mostWithoutOne_8 (by decide) (by omega) (by omega) (fun hh => absurd hh (by omega)) (fun _ => ?_)
      refine aw_iload_4 dX7_mostWithoutOne_11 ?_
      refine aw_iload_1 dX7_mostWithoutOne_13 ?_
      refine ce_X7_44 dX7_mostWithoutOne_14 (k_X9_isAmong _ i g (by omega) (by omega)) ?_
      by_cases q : bt_P g i
      · obtain ⟨e1, e2⟩ := xo_1 g hg i (by omega) q
        have h1 := mx_le htab g i
        have h2 := htab (g - 2 ^ i)
        refine aw_if_eq 36 dX7_mostWithoutOne_17 (by decide) (fun hh => absurd hh (bI_n q)) (fun _ => ?_)
        refine aw_iload_3 dX7_mostWithoutOne_20 ?_
        refine aw_aload_0 dX7_mostWithoutOne_21 ?_
        refine gf_X7_15 dX7_mostWithoutOne_22 rfl rfl ?_
        refine aw_iload_1 dX7_mostWithoutOne_25 ?_
        refine ak_iconst_1 dX7_mostWithoutOne_26 ?_
        refine aw_iload_4 dX7_mostWithoutOne_27 ?_
        refine aw_ishl dX7_mostWithoutOne_29 ?_
        refine aw_topi (sh_one (by omega)) ?_
        refine aw_ixor dX7_mostWithoutOne_30 ?_
        refine aw_topi (show nI g ^^^ nI (2 ^ i) = nI (g - 2 ^ i) by rw [fb_xorI, e1]) ?_
        refine aw_ialdI dX7_mostWithoutOne_31 rfl (by omega) ?_
        refine aw_topi (hev _ e2) ?_
        refine aw_maxN gq_511 dX7_mostWithoutOne_32 (Nat.le_of_ble_eq_true rfl) (by decide) (by omega) (by omega) ?_
        refine aw_istore_3 dX7_mostWithoutOne_35 rfl (Nat.le_of_ble_eq_true rfl) ?_
        refine aw_iincN_4 dX7_mostWithoutOne_36 rfl (Nat.le_of_ble_eq_true rfl) ?_
        refine aw_goto 5 dX7_mostWithoutOne_39 (by decide) ?_
        have e : mx_N tab g (i + 1) = max (mx_N tab g i) (tab (g - 2 ^ i)) := if_pos q
        rw [← e]
        exact ih (i + 1) (by omega)
      · refine aw_if_eq 36 dX7_mostWithoutOne_17 (by decide) (fun _ => ?_) (fun hh => absurd (bI_f q) hh)
        refine aw_iincN_4 dX7_mostWithoutOne_36 rfl (Nat.le_of_ble_eq_true rfl) ?_
        refine aw_goto 5 dX7_mostWithoutOne_39 (by decide) ?_
        have e : mx_N tab g (i + 1) = mx_N tab g i := if_neg q
        rw [← e]
        exact ih (i + 1) (by omega)
  exact loop nn 0 (by omega)
theorem ii_add {z : Int} {a b : Nat} (h1 : -1000000 ≤ z) (h2 : z ≤ 1000000) (ha : a ≤ 100000) (hb : b ≤ 100000) : Int32.ofInt z + nI a - nI b = Int32.ofInt (z + ((a : Int) - b)) := by
  have ea : (nI a).toInt = (a : Int) := nI_toInt (show a < 2 ^ 31 by omega)
  have eb : (nI b).toInt = (b : Int) := nI_toInt (show b < 2 ^ 31 by omega)
  have ez : (Int32.ofInt z).toInt = z := fb_ofI (by omega) (by omega)
  have e1 : (Int32.ofInt z + nI a).toInt = z + a := by rw [fb_addI (by rw [ez, ea]; omega) (by rw [ez, ea]; omega), ez, ea]
  rw [fa_eq, fb_subI (by rw [e1, eb]; omega) (by rw [e1, eb]; omega), e1, eb, fb_ofI (by omega) (by omega)]
  omega
theorem ii_0 {z : Int} (h1 : -1000000 ≤ z) (h2 : z ≤ 1000000) : Int32.ofInt z = 0 ↔ z = 0 := by
  rw [fa_eq, fb_ofI (by omega) (by omega)]
  rfl
theorem si_split {dd : Nat → Int} {nn g : Nat} (hn : nn ≤ 5) (hg : g < 32) (h0 : 0 < g) (ht : tz_N g < nn) : ss_Z dd nn (g - 2 ^ tz_N g) + dd (tz_N g) = ss_Z dd nn g := by
  unfold ss_Z
  have e : fb_si (fun p => if bt_P (g - 2 ^ tz_N g) p then dd p else 0) nn = fb_si (fun k => if k = tz_N g then 0 else (fun p => if bt_P g p then dd p else 0) k) nn := by
    refine fb_si_cong (fun k hk => ?_)
    have h := tz_3 g hg h0 k (by omega)
    by_cases q : k = tz_N g
    · rw [if_pos q, if_neg (fun z => (h.mp z).2 q)]
    · rw [if_neg q]
      by_cases r : bt_P g k
      · rw [if_pos (h.mpr ⟨r, q⟩)]; exact (if_pos r).symm
      · rw [if_neg (fun z => r (h.mp z).1)]; exact (if_neg r).symm
  rw [e, fb_si_upd _ _ ht]
  have : (if bt_P g (tz_N g) then dd (tz_N g) else 0) = dd (tz_N g) := if_pos (tz_2 g hg h0).2.2
  omega
theorem tz_nn : ∀ nn : Nat, nn ≤ 5 → ∀ g : Nat, g < 2 ^ nn → 0 < g → tz_N g < nn := by decide +kernel
theorem ss_bd {dd : Nat → Int} (h : ∀ p, -100000 ≤ dd p ∧ dd p ≤ 100000) (nn g : Nat) (hn : nn ≤ 5) : -500000 ≤ ss_Z dd nn g ∧ ss_Z dd nn g ≤ 500000 := by
  have h1 := fb_si_bound (f := fun p => if bt_P g p then dd p else 0) (c := 100000) (by decide) (n := nn) (fun k _ => by
    split
    · exact h k
    · exact ⟨by decide, by decide⟩)
  unfold ss_Z
  have h2 : (nn : Int) ≤ 5 := by omega
  constructor <;> omega
/-- how much more each owes than all owe him -/
def dd_Z (nn : Nat) (ow : Nat → Nat) (p : Nat) : Int := (fb_sm (fun q => ow (5 * p + q)) nn : Int) - (fb_sm (fun q => ow (5 * q + p)) nn : Int)
theorem dd_bd {nn : Nat} {ow : Nat → Nat} (hn : nn ≤ 5) (h : ∀ k, ow k ≤ 9999) (p : Nat) : -100000 ≤ dd_Z nn ow p ∧ dd_Z nn ow p ≤ 100000 := by
  have h1 := sm_le (f := fun q => ow (5 * p + q)) (fun k => h _) nn
  have h2 := sm_le (f := fun q => ow (5 * q + p)) (fun k => h _) nn
  have h3 : nn * 9999 ≤ 5 * 9999 := Nat.mul_le_mul_right _ hn
  unfold dd_Z
  constructor <;> omega
/-- SETTLING, as the class finds it -/
def st_I (nn : Nat) (ow : Nat → Nat) : Int32 := nI nn - nI (et_N (dd_Z nn ow) nn (2 ^ nn) (2 ^ nn - 1))
theorem k_X7_fewestPayments (gg : Nat × Int32) (P : pg_T) (ta tb : tw_T) (o0 o1 : of_T) (xr : (Nat → Int32) × (Nat → Int32) × Int32 × Int32) (sm ev : Nat → Int32) (xa : Int32 × Int32) (sd : Int32) (rk : Nat → Int32) (ra up f0 su nn : Nat) (wk : Int32) (ki we ow fr of : Nat → Nat) (hn : nn ≤ 5) (how : ∀ k, ow k ≤ 9999) (hs0 : sm 0 = 0) (he0 : ev 0 = 0) : AM 3 yX7_fewestPayments cX7_fewestPayments 5 (some .int) [.ref 35, .ref 3] (cw_C gg P (ra, up, f0, su, nn, wk, ki, we, ow, fr, of) ta tb o0 o1 (xr, (sm, ev), xa, sd, rk)) (fun r w' => r = some (.int (st_I nn ow)) ∧ ∃ sm2 ev2 : Nat → Int32, sm2 0 = 0 ∧ ev2 0 = 0 ∧ w' = cw_C gg P (ra, up, f0, su, nn, wk, ki, we, ow, fr, of) ta tb o0 o1 (xr, (sm2, ev2), xa, sd, rk)) := by
  have hpow : 2 ^ nn ≤ 2 ^ 5 := Nat.pow_le_pow_right (by decide) hn
  have hpos : 0 < 2 ^ nn := Nat.two_pow_pos nn
  refine AM.of (loc := [.ref 35, .ref 3, .null, .null, .null]) RX7 rfl (by decide +kernel) (Nat.le_of_ble_eq_true rfl) rfl ?_
  refine ak_iconst_1 dX7_fewestPayments_0 ?_
  refine aw_aload_1 dX7_fewestPayments_1 ?_
  refine gf_X7_18 dX7_fewestPayments_2 rfl rfl ?_
  refine aw_ishl dX7_fewestPayments_5 ?_
  refine aw_topi (sh_one (by omega)) ?_
  refine aw_istore_2 dX7_fewestPayments_6 rfl (Nat.le_of_ble_eq_true rfl) ?_
  refine akN_iconst_1 dX7_fewestPayments_7 ?_
  refine aw_istore_3 dX7_fewestPayments_8 rfl (Nat.le_of_ble_eq_true rfl) ?_
  have loop : ∀ k g, g + k = 2 ^ nn → 0 < g → ∀ (sm ev : Nat → Int32) (jk : Value), (∀ h, h < g → sm h = Int32.ofInt (ss_Z (dd_Z nn ow) nn h)) → (∀ h, h < g → ev h = nI (et_N (dd_Z nn ow) nn g h)) → AW 3 RX7 cX7_fewestPayments 5 (some .int) 41 (fun r w' => r = some (.int (st_I nn ow)) ∧ ∃ sm2 ev2 : Nat → Int32, sm2 0 = 0 ∧ ev2 0 = 0 ∧ w' = cw_C gg P (ra, up, f0, su, nn, wk, ki, we, ow, fr, of) ta tb o0 o1 (xr, (sm2, ev2), xa, sd, rk)) 9 [.ref 35, .ref 3, .int (nI (2 ^ nn)), .int (nI g), jk] [] (cw_C gg P (ra, up, f0, su, nn, wk, ki, we, ow, fr, of) ta tb o0 o1 (xr, (sm, ev), xa, sd, rk)) := by
    intro k
    induction k with
    | zero =>
      intro g hg h0 sm ev jk hsm hev
      obtain rfl : g = 2 ^ nn := by omega
      refine aw_iload_3 dX7_fewestPayments_9 ?_
      refine aw_iload_2 dX7_fewestPayments_10 ?_
      refine aw_icmp_geN 89 dX7_fewestPayments_11 (by decide) (by omega) (by omega) (fun _ => ?_) (fun hh => absurd hh (by omega))
      refine aw_aload_1 dX7_fewestPayments_89 ?_
      refine gf_X7_18 dX7_fewestPayments_90 rfl rfl ?_
      refine aw_aload_0 dX7_fewestPayments_93 ?_
      refine gf_X7_15 dX7_fewestPayments_94 rfl rfl ?_
      refine aw_iload_2 dX7_fewestPayments_97 ?_
      refine akN_iconst_1 dX7_fewestPayments_98 ?_
      refine aw_isubN dX7_fewestPayments_99 hpos ?_
      refine aw_ialdI dX7_fewestPayments_100 rfl (by omega) ?_
      refine aw_topi (hev (2 ^ nn - 1) (by omega)) ?_
      refine aw_isub dX7_fewestPayments_101 ?_
      exact aw_iret dX7_fewestPayments_102 rfl (⟨rfl, sm, ev, (hsm 0 hpos).trans (by rw [ss_zero]; rfl), (hev 0 hpos).trans (by rw [show et_N (dd_Z nn ow) nn (2 ^ nn) 0 = 0 from et_zero _ _ _]; rfl), rfl⟩)
    | succ k ih =>
      intro g hg h0 sm ev jk hsm hev
      obtain ⟨a1, a2, a3⟩ := tz_2 g (by omega) h0
      have a4 : tz_N g < nn := tz_nn nn hn g (by omega) h0
      have hb := ss_bd (dd_bd hn how) nn (g - 2 ^ tz_N g) hn
      have hbg := ss_bd (dd_bd hn how) nn g hn
      have s1 := sm_le (f := fun q => ow (5 * tz_N g + q)) (fun k => how _) nn
      have s2 := sm_le (f := fun q => ow (5 * q + tz_N g)) (fun k => how _) nn
      have h3 : nn * 9999 ≤ 5 * 9999 := Nat.mul_le_mul_right _ hn
      refine aw_iload_3 dX7_fewestPayments_9 ?_
      refine aw_iload_2 dX7_fewestPayments_10 ?_
      refine aw_icmp_geN 89 dX7_fewestPayments_11 (by decide) (by omega) (by omega) (fun hh => absurd hh (by omega)) (fun _ => ?_)
      refine aw_iload_3 dX7_fewestPayments_14 ?_
      refine ce_X7_24 dX7_fewestPayments_15 (k_J6_tz _ g h0 (by omega)) ?_
      refine aw_istore_4 dX7_fewestPayments_18 rfl (Nat.le_of_ble_eq_true rfl) ?_
      refine aw_aload_0 dX7_fewestPayments_20 ?_
      refine gf_X7_9 dX7_fewestPayments_21 rfl rfl ?_
      refine aw_iload_3 dX7_fewestPayments_24 ?_
      refine aw_aload_0 dX7_fewestPayments_25 ?_
      refine gf_X7_9 dX7_fewestPayments_26 rfl rfl ?_
      refine aw_iload_3 dX7_fewestPayments_29 ?_
      refine aw_iload_3 dX7_fewestPayments_30 ?_
      refine akN_iconst_1 dX7_fewestPayments_31 ?_
      refine aw_isubN dX7_fewestPayments_32 h0 ?_
      refine aw_iand dX7_fewestPayments_33 ?_
      refine aw_topi (show nI g &&& nI (g - 1) = nI (g - 2 ^ tz_N g) by rw [fa_and, a1]) ?_
      refine aw_ialdI dX7_fewestPayments_34 rfl (by omega) ?_
      refine aw_topi (hsm _ a2) ?_
      refine aw_aload_1 dX7_fewestPayments_35 ?_
      refine aw_iload_4 dX7_fewestPayments_36 ?_
      refine ce_X7_30 dX7_fewestPayments_38 rfl (k_X8_owedBy_0 gg P ta tb o0 o1 _ ra up f0 su nn wk ki we ow fr of (tz_N g) hn (by omega)) ?_
      refine aw_iadd dX7_fewestPayments_41 ?_
      refine aw_aload_1 dX7_fewestPayments_42 ?_
      refine aw_iload_4 dX7_fewestPayments_43 ?_
      refine ce_X7_33 dX7_fewestPayments_45 rfl (k_X8_owedTo_0 gg P ta tb o0 o1 _ ra up f0 su nn wk ki we ow fr of (tz_N g) hn (by omega)) ?_
      refine aw_isub dX7_fewestPayments_48 ?_
      refine aw_topi ((ii_add (by omega) (by omega) (by omega) (by omega)).trans (congrArg Int32.ofInt (si_split (dd := dd_Z nn ow) hn (by omega) h0 a4))) ?_
      refine aw_iastI dX7_fewestPayments_49 rfl (by omega) ?_
      refine aw_w cs_36 ?_
      refine aw_aload_0 dX7_fewestPayments_50 ?_
      refine gf_X7_15 dX7_fewestPayments_51 rfl rfl ?_
      refine aw_iload_3 dX7_fewestPayments_54 ?_
      refine aw_aload_0 dX7_fewestPayments_55 ?_
      refine aw_iload_3 dX7_fewestPayments_56 ?_
      refine aw_aload_1 dX7_fewestPayments_57 ?_
      refine gf_X7_18 dX7_fewestPayments_58 rfl rfl ?_
      refine ce_X7_36 dX7_fewestPayments_61 rfl (k_X7_mostWithoutOne gg P _ ta tb o0 o1 xr _ ev xa sd rk (et_N (dd_Z nn ow) nn g) g nn hn (by omega) (fun k => Nat.le_trans (et_le _ _ g k) (by omega)) hev) ?_
      have hmx : mx_N (et_N (dd_Z nn ow) nn g) g nn ≤ g := mx_le (fun k => et_le _ _ g k) g nn
      refine aw_aload_0 dX7_fewestPayments_64 ?_
      refine gf_X7_9 dX7_fewestPayments_65 rfl rfl ?_
      refine aw_iload_3 dX7_fewestPayments_68 ?_
      refine aw_ialdI dX7_fewestPayments_69 rfl (by omega) ?_
      refine aw_topi (pk_us (f := sm) (k := g)) ?_
      have fin : ∀ c : Nat, c = (if ss_Z (dd_Z nn ow) nn g = 0 then 1 else 0) → AW 3 RX7 cX7_fewestPayments 5 (some .int) 41 (fun r w' => r = some (.int (st_I nn ow)) ∧ ∃ sm2 ev2 : Nat → Int32, sm2 0 = 0 ∧ ev2 0 = 0 ∧ w' = cw_C gg P (ra, up, f0, su, nn, wk, ki, we, ow, fr, of) ta tb o0 o1 (xr, (sm2, ev2), xa, sd, rk)) 81 [.ref 35, .ref 3, .int (nI (2 ^ nn)), .int (nI g), .int (nI (tz_N g))] [.int (nI c), .int (nI (mx_N (et_N (dd_Z nn ow) nn g) g nn)), .int (nI g), .ref 37] (cw_C gg P (ra, up, f0, su, nn, wk, ki, we, ow, fr, of) ta tb o0 o1 (xr, (upd sm g (Int32.ofInt (ss_Z (dd_Z nn ow) nn g)), ev), xa, sd, rk)) := by
        intro c hc
        refine aw_iaddN dX7_fewestPayments_81 ?_
        refine aw_iastI dX7_fewestPayments_82 rfl (by omega) ?_
        refine aw_w cs_37 ?_
        refine aw_iincN_3 dX7_fewestPayments_83 rfl (Nat.le_of_ble_eq_true rfl) ?_
        refine aw_goto 9 dX7_fewestPayments_86 (by decide) ?_
        refine ih (g + 1) (by omega) (by omega) _ _ _ (fun h hh => ?_) (fun h hh => ?_)
        · by_cases q : h = g
          · subst q; exact pk_us
          · rw [pk_un q]; exact hsm h (by omega)
        · match g, h0 with
          | g + 1, _ =>
            by_cases q : h = g + 1
            · subst q
              rw [pk_us, et_N, va_up, if_pos rfl, hc]
            · rw [pk_un q, et_N, va_up, if_neg q]
              exact hev h (by omega)
      by_cases q : ss_Z (dd_Z nn ow) nn g = 0
      · refine aw_if_ne 77 dX7_fewestPayments_70 (by decide) (fun hh => absurd ((ii_0 (by omega) (by omega)).mpr q) hh) (fun _ => ?_)
        refine ak_iconst_1 dX7_fewestPayments_73 ?_
        refine aw_goto 78 dX7_fewestPayments_74 (by decide) ?_
        refine aw_topi (show (1 : Int32) = bI True from rfl) ?_
        refine ce_X7_40 dX7_fewestPayments_78 (k_X9_oneIf _ True) ?_
        exact fin 1 (if_pos q).symm
      · refine aw_if_ne 77 dX7_fewestPayments_70 (by decide) (fun _ => ?_) (fun hh => absurd hh ((fun z => q ((ii_0 (by omega) (by omega)).mp z))))
        refine ak_iconst_0 dX7_fewestPayments_77 ?_
        refine aw_topi (show (0 : Int32) = bI False from rfl) ?_
        refine ce_X7_40 dX7_fewestPayments_78 (k_X9_oneIf _ False) ?_
        exact fin 0 (if_neg q).symm
  refine loop (2 ^ nn - 1) 1 (by omega) (by omega) sm ev .null (fun h hh => ?_) (fun h hh => ?_)
  · obtain rfl : h = 0 := by omega
    rw [hs0, show ss_Z (dd_Z nn ow) nn 0 = 0 from ss_zero _ _]
    rfl
  · obtain rfl : h = 0 := by omega
    rw [he0]; rfl
