/-! ===== the reference: the best ring ===== -/
/-- a code's digits -/
def dg_N (c len k : Nat) : Nat := c / 5 ^ (len - 1 - k) % 5
theorem dg_lt (c len k : Nat) : dg_N c len k < 5 := Nat.mod_lt _ (by decide)
def vr_B (nn : Nat) (r : Nat → Nat) : Nat → Bool
  | 0 => true
  | j + 1 => vr_B nn r j && (decide (r j < nn) && (!ir_B r (r j) j && decide (r 0 ≤ r j)))
def sn_N (r : Nat → Nat) : Nat → Nat
  | 0 => 0
  | j + 1 => sn_N r j ||| 2 ^ r j
theorem sn_1 : ∀ a : Nat, a < 32 → ∀ x : Nat, x < 5 → (a ||| 2 ^ x) < 32 ∧ nI a ||| nI (2 ^ x) = nI (a ||| 2 ^ x) ∧ ∀ y : Nat, y < 5 → (bt_P (a ||| 2 ^ x) y ↔ bt_P a y ∨ x = y) := by decide +kernel
theorem sn_lt {r : Nat → Nat} (h : ∀ k, r k < 5) : ∀ j, sn_N r j < 32
  | 0 => by show 0 < 32; decide
  | j + 1 => (sn_1 _ (sn_lt h j) _ (h j)).1
theorem sn_b {r : Nat → Nat} (h : ∀ k, r k < 5) {y : Nat} (hy : y < 5) : ∀ j, bt_P (sn_N r j) y ↔ ir_B r y j = true
  | 0 => by
    show 0 / 2 ^ y % 2 = 1 ↔ false = true
    rw [Nat.zero_div]
    decide
  | j + 1 => by
    have ih := sn_b h hy j
    show bt_P (sn_N r j ||| 2 ^ r j) y ↔ (ir_B r y j || decide (r j = y)) = true
    rw [(sn_1 _ (sn_lt h j) _ (h j)).2.2 y hy, ih]
    simp
def rl_N (ow r : Nat → Nat) (len : Nat) : Nat → Nat
  | 0 => 268435456
  | j + 1 => min (rl_N ow r len j) (ow (5 * r j + r ((j + 1) % len)))
theorem rl_le (ow r : Nat → Nat) (len : Nat) : ∀ j, rl_N ow r len j ≤ 268435456
  | 0 => Nat.le_refl _
  | j + 1 => by
    have ih := rl_le ow r len j
    unfold rl_N
    omega
def rg_N (nn : Nat) (ow r : Nat → Nat) (len : Nat) : Nat := if vr_B nn r len = true then rl_N ow r len len else 0
theorem rg_le (nn : Nat) (ow r : Nat → Nat) (len : Nat) : rg_N nn ow r len ≤ 268435456 := by
  unfold rg_N
  split
  · exact rl_le _ _ _ _
  · exact Nat.zero_le _
def rr_I (c len : Nat) (rw : Nat → Int32) (k : Nat) : Int32 := if k < len then nI (dg_N c len k) else rw k
theorem k_X10_ringBy (rd : Int32) (pl : Nat) (pc : Nat → Nat) (ra up f0 su nn : Nat) (wk : Int32) (ki we ow fr of : Nat → Nat) (oc : Nat) (oa ob os : Nat → Nat) (K : mk_T) (sm gr rw : Nat → Int32) (sd h : Int64) (c len : Nat) (hn : nn ≤ 5) (hl : 1 ≤ len) (hl4 : len ≤ 4) (hc : c < 625) (how : ∀ k, k < 25 → ow k < 2147483648) : AM 2 yX10_ringBy cX10_ringBy 8 (some .int) [.ref 0, .int (nI c), .int (nI len)] (mw_M (rd, (pl, pc), (ra, up, f0, su, nn, wk), ki, (we, ow, fr, of), (oc, oa, ob, os)) K (sm, gr, rw, sd, h)) (ac_R (some (.int (nI (rg_N nn ow (dg_N c len) len)))) (mw_M (rd, (pl, pc), (ra, up, f0, su, nn, wk), ki, (we, ow, fr, of), (oc, oa, ob, os)) K (sm, gr, rr_I c len rw, sd, h))) := by
  have hd := dg_lt c len
  have hG : ∀ k, k < len → rr_I c len rw k = nI (dg_N c len k) := fun k hk => if_pos hk
  have hrl := rl_le ow (dg_N c len) len
  refine AM.of (loc := [.ref 0, .int (nI c), .int (nI len), .null, .null, .null, .null, .null]) RX10 rfl (by decide +kernel) (Nat.le_of_ble_eq_true rfl) rfl ?_
  refine aw_iload_1 dX10_ringBy_0 ?_
  refine aw_istore_3 dX10_ringBy_1 rfl (Nat.le_of_ble_eq_true rfl) ?_
  refine aw_iload_2 dX10_ringBy_2 ?_
  refine ak_iconst_1 dX10_ringBy_3 ?_
  refine aw_isub dX10_ringBy_4 ?_
  refine aw_istore_4 dX10_ringBy_5 rfl (Nat.le_of_ble_eq_true rfl) ?_
  have third : ∀ k j, j + k = len → vr_B nn (dg_N c len) len = true → ∀ z3 z5 : Int32, AW 2 RX10 cX10_ringBy 8 (some .int) 18 (ac_R (some (.int (nI (rg_N nn ow (dg_N c len) len)))) (mw_M (rd, (pl, pc), (ra, up, f0, su, nn, wk), ki, (we, ow, fr, of), (oc, oa, ob, os)) K (sm, gr, rr_I c len rw, sd, h))) 131 [.ref 0, .int (nI c), .int (nI len), .int z3, .int (bI (vr_B nn (dg_N c len) len = true)), .int z5, .int (nI (rl_N ow (dg_N c len) len j)), .int (nI j)] [] (mw_M (rd, (pl, pc), (ra, up, f0, su, nn, wk), ki, (we, ow, fr, of), (oc, oa, ob, os)) K (sm, gr, rr_I c len rw, sd, h)) := by
    intro k
    induction k with
    | zero =>
      intro j hj hv z3 z5
      obtain rfl : j = len := by omega
      refine aw_iload_7 dX10_ringBy_131 ?_
      refine aw_iload_2 dX10_ringBy_133 ?_
      refine aw_icmp_geN 181 dX10_ringBy_134 (by decide) (by omega) (by omega) (fun _ => ?_) (fun hh => absurd hh (by omega))
      refine aw_iload_4 dX10_ringBy_181 ?_
      refine aw_if_eq 191 dX10_ringBy_183 (by decide) (fun hh => absurd hh (bI_n hv)) (fun _ => ?_)
      refine aw_iload_6 dX10_ringBy_186 ?_
      refine aw_goto 192 dX10_ringBy_188 (by decide) ?_
      refine aw_topi (congrArg nI (show rl_N ow (dg_N c j) j j = rg_N nn ow (dg_N c j) j from (if_pos hv).symm)) ?_
      exact aw_iret dX10_ringBy_192 rfl (⟨rfl, rfl⟩)
    | succ k ih =>
      intro j hj hv z3 z5
      have h1 := hrl j
      have h2 := hd j
      have h3 := hd ((j + 1) % len)
      have h4 : (j + 1) % len < len := Nat.mod_lt _ hl
      have h5 := how (5 * dg_N c len j + dg_N c len ((j + 1) % len)) (by omega)
      refine aw_iload_7 dX10_ringBy_131 ?_
      refine aw_iload_2 dX10_ringBy_133 ?_
      refine aw_icmp_geN 181 dX10_ringBy_134 (by decide) (by omega) (by omega) (fun hh => absurd hh (by omega)) (fun _ => ?_)
      refine aw_iload_4 dX10_ringBy_137 ?_
      refine aw_if_eq 181 dX10_ringBy_139 (by decide) (fun hh => absurd hh (bI_n hv)) (fun _ => ?_)
      refine aw_iload_6 dX10_ringBy_142 ?_
      refine aw_aload_0 dX10_ringBy_144 ?_
      refine gf_X10_23 dX10_ringBy_145 rfl rfl ?_
      refine akN_iconst_5 dX10_ringBy_148 ?_
      refine aw_aload_0 dX10_ringBy_149 ?_
      refine gf_X10_51 dX10_ringBy_150 rfl rfl ?_
      refine aw_iload_7 dX10_ringBy_153 ?_
      refine aw_ialdI dX10_ringBy_155 rfl (by omega) ?_
      refine aw_topi (hG j (by omega)) ?_
      refine aw_imulN dX10_ringBy_156 ?_
      refine aw_aload_0 dX10_ringBy_157 ?_
      refine gf_X10_51 dX10_ringBy_158 rfl rfl ?_
      refine aw_iload_7 dX10_ringBy_161 ?_
      refine akN_iconst_1 dX10_ringBy_163 ?_
      refine aw_iaddN dX10_ringBy_164 ?_
      refine aw_iload_2 dX10_ringBy_165 ?_
      refine aw_iremN dX10_ringBy_166 (by omega) (by omega) (by omega) ?_
      refine aw_ialdI dX10_ringBy_167 rfl (by omega) ?_
      refine aw_topi (hG _ h4) ?_
      refine aw_iaddN dX10_ringBy_168 ?_
      refine aw_ialdN dX10_ringBy_169 rfl (by omega) ?_
      refine ce_X10_124 dX10_ringBy_170 (k_X10_less _ _ _ (by omega) h5) ?_
      refine aw_istore_6 dX10_ringBy_173 rfl (Nat.le_of_ble_eq_true rfl) ?_
      refine aw_iincN_7 dX10_ringBy_175 rfl (Nat.le_of_ble_eq_true rfl) ?_
      refine aw_goto 131 dX10_ringBy_178 (by decide) ?_
      exact ih (j + 1) (by omega) hv _ _
  have second : ∀ k j, j + k = len → ∀ (z3 : Int32), AW 2 RX10 cX10_ringBy 8 (some .int) 18 (ac_R (some (.int (nI (rg_N nn ow (dg_N c len) len)))) (mw_M (rd, (pl, pc), (ra, up, f0, su, nn, wk), ki, (we, ow, fr, of), (oc, oa, ob, os)) K (sm, gr, rr_I c len rw, sd, h))) 41 [.ref 0, .int (nI c), .int (nI len), .int z3, .int (bI (vr_B nn (dg_N c len) j = true)), .int (nI (sn_N (dg_N c len) j)), .int (nI j), .null] [] (mw_M (rd, (pl, pc), (ra, up, f0, su, nn, wk), ki, (we, ow, fr, of), (oc, oa, ob, os)) K (sm, gr, rr_I c len rw, sd, h)) := by
    intro k
    induction k with
    | zero =>
      intro j hj z3
      obtain rfl : j = len := by omega
      refine aw_iload_6 dX10_ringBy_41 ?_
      refine aw_iload_2 dX10_ringBy_43 ?_
      refine aw_icmp_geN 124 dX10_ringBy_44 (by decide) (by omega) (by omega) (fun _ => ?_) (fun hh => absurd hh (by omega))
      refine aw_ldc gq_947 dX10_ringBy_124 ?_
      refine aw_istore_6 dX10_ringBy_126 rfl (Nat.le_of_ble_eq_true rfl) ?_
      refine akN_iconst_0 dX10_ringBy_128 ?_
      refine aw_istore_7 dX10_ringBy_129 rfl (Nat.le_of_ble_eq_true rfl) ?_
      by_cases q : vr_B nn (dg_N c j) j = true
      · exact third j 0 (by omega) q _ _
      · refine aw_iload_7 dX10_ringBy_131 ?_
        refine aw_iload_2 dX10_ringBy_133 ?_
        refine aw_icmp_geN 181 dX10_ringBy_134 (by decide) (by omega) (by omega) (fun hh => absurd hh (by omega)) (fun _ => ?_)
        refine aw_iload_4 dX10_ringBy_137 ?_
        refine aw_if_eq 181 dX10_ringBy_139 (by decide) (fun _ => ?_) (fun hh => absurd (bI_f q) hh)
        refine aw_iload_4 dX10_ringBy_181 ?_
        refine aw_if_eq 191 dX10_ringBy_183 (by decide) (fun _ => ?_) (fun hh => absurd (bI_f q) hh)
        refine akN_iconst_0 dX10_ringBy_191 ?_
        refine aw_topi (congrArg nI (show 0 = rg_N nn ow (dg_N c j) j from (if_neg q).symm)) ?_
        exact aw_iret dX10_ringBy_192 rfl (⟨rfl, rfl⟩)
    | succ k ih =>
      intro j hj z3
      have h1 := hd j
      have h2 := sn_lt hd j
      have h3 := hd 0
      obtain ⟨b1, b2, b3⟩ := sn_1 _ h2 _ h1
      have tail : ∀ b : Int32, b = bI (vr_B nn (dg_N c len) (j + 1) = true) → AW 2 RX10 cX10_ringBy 8 (some .int) 18 (ac_R (some (.int (nI (rg_N nn ow (dg_N c len) len)))) (mw_M (rd, (pl, pc), (ra, up, f0, su, nn, wk), ki, (we, ow, fr, of), (oc, oa, ob, os)) K (sm, gr, rr_I c len rw, sd, h))) 102 [.ref 0, .int (nI c), .int (nI len), .int z3, .int (bI (vr_B nn (dg_N c len) j = true)), .int (nI (sn_N (dg_N c len) j)), .int (nI j), .null] [.int b] (mw_M (rd, (pl, pc), (ra, up, f0, su, nn, wk), ki, (we, ow, fr, of), (oc, oa, ob, os)) K (sm, gr, rr_I c len rw, sd, h)) := by
        intro b hb
        refine aw_istore_4 dX10_ringBy_102 rfl (Nat.le_of_ble_eq_true rfl) ?_
        refine aw_iload_5 dX10_ringBy_104 ?_
        refine ak_iconst_1 dX10_ringBy_106 ?_
        refine aw_aload_0 dX10_ringBy_107 ?_
        refine gf_X10_51 dX10_ringBy_108 rfl rfl ?_
        refine aw_iload_6 dX10_ringBy_111 ?_
        refine aw_ialdI dX10_ringBy_113 rfl (by omega) ?_
        refine aw_topi (hG j (by omega)) ?_
        refine aw_ishl dX10_ringBy_114 ?_
        refine aw_topi (sh_one (by omega)) ?_
        refine aw_ior dX10_ringBy_115 ?_
        refine aw_topi b2 ?_
        refine aw_istore_5 dX10_ringBy_116 rfl (Nat.le_of_ble_eq_true rfl) ?_
        refine aw_iincN_6 dX10_ringBy_118 rfl (Nat.le_of_ble_eq_true rfl) ?_
        refine aw_goto 41 dX10_ringBy_121 (by decide) ?_
        rw [hb]
        exact ih (j + 1) (by omega) z3
      have no : ¬ vr_B nn (dg_N c len) (j + 1) = true → AW 2 RX10 cX10_ringBy 8 (some .int) 18 (ac_R (some (.int (nI (rg_N nn ow (dg_N c len) len)))) (mw_M (rd, (pl, pc), (ra, up, f0, su, nn, wk), ki, (we, ow, fr, of), (oc, oa, ob, os)) K (sm, gr, rr_I c len rw, sd, h))) 101 [.ref 0, .int (nI c), .int (nI len), .int z3, .int (bI (vr_B nn (dg_N c len) j = true)), .int (nI (sn_N (dg_N c len) j)), .int (nI j), .null] [] (mw_M (rd, (pl, pc), (ra, up, f0, su, nn, wk), ki, (we, ow, fr, of), (oc, oa, ob, os)) K (sm, gr, rr_I c len rw, sd, h)) := by
        intro q
        refine ak_iconst_0 dX10_ringBy_101 ?_
        exact tail 0 (bI_f q).symm
      have eV : vr_B nn (dg_N c len) (j + 1) = (vr_B nn (dg_N c len) j && (decide (dg_N c len j < nn) && (!ir_B (dg_N c len) (dg_N c len j) j && decide (dg_N c len 0 ≤ dg_N c len j)))) := rfl
      refine aw_iload_6 dX10_ringBy_41 ?_
      refine aw_iload_2 dX10_ringBy_43 ?_
      refine aw_icmp_geN 124 dX10_ringBy_44 (by decide) (by omega) (by omega) (fun hh => absurd hh (by omega)) (fun _ => ?_)
      by_cases q : vr_B nn (dg_N c len) j = true
      · refine aw_iload_4 dX10_ringBy_47 ?_
        refine aw_if_eq 101 dX10_ringBy_49 (by decide) (fun hh => absurd hh (bI_n q)) (fun _ => ?_)
        refine aw_aload_0 dX10_ringBy_52 ?_
        refine gf_X10_51 dX10_ringBy_53 rfl rfl ?_
        refine aw_iload_6 dX10_ringBy_56 ?_
        refine aw_ialdI dX10_ringBy_58 rfl (by omega) ?_
        refine aw_topi (hG j (by omega)) ?_
        refine aw_aload_0 dX10_ringBy_59 ?_
        refine gf_X10_93 dX10_ringBy_60 rfl rfl ?_
        refine aw_icmp_geN 101 dX10_ringBy_63 (by decide) (by omega) (by omega) (fun q2 => ?_) (fun q2 => ?_)
        · exact no (by rw [eV, decide_eq_false (by omega)]; simp)
        refine aw_iload_5 dX10_ringBy_66 ?_
        refine aw_aload_0 dX10_ringBy_68 ?_
        refine gf_X10_51 dX10_ringBy_69 rfl rfl ?_
        refine aw_iload_6 dX10_ringBy_72 ?_
        refine aw_ialdI dX10_ringBy_74 rfl (by omega) ?_
        refine aw_topi (hG j (by omega)) ?_
        refine aw_ishr dX10_ringBy_75 ?_
        have hdv : sn_N (dg_N c len) j / 2 ^ dg_N c len j ≤ sn_N (dg_N c len) j := Nat.div_le_self _ _
        have hm2 : sn_N (dg_N c len) j / 2 ^ dg_N c len j % 2 ^ 1 < 2 := Nat.mod_lt _ (by decide)
        refine aw_topi (sh_shr (by omega) (by omega)) ?_
        refine ak_iconst_1 dX10_ringBy_76 ?_
        refine aw_iand dX10_ringBy_77 ?_
        refine aw_topi (pk_andN (by omega) 1 rfl : nI (sn_N (dg_N c len) j / 2 ^ dg_N c len j) &&& 1 = nI (sn_N (dg_N c len) j / 2 ^ dg_N c len j % 2 ^ 1)) ?_
        have hsb := sn_b hd h1 j
        refine aw_if_neN 101 dX10_ringBy_78 (by decide) (by omega) (fun q3 => ?_) (fun q3 => ?_)
        · have q3 : bt_P (sn_N (dg_N c len) j) (dg_N c len j) := by show _ / _ % 2 = 1; omega
          exact no (by rw [eV, hsb.mp q3]; simp)
        have q3 : ¬ ir_B (dg_N c len) (dg_N c len j) j = true := fun z => by
          have z2 : sn_N (dg_N c len) j / 2 ^ dg_N c len j % 2 = 1 := hsb.mpr z
          omega
        refine aw_aload_0 dX10_ringBy_81 ?_
        refine gf_X10_51 dX10_ringBy_82 rfl rfl ?_
        refine aw_iload_6 dX10_ringBy_85 ?_
        refine aw_ialdI dX10_ringBy_87 rfl (by omega) ?_
        refine aw_topi (hG j (by omega)) ?_
        refine aw_aload_0 dX10_ringBy_88 ?_
        refine gf_X10_51 dX10_ringBy_89 rfl rfl ?_
        refine akN_iconst_0 dX10_ringBy_92 ?_
        refine aw_ialdI dX10_ringBy_93 rfl (by omega) ?_
        refine aw_topi (hG 0 (by omega)) ?_
        refine aw_icmp_ltN 101 dX10_ringBy_94 (by decide) (by omega) (by omega) (fun q4 => ?_) (fun q4 => ?_)
        · exact no (by rw [eV, decide_eq_false (p := dg_N c len 0 ≤ dg_N c len j) (by omega)]; simp)
        refine ak_iconst_1 dX10_ringBy_97 ?_
        refine aw_goto 102 dX10_ringBy_98 (by decide) ?_
        exact tail 1 (bI_t (by rw [eV, q, decide_eq_true (by omega), decide_eq_true (p := dg_N c len 0 ≤ dg_N c len j) (by omega), show ir_B (dg_N c len) (dg_N c len j) j = false by simpa using q3]; rfl)).symm
      · refine aw_iload_4 dX10_ringBy_47 ?_
        refine aw_if_eq 101 dX10_ringBy_49 (by decide) (fun _ => ?_) (fun hh => absurd (bI_f q) hh)
        exact no (by rw [eV, show vr_B nn (dg_N c len) j = false by simpa using q]; simp)
  have first : ∀ k, k ≤ len → AW 2 RX10 cX10_ringBy 8 (some .int) 18 (ac_R (some (.int (nI (rg_N nn ow (dg_N c len) len)))) (mw_M (rd, (pl, pc), (ra, up, f0, su, nn, wk), ki, (we, ow, fr, of), (oc, oa, ob, os)) K (sm, gr, rr_I c len rw, sd, h))) 7 [.ref 0, .int (nI c), .int (nI len), .int (nI (c / 5 ^ (len - k))), .int (nI k - 1), .null, .null, .null] [] (mw_M (rd, (pl, pc), (ra, up, f0, su, nn, wk), ki, (we, ow, fr, of), (oc, oa, ob, os)) K (sm, gr, (fun i => if k ≤ i ∧ i < len then nI (dg_N c len i) else rw i), sd, h)) := by
    intro k
    induction k with
    | zero =>
      intro hk
      refine aw_iload_4 dX10_ringBy_7 ?_
      refine aw_if_lt 32 dX10_ringBy_9 (by decide) (fun _ => ?_) (fun hh => absurd ((by decide)) hh)
      refine aw_arr (id := 12) (g := rr_I c len rw) rfl (fun i hi => by
        show (if 0 ≤ i ∧ i < len then nI (dg_N c len i) else rw i) = _
        unfold rr_I
        by_cases q : i < len
        · rw [if_pos ⟨Nat.zero_le _, q⟩, if_pos q]
        · rw [if_neg (fun z => q z.2), if_neg q]) ?_
      refine aw_w cm_12 ?_
      refine ak_iconst_1 dX10_ringBy_32 ?_
      refine aw_istore_4 dX10_ringBy_33 rfl (Nat.le_of_ble_eq_true rfl) ?_
      refine akN_iconst_0 dX10_ringBy_35 ?_
      refine aw_istore_5 dX10_ringBy_36 rfl (Nat.le_of_ble_eq_true rfl) ?_
      refine akN_iconst_0 dX10_ringBy_38 ?_
      refine aw_istore_6 dX10_ringBy_39 rfl (Nat.le_of_ble_eq_true rfl) ?_
      exact second len 0 (by omega) _
    | succ k ih =>
      intro hk
      have hdv : c / 5 ^ (len - (k + 1)) ≤ c := Nat.div_le_self _ _
      have ek : nI (k + 1) - 1 = nI k := (pk_sub (by omega) : nI (k + 1) - nI 1 = nI (k + 1 - 1))
      rw [ek]
      refine aw_iload_4 dX10_ringBy_7 ?_
      refine aw_if_ltN 32 dX10_ringBy_9 (by decide) (by omega) (fun hh => absurd hh (by omega)) (fun _ => ?_)
      refine aw_aload_0 dX10_ringBy_12 ?_
      refine gf_X10_51 dX10_ringBy_13 rfl rfl ?_
      refine aw_iload_4 dX10_ringBy_16 ?_
      refine aw_iload_3 dX10_ringBy_18 ?_
      refine akN_iconst_5 dX10_ringBy_19 ?_
      refine aw_iremN dX10_ringBy_20 (by omega) (by omega) (by omega) ?_
      refine aw_iastI dX10_ringBy_21 rfl (by omega) ?_
      refine aw_w cm_12 ?_
      refine aw_iload_3 dX10_ringBy_22 ?_
      refine akN_iconst_5 dX10_ringBy_23 ?_
      refine aw_idivN dX10_ringBy_24 (by omega) (by omega) (by omega) ?_
      refine aw_istore_3 dX10_ringBy_25 rfl (Nat.le_of_ble_eq_true rfl) ?_
      refine ak_iinc_4_m1 dX10_ringBy_26 rfl (Nat.le_of_ble_eq_true rfl) ?_
      refine aw_goto 7 dX10_ringBy_29 (by decide) ?_
      have h := ih (by omega)
      have e1 : c / 5 ^ (len - (k + 1)) / 5 = c / 5 ^ (len - k) := by
        rw [Nat.div_div_eq_div_mul, ← Nat.pow_succ]
        congr 2
        omega
      have e2 : upd (fun i => if k + 1 ≤ i ∧ i < len then nI (dg_N c len i) else rw i) k (nI (c / 5 ^ (len - (k + 1)) % 5)) = (fun i => if k ≤ i ∧ i < len then nI (dg_N c len i) else rw i) := by
        funext i
        by_cases q : i = k
        · subst q
          rw [pk_us, if_pos ⟨Nat.le_refl _, by omega⟩]
          show _ = nI (c / 5 ^ (len - 1 - i) % 5)
          rw [show len - (i + 1) = len - 1 - i by omega]
        · rw [pk_un q]
          by_cases r : k + 1 ≤ i ∧ i < len
          · rw [if_pos r, if_pos ⟨by omega, r.2⟩]
          · rw [if_neg r, if_neg (fun z => r ⟨by omega, z.2⟩)]
      rw [e1, e2]
      rw [show nI k - 1 = nI k + (-1) from Int32.sub_eq_add_neg _ _] at h
      exact h
  have h := first len (Nat.le_refl _)
  rw [Nat.sub_self, Nat.pow_zero, Nat.div_one, show (fun i => if len ≤ i ∧ i < len then nI (dg_N c len i) else rw i) = rw from funext fun i => if_neg (fun z => by omega)] at h
  exact h
/-- one code more -/
def rs_F (nn : Nat) (ow : Nat → Nat) (len c : Nat) : Nat × Nat × Nat → Nat × Nat × Nat
  | (bt, bc, bl) => if bt < len * rg_N nn ow (dg_N c len) len then (len * rg_N nn ow (dg_N c len) len, c, len) else (bt, bc, bl)
def sr_B (nn : Nat) (ow : Nat → Nat) : Nat × Nat × Nat := fo_B (fun len s => fo_B (rs_F nn ow len) 0 (5 ^ len) s) 2 3 (0, 0, 0)
def cd_I (bc bl : Nat) : Int32 := if bl = 0 then -1 else nI bc
def tm_I : Nat × Nat × Nat → Nat → Int32
  | (bt, bc, bl), w => if w = 0 then nI bt else if w = 1 then nI bl else if w - 10 < bl then nI (dg_N bc bl (w - 10)) else -1
theorem k_X10_bestRingNow (rd : Int32) (pl : Nat) (pc : Nat → Nat) (ra up f0 su nn : Nat) (wk : Int32) (ki we ow fr of : Nat → Nat) (oc : Nat) (oa ob os : Nat → Nat) (K : mk_T) (sm gr rw : Nat → Int32) (sd h : Int64) (w : Nat) (hn : nn ≤ 5) (hw : w < 2 ∨ (10 ≤ w ∧ w < 14)) (how : ∀ k, k < 25 → ow k < 2147483648) : AM 3 yX10_bestRingNow cX10_bestRingNow 9 (some .int) [.ref 0, .int (nI w)] (mw_M (rd, (pl, pc), (ra, up, f0, su, nn, wk), ki, (we, ow, fr, of), (oc, oa, ob, os)) K (sm, gr, rw, sd, h)) (fun r w' => r = some (.int (tm_I (sr_B nn ow) w)) ∧ ∃ rw : Nat → Int32, w' = (mw_M (rd, (pl, pc), (ra, up, f0, su, nn, wk), ki, (we, ow, fr, of), (oc, oa, ob, os)) K (sm, gr, rw, sd, h))) := by
  refine AM.of (loc := [.ref 0, .int (nI w), .null, .null, .null, .null, .null, .null, .null]) RX10 rfl (by decide +kernel) (Nat.le_of_ble_eq_true rfl) rfl ?_
  refine akN_iconst_0 dX10_bestRingNow_0 ?_
  refine aw_istore_2 dX10_bestRingNow_1 rfl (Nat.le_of_ble_eq_true rfl) ?_
  refine ak_iconst_m1 dX10_bestRingNow_2 ?_
  refine aw_istore_3 dX10_bestRingNow_3 rfl (Nat.le_of_ble_eq_true rfl) ?_
  refine akN_iconst_0 dX10_bestRingNow_4 ?_
  refine aw_istore_4 dX10_bestRingNow_5 rfl (Nat.le_of_ble_eq_true rfl) ?_
  refine akN_iconst_5 dX10_bestRingNow_7 ?_
  refine aw_istore_5 dX10_bestRingNow_8 rfl (Nat.le_of_ble_eq_true rfl) ?_
  refine akN_iconst_2 dX10_bestRingNow_10 ?_
  refine aw_istore_6 dX10_bestRingNow_11 rfl (Nat.le_of_ble_eq_true rfl) ?_
  have fin : ∀ (bt bc bl : Nat) (rw : Nat → Int32) (z5 z6 : Int32) (j7 j8 : Value), (bt, bc, bl) = sr_B nn ow → bl ≤ 4 → bc < 625 → bt < 2147483648 → AW 3 RX10 cX10_bestRingNow 9 (some .int) 18 (fun r w' => r = some (.int (tm_I (sr_B nn ow) w)) ∧ ∃ rw : Nat → Int32, w' = (mw_M (rd, (pl, pc), (ra, up, f0, su, nn, wk), ki, (we, ow, fr, of), (oc, oa, ob, os)) K (sm, gr, rw, sd, h))) 95 [.ref 0, .int (nI w), .int (nI bt), .int (cd_I bc bl), .int (nI bl), .int z5, .int z6, j7, j8] [] (mw_M (rd, (pl, pc), (ra, up, f0, su, nn, wk), ki, (we, ow, fr, of), (oc, oa, ob, os)) K (sm, gr, rw, sd, h)) := by
    intro bt bc bl rw z5 z6 j7 j8 hs h1 h2 h3
    rw [← hs]
    by_cases q0 : w = 0
    · subst q0
      refine aw_iload_1 dX10_bestRingNow_95 ?_
      refine akN_iconst_2 dX10_bestRingNow_96 ?_
      refine aw_icmp_geN 111 dX10_bestRingNow_97 (by decide) (by omega) (by omega) (fun hh => absurd hh (by omega)) (fun _ => ?_)
      refine aw_iload_1 dX10_bestRingNow_100 ?_
      refine aw_if_neN 108 dX10_bestRingNow_101 (by decide) (by omega) (fun hh => absurd hh (by omega)) (fun _ => ?_)
      refine aw_iload_2 dX10_bestRingNow_104 ?_
      refine aw_goto 110 dX10_bestRingNow_105 (by decide) ?_
      exact aw_iret dX10_bestRingNow_110 rfl (⟨rfl, rw, rfl⟩)
    by_cases q1 : w = 1
    · subst q1
      refine aw_iload_1 dX10_bestRingNow_95 ?_
      refine akN_iconst_2 dX10_bestRingNow_96 ?_
      refine aw_icmp_geN 111 dX10_bestRingNow_97 (by decide) (by omega) (by omega) (fun hh => absurd hh (by omega)) (fun _ => ?_)
      refine aw_iload_1 dX10_bestRingNow_100 ?_
      refine aw_if_neN 108 dX10_bestRingNow_101 (by decide) (by omega) (fun _ => ?_) (fun hh => absurd hh (by omega))
      refine aw_iload_4 dX10_bestRingNow_108 ?_
      exact aw_iret dX10_bestRingNow_110 rfl (⟨rfl, rw, rfl⟩)
    have hT : tm_I (bt, bc, bl) w = if w - 10 < bl then nI (dg_N bc bl (w - 10)) else -1 := by
      show (if w = 0 then _ else if w = 1 then _ else _) = _
      rw [if_neg q0, if_neg q1]
    rw [hT]
    refine aw_iload_1 dX10_bestRingNow_95 ?_
    refine akN_iconst_2 dX10_bestRingNow_96 ?_
    refine aw_icmp_geN 111 dX10_bestRingNow_97 (by decide) (by omega) (by omega) (fun _ => ?_) (fun hh => absurd hh (by omega))
    refine aw_iload_1 dX10_bestRingNow_111 ?_
    refine akN_bipush_10 dX10_bestRingNow_112 ?_
    refine aw_isubN dX10_bestRingNow_114 (by omega) ?_
    refine aw_iload_4 dX10_bestRingNow_115 ?_
    refine aw_icmp_ltN 122 dX10_bestRingNow_117 (by decide) (by omega) (by omega) (fun q2 => ?_) (fun q2 => ?_)
    · refine aw_aload_0 dX10_bestRingNow_122 ?_
      rw [if_pos (by omega), show cd_I bc bl = nI bc from if_neg (by omega)]
      refine aw_iload_3 dX10_bestRingNow_123 ?_
      refine aw_iload_4 dX10_bestRingNow_124 ?_
      refine ce_X10_168 dX10_bestRingNow_126 rfl (k_X10_ringBy rd pl pc ra up f0 su nn wk ki we ow fr of oc oa ob os K sm gr rw sd h bc bl hn (by omega) h1 h2 how) ?_
      refine aw_pop dX10_bestRingNow_129 rfl ?_
      refine aw_aload_0 dX10_bestRingNow_130 ?_
      refine gf_X10_51 dX10_bestRingNow_131 rfl rfl ?_
      refine aw_iload_1 dX10_bestRingNow_134 ?_
      refine akN_bipush_10 dX10_bestRingNow_135 ?_
      refine aw_isubN dX10_bestRingNow_137 (by omega) ?_
      refine aw_ialdI dX10_bestRingNow_138 rfl (by omega) ?_
      refine aw_topi (show rr_I bc bl rw (w - 10) = nI (dg_N bc bl (w - 10)) from if_pos (by omega)) ?_
      exact aw_iret dX10_bestRingNow_139 rfl (⟨rfl, _, rfl⟩)
    · rw [if_neg (by omega)]
      refine ak_iconst_m1 dX10_bestRingNow_120 ?_
      exact aw_iret dX10_bestRingNow_121 rfl (⟨rfl, rw, rfl⟩)
  have codes : ∀ len, 2 ≤ len → len ≤ 4 → ∀ s' : Nat × Nat × Nat, (∀ (bt bc bl : Nat) (rw : Nat → Int32) (z7 : Int32) (j8 : Value), (bt, bc, bl) = s' → bl ≤ 4 → bc < 625 → bt ≤ 1073741824 → AW 3 RX10 cX10_bestRingNow 9 (some .int) 18 (fun r w' => r = some (.int (tm_I (sr_B nn ow) w)) ∧ ∃ rw : Nat → Int32, w' = (mw_M (rd, (pl, pc), (ra, up, f0, su, nn, wk), ki, (we, ow, fr, of), (oc, oa, ob, os)) K (sm, gr, rw, sd, h))) 89 [.ref 0, .int (nI w), .int (nI bt), .int (cd_I bc bl), .int (nI bl), .int (nI (5 ^ len)), .int (nI len), .int z7, j8] [] (mw_M (rd, (pl, pc), (ra, up, f0, su, nn, wk), ki, (we, ow, fr, of), (oc, oa, ob, os)) K (sm, gr, rw, sd, h))) → ∀ k c bt bc bl (rw : Nat → Int32) (j8 : Value), c + k = 5 ^ len → fo_B (rs_F nn ow len) c k (bt, bc, bl) = s' → bl ≤ 4 → bc < 625 → bt ≤ 1073741824 → AW 3 RX10 cX10_bestRingNow 9 (some .int) 18 (fun r w' => r = some (.int (tm_I (sr_B nn ow) w)) ∧ ∃ rw : Nat → Int32, w' = (mw_M (rd, (pl, pc), (ra, up, f0, su, nn, wk), ki, (we, ow, fr, of), (oc, oa, ob, os)) K (sm, gr, rw, sd, h))) 28 [.ref 0, .int (nI w), .int (nI bt), .int (cd_I bc bl), .int (nI bl), .int (nI (5 ^ len)), .int (nI len), .int (nI c), j8] [] (mw_M (rd, (pl, pc), (ra, up, f0, su, nn, wk), ki, (we, ow, fr, of), (oc, oa, ob, os)) K (sm, gr, rw, sd, h)) := by
    intro len hl2 hl4 s' hk k
    have hpow : 5 ^ len ≤ 5 ^ 4 := Nat.pow_le_pow_right (by decide) hl4
    induction k with
    | zero =>
      intro c bt bc bl rw j8 hc hs h1 h2 h3
      obtain rfl : c = 5 ^ len := by omega
      refine aw_iload_7 dX10_bestRingNow_28 ?_
      refine aw_iload_5 dX10_bestRingNow_30 ?_
      refine aw_icmp_geN 89 dX10_bestRingNow_32 (by decide) (by omega) (by omega) (fun _ => ?_) (fun hh => absurd hh (by omega))
      exact hk bt bc bl rw _ _ hs h1 h2 h3
    | succ k ih =>
      intro c bt bc bl rw j8 hc hs h1 h2 h3
      have hr := rg_le nn ow (dg_N c len) len
      have hm : len * rg_N nn ow (dg_N c len) len ≤ 4 * 268435456 := Nat.mul_le_mul hl4 hr
      rw [fo_B] at hs
      refine aw_iload_7 dX10_bestRingNow_28 ?_
      refine aw_iload_5 dX10_bestRingNow_30 ?_
      refine aw_icmp_geN 89 dX10_bestRingNow_32 (by decide) (by omega) (by omega) (fun hh => absurd hh (by omega)) (fun _ => ?_)
      refine aw_iload_6 dX10_bestRingNow_35 ?_
      refine aw_aload_0 dX10_bestRingNow_37 ?_
      refine aw_iload_7 dX10_bestRingNow_38 ?_
      refine aw_iload_6 dX10_bestRingNow_40 ?_
      refine ce_X10_168 dX10_bestRingNow_42 rfl (k_X10_ringBy rd pl pc ra up f0 su nn wk ki we ow fr of oc oa ob os K sm gr rw sd h c len hn (by omega) hl4 (by omega) how) ?_
      refine aw_imulN dX10_bestRingNow_45 ?_
      refine aw_istore_8 dX10_bestRingNow_46 rfl (Nat.le_of_ble_eq_true rfl) ?_
      by_cases q : bt < len * rg_N nn ow (dg_N c len) len
      · rw [show rs_F nn ow len c (bt, bc, bl) = (len * rg_N nn ow (dg_N c len) len, c, len) from if_pos q] at hs
        refine aw_iload_8 dX10_bestRingNow_48 ?_
        refine aw_iload_2 dX10_bestRingNow_50 ?_
        refine aw_icmp_leN 59 dX10_bestRingNow_51 (by decide) (by omega) (by omega) (fun hh => absurd hh (by omega)) (fun _ => ?_)
        refine aw_iload_7 dX10_bestRingNow_54 ?_
        refine aw_goto 60 dX10_bestRingNow_56 (by decide) ?_
        refine aw_istore_3 dX10_bestRingNow_60 rfl (Nat.le_of_ble_eq_true rfl) ?_
        refine aw_iload_8 dX10_bestRingNow_61 ?_
        refine aw_iload_2 dX10_bestRingNow_63 ?_
        refine aw_icmp_leN 72 dX10_bestRingNow_64 (by decide) (by omega) (by omega) (fun hh => absurd hh (by omega)) (fun _ => ?_)
        refine aw_iload_6 dX10_bestRingNow_67 ?_
        refine aw_goto 74 dX10_bestRingNow_69 (by decide) ?_
        refine aw_istore_4 dX10_bestRingNow_74 rfl (Nat.le_of_ble_eq_true rfl) ?_
        refine aw_iload_2 dX10_bestRingNow_76 ?_
        refine aw_iload_8 dX10_bestRingNow_77 ?_
        refine ce_X10_127 dX10_bestRingNow_79 (k_X10_more _ bt _ (by omega) (by omega)) ?_
        rw [show max bt (len * rg_N nn ow (dg_N c len) len) = len * rg_N nn ow (dg_N c len) len by omega]
        refine aw_istore_2 dX10_bestRingNow_82 rfl (Nat.le_of_ble_eq_true rfl) ?_
        refine aw_iincN_7 dX10_bestRingNow_83 rfl (Nat.le_of_ble_eq_true rfl) ?_
        refine aw_goto 28 dX10_bestRingNow_86 (by decide) ?_
        have h := ih (c + 1) _ _ _ (rr_I c len rw) (.int (nI (len * rg_N nn ow (dg_N c len) len))) (by omega) hs (by omega) (by omega) hm
        rw [show cd_I c len = nI c from if_neg (by omega)] at h
        exact h
      · rw [show rs_F nn ow len c (bt, bc, bl) = (bt, bc, bl) from if_neg q] at hs
        refine aw_iload_8 dX10_bestRingNow_48 ?_
        refine aw_iload_2 dX10_bestRingNow_50 ?_
        refine aw_icmp_leN 59 dX10_bestRingNow_51 (by decide) (by omega) (by omega) (fun _ => ?_) (fun hh => absurd hh (by omega))
        refine aw_iload_3 dX10_bestRingNow_59 ?_
        refine aw_istore_3 dX10_bestRingNow_60 rfl (Nat.le_of_ble_eq_true rfl) ?_
        refine aw_iload_8 dX10_bestRingNow_61 ?_
        refine aw_iload_2 dX10_bestRingNow_63 ?_
        refine aw_icmp_leN 72 dX10_bestRingNow_64 (by decide) (by omega) (by omega) (fun _ => ?_) (fun hh => absurd hh (by omega))
        refine aw_iload_4 dX10_bestRingNow_72 ?_
        refine aw_istore_4 dX10_bestRingNow_74 rfl (Nat.le_of_ble_eq_true rfl) ?_
        refine aw_iload_2 dX10_bestRingNow_76 ?_
        refine aw_iload_8 dX10_bestRingNow_77 ?_
        refine ce_X10_127 dX10_bestRingNow_79 (k_X10_more _ bt _ (by omega) (by omega)) ?_
        rw [show max bt (len * rg_N nn ow (dg_N c len) len) = bt by omega]
        refine aw_istore_2 dX10_bestRingNow_82 rfl (Nat.le_of_ble_eq_true rfl) ?_
        refine aw_iincN_7 dX10_bestRingNow_83 rfl (Nat.le_of_ble_eq_true rfl) ?_
        refine aw_goto 28 dX10_bestRingNow_86 (by decide) ?_
        exact ih (c + 1) _ _ _ (rr_I c len rw) _ (by omega) hs h1 h2 h3
  have lens : ∀ k len, len + k = 5 → 2 ≤ len → ∀ bt bc bl (rw : Nat → Int32) (j7 j8 : Value), fo_B (fun len s => fo_B (rs_F nn ow len) 0 (5 ^ len) s) len k (bt, bc, bl) = sr_B nn ow → bl ≤ 4 → bc < 625 → bt ≤ 1073741824 → AW 3 RX10 cX10_bestRingNow 9 (some .int) 18 (fun r w' => r = some (.int (tm_I (sr_B nn ow) w)) ∧ ∃ rw : Nat → Int32, w' = (mw_M (rd, (pl, pc), (ra, up, f0, su, nn, wk), ki, (we, ow, fr, of), (oc, oa, ob, os)) K (sm, gr, rw, sd, h))) 13 [.ref 0, .int (nI w), .int (nI bt), .int (cd_I bc bl), .int (nI bl), .int (nI (5 ^ (len - 1))), .int (nI len), j7, j8] [] (mw_M (rd, (pl, pc), (ra, up, f0, su, nn, wk), ki, (we, ow, fr, of), (oc, oa, ob, os)) K (sm, gr, rw, sd, h)) := by
    intro k
    induction k with
    | zero =>
      intro len hl hl2 bt bc bl rw j7 j8 hs h1 h2 h3
      obtain rfl : len = 5 := by omega
      refine aw_iload_6 dX10_bestRingNow_13 ?_
      refine akN_iconst_4 dX10_bestRingNow_15 ?_
      refine aw_icmp_gtN 95 dX10_bestRingNow_16 (by decide) (by omega) (by omega) (fun _ => ?_) (fun hh => absurd hh (by omega))
      exact fin bt bc bl rw _ _ _ _ hs h1 h2 (by omega)
    | succ k ih =>
      intro len hl hl2 bt bc bl rw j7 j8 hs h1 h2 h3
      rw [fo_B] at hs
      have e : 5 ^ (len - 1) * 5 = 5 ^ len := by rw [← Nat.pow_succ]; congr 1; omega
      refine aw_iload_6 dX10_bestRingNow_13 ?_
      refine akN_iconst_4 dX10_bestRingNow_15 ?_
      refine aw_icmp_gtN 95 dX10_bestRingNow_16 (by decide) (by omega) (by omega) (fun hh => absurd hh (by omega)) (fun _ => ?_)
      refine aw_iload_5 dX10_bestRingNow_19 ?_
      refine akN_iconst_5 dX10_bestRingNow_21 ?_
      refine aw_imulN dX10_bestRingNow_22 ?_
      rw [e]
      refine aw_istore_5 dX10_bestRingNow_23 rfl (Nat.le_of_ble_eq_true rfl) ?_
      refine akN_iconst_0 dX10_bestRingNow_25 ?_
      refine aw_istore_7 dX10_bestRingNow_26 rfl (Nat.le_of_ble_eq_true rfl) ?_
      refine codes len hl2 (by omega) _ (fun bt bc bl rw z7 j8 hs' h1 h2 h3 => ?_) (5 ^ len) 0 bt bc bl rw j8 (by omega) rfl h1 h2 h3
      rw [← hs'] at hs
      refine aw_iincN_6 dX10_bestRingNow_89 rfl (Nat.le_of_ble_eq_true rfl) ?_
      refine aw_goto 13 dX10_bestRingNow_92 (by decide) ?_
      have h := ih (len + 1) (by omega) (by omega) bt bc bl rw (.int z7) j8 hs h1 h2 h3
      rw [Nat.add_sub_cancel] at h
      exact h
  exact lens 3 2 (by omega) (by omega) 0 0 0 rw _ _ rfl (by omega) (by omega) (by omega)
theorem m_bestRing_out (rd : Int32) (pl : Nat) (pc : Nat → Nat) (ra up f0 su nn : Nat) (wk : Int32) (ki we ow fr of : Nat → Nat) (oc : Nat) (oa ob os : Nat → Nat) (K : mk_T) (x : ms_T) (w : Int32) (h0 : ¬ (0 ≤ w ∧ w ≤ 1)) (h1 : ¬ (10 ≤ w ∧ w ≤ 13)) : AM 8 yX10_bestRing cX10_bestRing 2 (some .int) [.ref 0, .int w] (mw_M (rd, (pl, pc), (ra, up, f0, su, nn, wk), ki, (we, ow, fr, of), (oc, oa, ob, os)) K x) (ac_R (some (.int (-102))) (mw_M (rd, (pl, pc), (ra, up, f0, su, nn, wk), ki, (we, ow, fr, of), (oc, oa, ob, os)) K x)) := by
  refine AM.of (loc := [.ref 0, .int w]) RX10 rfl (by decide +kernel) (Nat.le_of_ble_eq_true rfl) rfl ?_
  refine aw_iload_1 dX10_bestRing_0 ?_
  refine ak_iconst_0 dX10_bestRing_1 ?_
  refine ak_iconst_1 dX10_bestRing_2 ?_
  refine ce_X10_69 dX10_bestRing_3 (k_X10_within _ w 0 1) ?_
  refine aw_if_ne 20 dX10_bestRing_6 (by decide) (fun hh => absurd (bI_f h0) hh) (fun _ => ?_)
  refine aw_iload_1 dX10_bestRing_9 ?_
  refine ak_bipush_10 dX10_bestRing_10 ?_
  refine ak_bipush_13 dX10_bestRing_12 ?_
  refine ce_X10_69 dX10_bestRing_14 (k_X10_within _ w 10 13) ?_
  refine aw_if_eq 28 dX10_bestRing_17 (by decide) (fun _ => ?_) (fun hh => absurd (bI_f h1) hh)
  refine ak_bipush_m102 dX10_bestRing_28 ?_
  exact aw_iret dX10_bestRing_30 rfl (⟨rfl, rfl⟩)
theorem m_bestRing_ok (rd : Int32) (pl : Nat) (pc : Nat → Nat) (ra up f0 su nn : Nat) (wk : Int32) (ki we ow fr of : Nat → Nat) (oc : Nat) (oa ob os : Nat → Nat) (K : mk_T) (sm gr rw : Nat → Int32) (sd h : Int64) (w : Nat) (hn : nn ≤ 5) (hw : w < 2 ∨ (10 ≤ w ∧ w < 14)) (h0 : ((0 : Int32) ≤ nI w ∧ nI w ≤ 1) ∨ ((10 : Int32) ≤ nI w ∧ nI w ≤ 13)) (how : ∀ k, k < 25 → ow k < 2147483648) : AM 8 yX10_bestRing cX10_bestRing 2 (some .int) [.ref 0, .int (nI w)] (mw_M (rd, (pl, pc), (ra, up, f0, su, nn, wk), ki, (we, ow, fr, of), (oc, oa, ob, os)) K (sm, gr, rw, sd, h)) (fun r w' => r = some (.int (tm_I (sr_B nn ow) w)) ∧ ∃ rw : Nat → Int32, w' = (mw_M (rd, (pl, pc), (ra, up, f0, su, nn, wk), ki, (we, ow, fr, of), (oc, oa, ob, os)) K (sm, gr, rw, sd, h))) := by
  refine AM.of (loc := [.ref 0, .int (nI w)]) RX10 rfl (by decide +kernel) (Nat.le_of_ble_eq_true rfl) rfl ?_
  refine aw_iload_1 dX10_bestRing_0 ?_
  refine ak_iconst_0 dX10_bestRing_1 ?_
  refine ak_iconst_1 dX10_bestRing_2 ?_
  refine ce_X10_69 dX10_bestRing_3 (k_X10_within _ (nI w) 0 1) ?_
  have tail : AW 8 RX10 cX10_bestRing 2 (some .int) 18 (fun r w' => r = some (.int (tm_I (sr_B nn ow) w)) ∧ ∃ rw : Nat → Int32, w' = (mw_M (rd, (pl, pc), (ra, up, f0, su, nn, wk), ki, (we, ow, fr, of), (oc, oa, ob, os)) K (sm, gr, rw, sd, h))) 20 [.ref 0, .int (nI w)] [] (mw_M (rd, (pl, pc), (ra, up, f0, su, nn, wk), ki, (we, ow, fr, of), (oc, oa, ob, os)) K (sm, gr, rw, sd, h)) := by
    refine aw_aload_0 dX10_bestRing_20 ?_
    refine aw_iload_1 dX10_bestRing_21 ?_
    refine ca_X10_171 dX10_bestRing_22 rfl (k_X10_bestRingNow rd pl pc ra up f0 su nn wk ki we ow fr of oc oa ob os K sm gr rw sd h w hn hw how) (fun r w1 hc => ?_)
    refine aw_goto 30 dX10_bestRing_25 (by decide) ?_
    obtain ⟨rfl, a1, rfl⟩ := hc
    exact aw_iret dX10_bestRing_30 rfl (⟨rfl, a1, rfl⟩)
  by_cases q : (0 : Int32) ≤ nI w ∧ nI w ≤ 1
  · refine aw_if_ne 20 dX10_bestRing_6 (by decide) (fun _ => ?_) (fun hh => absurd hh (bI_n q))
    exact tail
  · refine aw_if_ne 20 dX10_bestRing_6 (by decide) (fun hh => absurd (bI_f q) hh) (fun _ => ?_)
    refine aw_iload_1 dX10_bestRing_9 ?_
    refine ak_bipush_10 dX10_bestRing_10 ?_
    refine ak_bipush_13 dX10_bestRing_12 ?_
    refine ce_X10_69 dX10_bestRing_14 (k_X10_within _ (nI w) 10 13) ?_
    refine aw_if_eq 28 dX10_bestRing_17 (by decide) (fun hh => absurd hh (bI_n (h0.resolve_left q))) (fun _ => ?_)
    exact tail
