/-! ===== rings ===== -/
/-- the best ring so far: how much all of it takes off, how many people, who -/
abbrev bs_T : Type := Nat × Nat × (Nat → Int32)
def cl_B : bs_T → (Nat → Nat) → Nat → Nat → bs_T
  | (bt, bl, be), r, len, m => if bt < m * len then (m * len, len, fun k => if k < len then nI (r k) else be k) else (bt, bl, be)
def fo_B {α : Type} (f : Nat → α → α) : Nat → Nat → α → α
  | _, 0, B => B
  | s, c + 1, B => fo_B f (s + 1) c (f s B)
/-- one is in the row up to a depth -/
def ir_B (r : Nat → Nat) (nx : Nat) : Nat → Bool
  | 0 => false
  | j + 1 => ir_B r nx j || decide (r j = nx)
def ex_N (nn : Nat) (ow : Nat → Nat) : Nat → (Nat → Nat) → Nat → Nat → Nat → bs_T → bs_T
  | 0, r, dep, len, least, B => cl_B B r len (min least (ow (5 * r (dep - 1) + r 0)))
  | m + 1, r, dep, len, least, B => fo_B (fun nx B => if ir_B r nx dep = true then B else ex_N nn ow m (va_up r dep nx) (dep + 1) len (min least (ow (5 * r (dep - 1) + nx))) B) (r 0 + 1) (nn - (r 0 + 1)) B
theorem fo_id {α : Type} {f : Nat → α → α} {B : α} (h : ∀ s, f s B = B) : ∀ c s, fo_B f s c B = B
  | 0, _ => rfl
  | c + 1, s => by rw [fo_B, h s]; exact fo_id h c (s + 1)
theorem ex_prune (nn : Nat) (ow : Nat → Nat) : ∀ (m : Nat) (r : Nat → Nat) (dep len least : Nat) (B : bs_T), least * len ≤ B.1 → ex_N nn ow m r dep len least B = B
  | 0, r, dep, len, least, (bt, bl, be), h => by
    have h1 : min least (ow (5 * r (dep - 1) + r 0)) * len ≤ least * len := Nat.mul_le_mul_right _ (Nat.min_le_left _ _)
    exact if_neg (by have h2 : least * len ≤ bt := h; omega)
  | m + 1, r, dep, len, least, B, h => by
    refine fo_id (fun s => ?_) _ _
    by_cases q : ir_B r s dep = true
    · rw [if_pos q]
    · rw [if_neg q]
      exact ex_prune nn ow m _ _ _ _ _ (Nat.le_trans (Nat.mul_le_mul_right _ (Nat.min_le_left _ _)) h)
def ok_bs (B : bs_T) : Prop := B.1 ≤ 40000 ∧ B.2.1 ≤ 4
theorem ok_cl {B : bs_T} (h : ok_bs B) (r : Nat → Nat) {len m : Nat} (hl : len ≤ 4) (hm : m ≤ 9999) : ok_bs (cl_B B r len m) := by
  obtain ⟨bt, bl, be⟩ := B
  have h2 : m * len ≤ 9999 * 4 := Nat.mul_le_mul hm hl
  by_cases q : bt < m * len
  · rw [show cl_B (bt, bl, be) r len m = (m * len, len, fun k => if k < len then nI (r k) else be k) from if_pos q]
    exact ⟨by show m * len ≤ 40000; omega, hl⟩
  · rw [show cl_B (bt, bl, be) r len m = (bt, bl, be) from if_neg q]
    exact h
theorem fo_P {α : Type} {P : α → Prop} {f : Nat → α → α} (h : ∀ s B, P B → P (f s B)) : ∀ (c s : Nat) {B : α}, P B → P (fo_B f s c B)
  | 0, _, _, hB => hB
  | c + 1, s, _, hB => fo_P h c (s + 1) (h s _ hB)
theorem ok_ex (nn : Nat) (ow : Nat → Nat) : ∀ (m : Nat) (r : Nat → Nat) (dep len least : Nat) {B : bs_T}, len ≤ 4 → least ≤ 9999 → ok_bs B → ok_bs (ex_N nn ow m r dep len least B)
  | 0, r, dep, len, least, B, h1, h2, h => ok_cl h r h1 (by omega)
  | m + 1, r, dep, len, least, B, h1, h2, h => by
    refine fo_P (fun s B hB => ?_) _ _ h
    by_cases q : ir_B r s dep = true
    · rw [if_pos q]; exact hB
    · rw [if_neg q]; exact ok_ex nn ow m _ _ _ _ h1 (by omega) hB
theorem k_X6_close (gg : Nat × Int32) (P : pg_T) (t0 t1 t2 : tw_T) (o0 o1 : of_T) (rw : Nat → Int32) (xs : (Nat → Int32) × (Nat → Int32)) (xa : Int32 × Int32) (sd : Int32) (rk : Nat → Int32) (bt bl : Nat) (be : Nat → Int32) (r : Nat → Nat) (len m : Nat) (hB : bt ≤ 40000) (hl : len ≤ 4) (hm : m ≤ 9999) (hr : ∀ k, k < len → rw k = nI (r k)) : AM 1 yX6_close cX6_close 3 none [.ref 32, .int (nI len), .int (nI m)] (cw_C gg P t0 t1 t2 o0 o1 ((rw, be, nI bl, nI bt), xs, xa, sd, rk)) (ac_R none (cw_C gg P t0 t1 t2 o0 o1 ((rw, (cl_B (bt, bl, be) r len m).2.2, nI (cl_B (bt, bl, be) r len m).2.1, nI (cl_B (bt, bl, be) r len m).1), xs, xa, sd, rk))) := by
  have h2 : m * len ≤ 9999 * 4 := Nat.mul_le_mul hm hl
  have cl0 : (nI 0).toNatClampNeg = 0 := nI_clamp (by decide)
  have cll : (nI len).toNatClampNeg = len := nI_clamp (show len < 2 ^ 31 by omega)
  refine AM.of (loc := [.ref 32, .int (nI len), .int (nI m)]) RX6 rfl (by decide +kernel) (Nat.le_of_ble_eq_true rfl) rfl ?_
  refine aw_iload_2 dX6_close_0 ?_
  refine aw_iload_1 dX6_close_1 ?_
  refine aw_imulN dX6_close_2 ?_
  refine aw_aload_0 dX6_close_3 ?_
  refine gf_X6_22 dX6_close_4 rfl rfl ?_
  refine aw_icmp_leN 36 dX6_close_7 (by decide) (by omega) (by omega) (fun h1 => ?_) (fun h1 => ?_)
  · rw [show cl_B (bt, bl, be) r len m = (bt, bl, be) from if_neg (by omega)]
    exact aw_vret dX6_close_36 rfl (⟨rfl, rfl⟩)
  rw [show cl_B (bt, bl, be) r len m = (m * len, len, fun k => if k < len then nI (r k) else be k) from if_pos h1]
  refine aw_aload_0 dX6_close_10 ?_
  refine aw_iload_2 dX6_close_11 ?_
  refine aw_iload_1 dX6_close_12 ?_
  refine aw_imulN dX6_close_13 ?_
  refine pf_X6_22 dX6_close_14 rfl (Nat.le_of_ble_eq_true rfl) ?_
  refine aw_w cs_32_3 ?_
  refine aw_aload_0 dX6_close_17 ?_
  refine aw_iload_1 dX6_close_18 ?_
  refine pf_X6_18 dX6_close_19 rfl (Nat.le_of_ble_eq_true rfl) ?_
  refine aw_w cs_32_2 ?_
  refine aw_aload_0 dX6_close_22 ?_
  refine gf_X6_9 dX6_close_23 rfl rfl ?_
  refine akN_iconst_0 dX6_close_26 ?_
  refine aw_aload_0 dX6_close_27 ?_
  refine gf_X6_15 dX6_close_28 rfl rfl ?_
  refine akN_iconst_0 dX6_close_31 ?_
  refine aw_iload_1 dX6_close_32 ?_
  refine aw_copy gq_531 dX6_close_33 rfl rfl (nI_pos (by decide)) (nI_pos (by decide)) (nI_pos (show len < 2 ^ 31 by omega)) (by rw [cl0, cll]; omega) (by rw [cl0, cll]; omega) (Nat.le_of_ble_eq_true rfl) (by decide) ?_
  refine aw_w cs_34 ?_
  refine aw_arr (id := 34) (g := fun k => if k < len then nI (r k) else be k) rfl (fun k hk => ?_) ?_
  · rw [cl0, cll]
    unfold va_cpy
    by_cases q : k < len
    · rw [if_pos ⟨Nat.zero_le _, by omega⟩, if_pos q, show 0 + (k - 0) = k by omega, hr k q]
    · rw [if_neg (by omega), if_neg q]
  refine aw_w cs_34 ?_
  exact aw_vret dX6_close_36 rfl (⟨rfl, rfl⟩)
theorem k_X6_isInRow (gg : Nat × Int32) (P : pg_T) (t0 t1 t2 : tw_T) (o0 o1 : of_T) (rw be : Nat → Int32) (bl bt : Int32) (xs : (Nat → Int32) × (Nat → Int32)) (xa : Int32 × Int32) (sd : Int32) (rk : Nat → Int32) (r : Nat → Nat) (nx dep : Nat) (hd : dep ≤ 4) (hnx : nx < 5) (hr5 : ∀ k, r k < 5) (hr : ∀ k, k < dep → rw k = nI (r k)) : AM 1 yX6_isInRow cX6_isInRow 4 (some .boolean) [.ref 32, .int (nI nx), .int (nI dep)] (cw_C gg P t0 t1 t2 o0 o1 ((rw, be, bl, bt), xs, xa, sd, rk)) (ac_R (some (.int (bI (ir_B r nx dep = true)))) (cw_C gg P t0 t1 t2 o0 o1 ((rw, be, bl, bt), xs, xa, sd, rk))) := by
  have mono : ∀ i j, i ≤ j → ir_B r nx i = true → ir_B r nx j = true := by
    intro i j hij h
    induction j with
    | zero => obtain rfl : i = 0 := by omega
              exact h
    | succ j ih =>
      by_cases q : i = j + 1
      · subst q; exact h
      · unfold ir_B; rw [ih (by omega)]; rfl
  refine AM.of (loc := [.ref 32, .int (nI nx), .int (nI dep), .null]) RX6 rfl (by decide +kernel) (Nat.le_of_ble_eq_true rfl) rfl ?_
  refine akN_iconst_0 dX6_isInRow_0 ?_
  refine aw_istore_3 dX6_isInRow_1 rfl (Nat.le_of_ble_eq_true rfl) ?_
  have loop : ∀ k i, i + k = dep → ir_B r nx i = false → AW 1 RX6 cX6_isInRow 4 (some .boolean) 41 (ac_R (some (.int (bI (ir_B r nx dep = true)))) (cw_C gg P t0 t1 t2 o0 o1 ((rw, be, bl, bt), xs, xa, sd, rk))) 2 [.ref 32, .int (nI nx), .int (nI dep), .int (nI i)] [] (cw_C gg P t0 t1 t2 o0 o1 ((rw, be, bl, bt), xs, xa, sd, rk)) := by
    intro k
    induction k with
    | zero =>
      intro i hi hf
      obtain rfl : i = dep := by omega
      refine aw_iload_3 dX6_isInRow_2 ?_
      refine aw_iload_2 dX6_isInRow_3 ?_
      refine aw_icmp_geN 25 dX6_isInRow_4 (by decide) (by omega) (by omega) (fun _ => ?_) (fun hh => absurd hh (by omega))
      refine ak_iconst_0 dX6_isInRow_25 ?_
      exact aw_zret dX6_isInRow_26 rfl (rfl) (⟨by rw [bI_f (by rw [hf]; decide)], rfl⟩)
    | succ k ih =>
      intro i hi hf
      have h5 := hr5 i
      refine aw_iload_3 dX6_isInRow_2 ?_
      refine aw_iload_2 dX6_isInRow_3 ?_
      refine aw_icmp_geN 25 dX6_isInRow_4 (by decide) (by omega) (by omega) (fun hh => absurd hh (by omega)) (fun _ => ?_)
      refine aw_aload_0 dX6_isInRow_7 ?_
      refine gf_X6_9 dX6_isInRow_8 rfl rfl ?_
      refine aw_iload_3 dX6_isInRow_11 ?_
      refine aw_ialdI dX6_isInRow_12 rfl (by omega) ?_
      refine aw_topi (hr i (by omega)) ?_
      refine aw_iload_1 dX6_isInRow_13 ?_
      refine aw_icmp_neN 19 dX6_isInRow_14 (by decide) (by omega) (by omega) (fun q => ?_) (fun q => ?_)
      · refine aw_iincN_3 dX6_isInRow_19 rfl (Nat.le_of_ble_eq_true rfl) ?_
        refine aw_goto 2 dX6_isInRow_22 (by decide) ?_
        exact ih (i + 1) (by omega) (by unfold ir_B; rw [hf, decide_eq_false q]; rfl)
      · refine ak_iconst_1 dX6_isInRow_17 ?_
        exact aw_zret dX6_isInRow_18 rfl (rfl) (⟨by rw [bI_t (mono (i + 1) dep (by omega) (by unfold ir_B; rw [decide_eq_true q]; simp))], rfl⟩)
  exact loop dep 0 (by omega) rfl
theorem k_X6_extend (gg : Nat × Int32) (P : pg_T) (ta tb : tw_T) (o0 o1 : of_T) (xs : (Nat → Int32) × (Nat → Int32)) (xa : Int32 × Int32) (sd : Int32) (rk : Nat → Int32) (ra up f0 su nn : Nat) (wk : Int32) (ki we ow fr of : Nat → Nat) (hn : nn ≤ 5) (how : ∀ k, ow k ≤ 9999) (len : Nat) (hlen : len ≤ 4) : ∀ (m : Nat) (rw : Nat → Int32) (r : Nat → Nat) (dep least : Nat) (bt bl : Nat) (be : Nat → Int32), dep + m = len → 0 < dep → least ≤ 9999 → ok_bs (bt, bl, be) → (∀ k, r k < 5) → (∀ k, k < dep → rw k = nI (r k)) → 
    AM (m + 2) yX6_extend cX6_extend 8 none [.ref 32, .ref 3, .int (nI dep), .int (nI len), .int (nI least)] (cw_C gg P (ra, up, f0, su, nn, wk, ki, we, ow, fr, of) ta tb o0 o1 ((rw, be, nI bl, nI bt), xs, xa, sd, rk)) (fun res w' => res = none ∧ ∃ rw2 : Nat → Int32, (∀ k, k < dep → rw2 k = nI (r k)) ∧ w' = cw_C gg P (ra, up, f0, su, nn, wk, ki, we, ow, fr, of) ta tb o0 o1 ((rw2, (ex_N nn ow m r dep len least (bt, bl, be)).2.2, nI (ex_N nn ow m r dep len least (bt, bl, be)).2.1, nI (ex_N nn ow m r dep len least (bt, bl, be)).1), xs, xa, sd, rk)) := by
  intro m
  induction m with
  | zero =>
    intro rw r dep least bt bl be hdl hd0 hle hB hr5 hr
    obtain rfl : dep = len := by omega
    have h1 := hr5 (dep - 1)
    have h2 := hr5 0
    have h3 := how (5 * r (dep - 1) + r 0)
    have hB1 : bt ≤ 40000 := hB.1
    refine AM.of (loc := [.ref 32, .ref 3, .int (nI dep), .int (nI dep), .int (nI least), .null, .null, .null]) RX6 rfl (by decide +kernel) (Nat.le_of_ble_eq_true rfl) rfl ?_
    refine aw_aload_0 dX6_extend_0 ?_
    refine gf_X6_9 dX6_extend_1 rfl rfl ?_
    refine aw_iload_2 dX6_extend_4 ?_
    refine akN_iconst_1 dX6_extend_5 ?_
    refine aw_isubN dX6_extend_6 hd0 ?_
    refine aw_ialdI dX6_extend_7 rfl (by omega) ?_
    refine aw_topi (hr (dep - 1) (by omega)) ?_
    refine aw_istore_5 dX6_extend_8 rfl (Nat.le_of_ble_eq_true rfl) ?_
    refine aw_iload_2 dX6_extend_10 ?_
    refine aw_iload_3 dX6_extend_11 ?_
    refine aw_icmp_ltN 42 dX6_extend_12 (by decide) (by omega) (by omega) (fun hh => absurd hh (by omega)) (fun _ => ?_)
    refine aw_aload_0 dX6_extend_15 ?_
    refine aw_iload_3 dX6_extend_16 ?_
    refine aw_iload_4 dX6_extend_17 ?_
    refine aw_aload_1 dX6_extend_19 ?_
    refine gf_X6_34 dX6_extend_20 rfl rfl ?_
    refine aw_iload_5 dX6_extend_23 ?_
    refine aw_aload_0 dX6_extend_25 ?_
    refine gf_X6_9 dX6_extend_26 rfl rfl ?_
    refine akN_iconst_0 dX6_extend_29 ?_
    refine aw_ialdI dX6_extend_30 rfl (by omega) ?_
    refine aw_topi (hr 0 hd0) ?_
    refine ce_X6_37 dX6_extend_31 (k_X9_pairOf _ (r (dep - 1)) (r 0)) ?_ (by omega)
    refine aw_ialdN dX6_extend_34 rfl (by omega) ?_
    refine aw_minN gq_526 dX6_extend_35 (Nat.le_of_ble_eq_true rfl) (by omega) (by omega) (by omega) ?_
    refine ce_X6_46 dX6_extend_38 rfl (k_X6_close gg P _ ta tb o0 o1 rw xs xa sd rk bt bl be r dep (min least (ow (5 * r (dep - 1) + r 0))) hB1 hlen (by omega) hr) ?_ (by omega)
    exact aw_vret dX6_extend_41 rfl (⟨rfl, rw, hr, rfl⟩)
  | succ m ih =>
    intro rw r dep least bt bl be hdl hd0 hle hB hr5 hr
    have h1 := hr5 (dep - 1)
    have h2 := hr5 0
    refine AM.of (loc := [.ref 32, .ref 3, .int (nI dep), .int (nI len), .int (nI least), .null, .null, .null]) RX6 rfl (by decide +kernel) (Nat.le_of_ble_eq_true rfl) rfl ?_
    refine aw_aload_0 dX6_extend_0 ?_
    refine gf_X6_9 dX6_extend_1 rfl rfl ?_
    refine aw_iload_2 dX6_extend_4 ?_
    refine akN_iconst_1 dX6_extend_5 ?_
    refine aw_isubN dX6_extend_6 hd0 ?_
    refine aw_ialdI dX6_extend_7 rfl (by omega) ?_
    refine aw_topi (hr (dep - 1) (by omega)) ?_
    refine aw_istore_5 dX6_extend_8 rfl (Nat.le_of_ble_eq_true rfl) ?_
    refine aw_iload_2 dX6_extend_10 ?_
    refine aw_iload_3 dX6_extend_11 ?_
    refine aw_icmp_ltN 42 dX6_extend_12 (by decide) (by omega) (by omega) (fun _ => ?_) (fun hh => absurd hh (by omega))
    refine aw_aload_0 dX6_extend_42 ?_
    refine gf_X6_9 dX6_extend_43 rfl rfl ?_
    refine akN_iconst_0 dX6_extend_46 ?_
    refine aw_ialdI dX6_extend_47 rfl (by omega) ?_
    refine aw_topi (hr 0 hd0) ?_
    refine akN_iconst_1 dX6_extend_48 ?_
    refine aw_iaddN dX6_extend_49 ?_
    refine aw_istore_6 dX6_extend_50 rfl (Nat.le_of_ble_eq_true rfl) ?_
    have loop : ∀ k nx, nn - nx = k → r 0 < nx → nx ≤ 5 → ∀ (rw2 : Nat → Int32) (bt2 bl2 : Nat) (be2 : Nat → Int32) (jk : Value), (∀ k, k < dep → rw2 k = nI (r k)) → ok_bs (bt2, bl2, be2) → fo_B (fun nx B => if ir_B r nx dep = true then B else ex_N nn ow m (va_up r dep nx) (dep + 1) len (min least (ow (5 * r (dep - 1) + nx))) B) nx k (bt2, bl2, be2) = ex_N nn ow (m + 1) r dep len least (bt, bl, be) → AW (m + 1 + 2) RX6 cX6_extend 8 none 41 (fun res w' => res = none ∧ ∃ rw2 : Nat → Int32, (∀ k, k < dep → rw2 k = nI (r k)) ∧ w' = cw_C gg P (ra, up, f0, su, nn, wk, ki, we, ow, fr, of) ta tb o0 o1 ((rw2, (ex_N nn ow (m + 1) r dep len least (bt, bl, be)).2.2, nI (ex_N nn ow (m + 1) r dep len least (bt, bl, be)).2.1, nI (ex_N nn ow (m + 1) r dep len least (bt, bl, be)).1), xs, xa, sd, rk)) 52 [.ref 32, .ref 3, .int (nI dep), .int (nI len), .int (nI least), .int (nI (r (dep - 1))), .int (nI nx), jk] [] (cw_C gg P (ra, up, f0, su, nn, wk, ki, we, ow, fr, of) ta tb o0 o1 ((rw2, be2, nI bl2, nI bt2), xs, xa, sd, rk)) := by
      intro k
      induction k with
      | zero =>
        intro nx hk h0 hx5 rw2 bt2 bl2 be2 jk hr2 hB2 he
        refine aw_iload_6 dX6_extend_52 ?_
        refine aw_aload_1 dX6_extend_54 ?_
        refine gf_X6_25 dX6_extend_55 rfl rfl ?_
        refine aw_icmp_geN 126 dX6_extend_58 (by decide) (by omega) (by omega) (fun _ => ?_) (fun hh => absurd hh (by omega))
        exact aw_vret dX6_extend_126 rfl (⟨rfl, rw2, hr2, by rw [← he]; rfl⟩)
      | succ k ihk =>
        intro nx hk h0 hx5 rw2 bt2 bl2 be2 jk hr2 hB2 he
        have h3 := how (5 * r (dep - 1) + nx)
        have hB1 : bt2 ≤ 40000 := hB2.1
        have hm2 : min least (ow (5 * r (dep - 1) + nx)) * len ≤ 9999 * 4 := Nat.mul_le_mul (by omega) hlen
        rw [fo_B] at he
        refine aw_iload_6 dX6_extend_52 ?_
        refine aw_aload_1 dX6_extend_54 ?_
        refine gf_X6_25 dX6_extend_55 rfl rfl ?_
        refine aw_icmp_geN 126 dX6_extend_58 (by decide) (by omega) (by omega) (fun hh => absurd hh (by omega)) (fun _ => ?_)
        refine aw_iload_4 dX6_extend_61 ?_
        refine aw_aload_1 dX6_extend_63 ?_
        refine gf_X6_34 dX6_extend_64 rfl rfl ?_
        refine aw_iload_5 dX6_extend_67 ?_
        refine aw_iload_6 dX6_extend_69 ?_
        refine ce_X6_37 dX6_extend_71 (k_X9_pairOf _ (r (dep - 1)) nx) ?_ (by omega)
        refine aw_ialdN dX6_extend_74 rfl (by omega) ?_
        refine aw_minN gq_526 dX6_extend_75 (Nat.le_of_ble_eq_true rfl) (by omega) (by omega) (by omega) ?_
        refine aw_istore_7 dX6_extend_78 rfl (Nat.le_of_ble_eq_true rfl) ?_
        refine aw_iload_7 dX6_extend_80 ?_
        refine aw_iload_3 dX6_extend_82 ?_
        refine aw_imulN dX6_extend_83 ?_
        refine aw_aload_0 dX6_extend_84 ?_
        refine gf_X6_22 dX6_extend_85 rfl rfl ?_
        refine aw_icmp_leN 120 dX6_extend_88 (by decide) (by omega) (by omega) (fun q => ?_) (fun q => ?_)
        · refine aw_iincN_6 dX6_extend_120 rfl (Nat.le_of_ble_eq_true rfl) ?_
          refine aw_goto 52 dX6_extend_123 (by decide) ?_
          refine ihk (nx + 1) (by omega) (by omega) (by omega) rw2 bt2 bl2 be2 _ hr2 hB2 ?_
          rw [← he]
          congr 1
          by_cases q2 : ir_B r nx dep = true
          · rw [if_pos q2]
          · rw [if_neg q2, ex_prune nn ow m _ _ _ _ _ q]
        refine aw_aload_0 dX6_extend_91 ?_
        refine aw_iload_6 dX6_extend_92 ?_
        refine aw_iload_2 dX6_extend_94 ?_
        refine ce_X6_50 dX6_extend_95 rfl (k_X6_isInRow gg P _ ta tb o0 o1 rw2 be2 (nI bl2) (nI bt2) xs xa sd rk r nx dep (by omega) (by omega) hr5 hr2) ?_ (by omega)
        by_cases q2 : ir_B r nx dep = true
        · rw [if_pos q2] at he
          refine aw_if_ne 120 dX6_extend_98 (by decide) (fun _ => ?_) (fun hh => absurd hh (bI_n q2))
          refine aw_iincN_6 dX6_extend_120 rfl (Nat.le_of_ble_eq_true rfl) ?_
          refine aw_goto 52 dX6_extend_123 (by decide) ?_
          exact ihk (nx + 1) (by omega) (by omega) (by omega) rw2 bt2 bl2 be2 _ hr2 hB2 he
        rw [if_neg q2] at he
        refine aw_if_ne 120 dX6_extend_98 (by decide) (fun hh => absurd (bI_f q2) hh) (fun _ => ?_)
        refine aw_aload_0 dX6_extend_101 ?_
        refine gf_X6_9 dX6_extend_102 rfl rfl ?_
        refine aw_iload_2 dX6_extend_105 ?_
        refine aw_iload_6 dX6_extend_106 ?_
        refine aw_iastI dX6_extend_108 rfl (by omega) ?_
        refine aw_w cs_33 ?_
        refine aw_aload_0 dX6_extend_109 ?_
        refine aw_aload_1 dX6_extend_110 ?_
        refine aw_iload_2 dX6_extend_111 ?_
        refine akN_iconst_1 dX6_extend_112 ?_
        refine aw_iaddN dX6_extend_113 ?_
        refine aw_iload_3 dX6_extend_114 ?_
        refine aw_iload_7 dX6_extend_115 ?_
        refine ca_X6_30 dX6_extend_117 rfl (ih (upd rw2 dep (nI nx)) (va_up r dep nx) (dep + 1) (min least (ow (5 * r (dep - 1) + nx))) bt2 bl2 be2 (by omega) (by omega) (by omega) hB2 (fun k => by unfold va_up; split; omega; exact hr5 k) (fun k hk => ?_)) (fun res w1 hc => ?_) (by omega)
        · by_cases z : k = dep
          · subst z
            rw [pk_us, va_up, if_pos rfl]
          · rw [pk_un z, va_up, if_neg z]
            exact hr2 k (by omega)
        obtain ⟨rfl, rw3, hr3, rfl⟩ := hc
        refine aw_iincN_6 dX6_extend_120 rfl (Nat.le_of_ble_eq_true rfl) ?_
        refine aw_goto 52 dX6_extend_123 (by decide) ?_
        refine ihk (nx + 1) (by omega) (by omega) (by omega) rw3 _ _ _ _ (fun k hk => ?_) (ok_ex nn ow m _ _ _ _ hlen (by omega) hB2) he
        rw [hr3 k (by omega), va_up, if_neg (by omega)]
    exact loop (nn - (r 0 + 1)) (r 0 + 1) rfl (by omega) (by omega) rw bt bl be .null hr hB rfl
/-- the best ring -/
def se_B (nn : Nat) (ow : Nat → Nat) (be : Nat → Int32) : bs_T := fo_B (fun len B => fo_B (fun first B => ex_N nn ow (len - 1) (fun _ => first) 1 len 9999 B) 0 nn B) 2 3 (0, 0, be)
theorem ok_se (nn : Nat) (ow : Nat → Nat) (be : Nat → Int32) : ok_bs (se_B nn ow be) := by
  unfold se_B
  have h0 : ok_bs (0, 0, be) := ⟨by show 0 ≤ 40000; decide, by show 0 ≤ 4; decide⟩
  have step : ∀ len B, len ≤ 4 → ok_bs B → ok_bs (fo_B (fun first B => ex_N nn ow (len - 1) (fun _ => first) 1 len 9999 B) 0 nn B) := fun len B hl hB => fo_P (fun s B hB => ok_ex nn ow _ _ _ _ _ hl (by omega) hB) _ _ hB
  exact step 4 _ (by omega) (step 3 _ (by omega) (step 2 _ (by omega) h0))
theorem k_X6_search (gg : Nat × Int32) (P : pg_T) (ta tb : tw_T) (o0 o1 : of_T) (rw be : Nat → Int32) (bl bt : Int32) (xs : (Nat → Int32) × (Nat → Int32)) (xa : Int32 × Int32) (sd : Int32) (rk : Nat → Int32) (ra up f0 su nn : Nat) (wk : Int32) (ki we ow fr of : Nat → Nat) (hn : nn ≤ 5) (how : ∀ k, ow k ≤ 9999) : AM 6 yX6_search cX6_search 4 none [.ref 32, .ref 3] (cw_C gg P (ra, up, f0, su, nn, wk, ki, we, ow, fr, of) ta tb o0 o1 ((rw, be, bl, bt), xs, xa, sd, rk)) (fun res w' => res = none ∧ ∃ rw2 : Nat → Int32, w' = cw_C gg P (ra, up, f0, su, nn, wk, ki, we, ow, fr, of) ta tb o0 o1 ((rw2, (se_B nn ow be).2.2, nI (se_B nn ow be).2.1, nI (se_B nn ow be).1), xs, xa, sd, rk)) := by
  refine AM.of (loc := [.ref 32, .ref 3, .null, .null]) RX6 rfl (by decide +kernel) (Nat.le_of_ble_eq_true rfl) rfl ?_
  refine aw_aload_0 dX6_search_0 ?_
  refine akN_iconst_0 dX6_search_1 ?_
  refine pf_X6_18 dX6_search_2 rfl (Nat.le_of_ble_eq_true rfl) ?_
  refine aw_w cs_32_2 ?_
  refine aw_aload_0 dX6_search_5 ?_
  refine akN_iconst_0 dX6_search_6 ?_
  refine pf_X6_22 dX6_search_7 rfl (Nat.le_of_ble_eq_true rfl) ?_
  refine aw_w cs_32_3 ?_
  refine akN_iconst_2 dX6_search_10 ?_
  refine aw_istore_2 dX6_search_11 rfl (Nat.le_of_ble_eq_true rfl) ?_
  have outer : ∀ k len, len + k = 5 → 2 ≤ len → ∀ (rw2 : Nat → Int32) (B : bs_T) (jk : Value), ok_bs B → fo_B (fun len B => fo_B (fun first B => ex_N nn ow (len - 1) (fun _ => first) 1 len 9999 B) 0 nn B) len k B = se_B nn ow be → AW 6 RX6 cX6_search 4 none 41 (fun res w' => res = none ∧ ∃ rw2 : Nat → Int32, w' = cw_C gg P (ra, up, f0, su, nn, wk, ki, we, ow, fr, of) ta tb o0 o1 ((rw2, (se_B nn ow be).2.2, nI (se_B nn ow be).2.1, nI (se_B nn ow be).1), xs, xa, sd, rk)) 12 [.ref 32, .ref 3, .int (nI len), jk] [] (cw_C gg P (ra, up, f0, su, nn, wk, ki, we, ow, fr, of) ta tb o0 o1 ((rw2, B.2.2, nI B.2.1, nI B.1), xs, xa, sd, rk)) := by
    intro k
    induction k with
    | zero =>
      intro len hk h2 rw2 B jk hB he
      refine aw_iload_2 dX6_search_12 ?_
      refine akN_iconst_4 dX6_search_13 ?_
      refine aw_icmp_gtN 56 dX6_search_14 (by decide) (by omega) (by omega) (fun _ => ?_) (fun hh => absurd hh (by omega))
      exact aw_vret dX6_search_56 rfl (⟨rfl, rw2, by rw [← he]; rfl⟩)
    | succ k ih =>
      intro len hk h2 rw2 B jk hB he
      rw [fo_B] at he
      refine aw_iload_2 dX6_search_12 ?_
      refine akN_iconst_4 dX6_search_13 ?_
      refine aw_icmp_gtN 56 dX6_search_14 (by decide) (by omega) (by omega) (fun hh => absurd hh (by omega)) (fun _ => ?_)
      refine akN_iconst_0 dX6_search_17 ?_
      refine aw_istore_3 dX6_search_18 rfl (Nat.le_of_ble_eq_true rfl) ?_
      have inner : ∀ j first, first + j = nn → ∀ (rw2 : Nat → Int32) (B2 : bs_T), ok_bs B2 → fo_B (fun first B => ex_N nn ow (len - 1) (fun _ => first) 1 len 9999 B) first j B2 = fo_B (fun first B => ex_N nn ow (len - 1) (fun _ => first) 1 len 9999 B) 0 nn B → AW 6 RX6 cX6_search 4 none 41 (fun res w' => res = none ∧ ∃ rw2 : Nat → Int32, w' = cw_C gg P (ra, up, f0, su, nn, wk, ki, we, ow, fr, of) ta tb o0 o1 ((rw2, (se_B nn ow be).2.2, nI (se_B nn ow be).2.1, nI (se_B nn ow be).1), xs, xa, sd, rk)) 19 [.ref 32, .ref 3, .int (nI len), .int (nI first)] [] (cw_C gg P (ra, up, f0, su, nn, wk, ki, we, ow, fr, of) ta tb o0 o1 ((rw2, B2.2.2, nI B2.2.1, nI B2.1), xs, xa, sd, rk)) := by
        intro j
        induction j with
        | zero =>
          intro first hj rw2 B2 hB2 he2
          refine aw_iload_3 dX6_search_19 ?_
          refine aw_aload_1 dX6_search_20 ?_
          refine gf_X6_25 dX6_search_21 rfl rfl ?_
          refine aw_icmp_geN 50 dX6_search_24 (by decide) (by omega) (by omega) (fun _ => ?_) (fun hh => absurd hh (by omega))
          refine aw_iincN_2 dX6_search_50 rfl (Nat.le_of_ble_eq_true rfl) ?_
          refine aw_goto 12 dX6_search_53 (by decide) ?_
          refine ih (len + 1) (by omega) (by omega) rw2 B2 _ hB2 ?_
          rw [← he, ← he2]
          rfl
        | succ j ihj =>
          intro first hj rw2 B2 hB2 he2
          rw [fo_B] at he2
          refine aw_iload_3 dX6_search_19 ?_
          refine aw_aload_1 dX6_search_20 ?_
          refine gf_X6_25 dX6_search_21 rfl rfl ?_
          refine aw_icmp_geN 50 dX6_search_24 (by decide) (by omega) (by omega) (fun hh => absurd hh (by omega)) (fun _ => ?_)
          refine aw_aload_0 dX6_search_27 ?_
          refine gf_X6_9 dX6_search_28 rfl rfl ?_
          refine akN_iconst_0 dX6_search_31 ?_
          refine aw_iload_3 dX6_search_32 ?_
          refine aw_iastI dX6_search_33 rfl (by omega) ?_
          refine aw_w cs_33 ?_
          refine aw_aload_0 dX6_search_34 ?_
          refine aw_aload_1 dX6_search_35 ?_
          refine akN_iconst_1 dX6_search_36 ?_
          refine aw_iload_2 dX6_search_37 ?_
          refine akN_sipush_9999 dX6_search_38 ?_
          refine ca_X6_30 dX6_search_41 rfl (k_X6_extend gg P ta tb o0 o1 xs xa sd rk ra up f0 su nn wk ki we ow fr of hn how len (by omega) (len - 1) (upd rw2 0 (nI first)) (fun _ => first) 1 9999 B2.1 B2.2.1 B2.2.2 (by omega) (by omega) (by omega) hB2 (fun _ => by omega) (fun k hk => ?_)) (fun res w1 hc => ?_) (by omega)
          · obtain rfl : k = 0 := by omega
            exact pk_us
          obtain ⟨rfl, rw3, hr3, rfl⟩ := hc
          refine aw_iincN_3 dX6_search_44 rfl (Nat.le_of_ble_eq_true rfl) ?_
          refine aw_goto 19 dX6_search_47 (by decide) ?_
          exact ihj (first + 1) (by omega) rw3 _ (ok_ex nn ow _ _ _ _ _ (by omega) (by omega) hB2) he2
      exact inner nn 0 (by omega) rw2 B hB rfl
  exact outer 3 2 (by omega) (by omega) rw (0, 0, be) .null ⟨by show 0 ≤ 40000; decide, by show 0 ≤ 4; decide⟩ rfl
/-- what is told of the best ring -/
def tl_I (B : bs_T) (wh : Nat) : Int32 := if wh = 0 then nI B.1 else if wh = 1 then nI B.2.1 else if wh - 10 < B.2.1 then B.2.2 (wh - 10) else -1
theorem k_X6_tell (gg : Nat × Int32) (P : pg_T) (t0 t1 t2 : tw_T) (o0 o1 : of_T) (rw : Nat → Int32) (xs : (Nat → Int32) × (Nat → Int32)) (xa : Int32 × Int32) (sd : Int32) (rk : Nat → Int32) (B : bs_T) (wh : Nat) (hB : ok_bs B) (hw : wh < 2 ∨ (10 ≤ wh ∧ wh < 14)) : AM 1 yX6_tell cX6_tell 3 (some .int) [.ref 32, .int (nI wh)] (cw_C gg P t0 t1 t2 o0 o1 ((rw, B.2.2, nI B.2.1, nI B.1), xs, xa, sd, rk)) (ac_R (some (.int (tl_I B wh))) (cw_C gg P t0 t1 t2 o0 o1 ((rw, B.2.2, nI B.2.1, nI B.1), xs, xa, sd, rk))) := by
  obtain ⟨hB1, hB2⟩ := hB
  refine AM.of (loc := [.ref 32, .int (nI wh), .null]) RX6 rfl (by decide +kernel) (Nat.le_of_ble_eq_true rfl) rfl ?_
  refine aw_iload_1 dX6_tell_0 ?_
  refine aw_if_neN 9 dX6_tell_1 (by decide) (by omega) (fun h1 => ?_) (fun h1 => ?_)
  · refine aw_iload_1 dX6_tell_9 ?_
    refine akN_iconst_1 dX6_tell_10 ?_
    refine aw_icmp_neN 19 dX6_tell_11 (by decide) (by omega) (by omega) (fun h2 => ?_) (fun h2 => ?_)
    · refine aw_iload_1 dX6_tell_19 ?_
      refine akN_bipush_10 dX6_tell_20 ?_
      refine aw_isubN dX6_tell_22 (by omega) ?_
      refine aw_istore_2 dX6_tell_23 rfl (Nat.le_of_ble_eq_true rfl) ?_
      refine aw_iload_2 dX6_tell_24 ?_
      refine aw_if_ltN 45 dX6_tell_25 (by decide) (by omega) (fun hh => absurd hh (by omega)) (fun _ => ?_)
      refine aw_iload_2 dX6_tell_28 ?_
      refine aw_aload_0 dX6_tell_29 ?_
      refine gf_X6_18 dX6_tell_30 rfl rfl ?_
      refine aw_icmp_geN 45 dX6_tell_33 (by decide) (by omega) (by omega) (fun h3 => ?_) (fun h3 => ?_)
      · refine ak_iconst_m1 dX6_tell_45 ?_
        exact aw_iret dX6_tell_46 rfl (⟨by rw [tl_I, if_neg h1, if_neg h2, if_neg (by omega)], rfl⟩)
      refine aw_aload_0 dX6_tell_36 ?_
      refine gf_X6_15 dX6_tell_37 rfl rfl ?_
      refine aw_iload_2 dX6_tell_40 ?_
      refine aw_ialdI dX6_tell_41 rfl (by omega) ?_
      refine aw_goto 46 dX6_tell_42 (by decide) ?_
      exact aw_iret dX6_tell_46 rfl (⟨by rw [tl_I, if_neg h1, if_neg h2, if_pos h3], rfl⟩)
    refine aw_aload_0 dX6_tell_14 ?_
    refine gf_X6_18 dX6_tell_15 rfl rfl ?_
    exact aw_iret dX6_tell_18 rfl (⟨by rw [tl_I, if_neg h1, if_pos h2], rfl⟩)
  refine aw_aload_0 dX6_tell_4 ?_
  refine gf_X6_22 dX6_tell_5 rfl rfl ?_
  exact aw_iret dX6_tell_8 rfl (⟨by rw [tl_I, if_pos h1], rfl⟩)
