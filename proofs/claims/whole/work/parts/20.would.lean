/-! ===== the class's calls: what would be ===== -/
theorem AM.wk {d : Nat} {y : MethodName} {cc : ByteArray} {mL : Nat} {rt : Option FieldType} {as : List Value} {w : List ac_T} {Po Po2 : Option Value → List ac_T → Prop} (h : AM d y cc mL rt as w Po) (hh : ∀ r w', Po r w' → Po2 r w') : AM d y cc mL rt as w Po2 := by
  intro l D cI cB ad sz p e ha hc hk s m args below hf hfit hP hK
  obtain ⟨k, o, h1, h2, h3, ⟨⟨r, w', q1, q2, q3⟩, q4⟩⟩ := h l D cI cB ad sz p e ha hc hk s m args below hf hfit hP hK
  exact ⟨k, o, h1, h2, h3, ⟨⟨r, w', q1, hh _ _ q2, q3⟩, q4⟩⟩
def it_T (t : tw_T) : Nat → tw_T
  | 0 => t
  | k + 1 => wk_T (it_T t k)
theorem ok_it {t : tw_T} (h : ok_T t) : ∀ k, ok_T (it_T t k)
  | 0 => h
  | k + 1 => ok_wk (ok_it h k)
def nt_T : tw_T → Nat → Int32
  | (_, _, _, _, nn, _, _, we, ow, _, _), p => nt_I nn we ow p
abbrev nn_T (t : tw_T) : Nat := t.2.2.2.2.1
theorem nn_wk (t : tw_T) : nn_T (wk_T t) = nn_T t := rfl
theorem nn_it (t : tw_T) : ∀ k, nn_T (it_T t k) = nn_T t
  | 0 => rfl
  | k + 1 => (nn_wk _).trans (nn_it t k)
/-- RUIN, of so many weeks -/
def rn_I (t : tw_T) (p : Nat) : Nat → Int32
  | 0 => -1
  | m + 1 => if rn_I t p m = -1 ∧ nt_T (it_T t m) p < 0 then nI m else rn_I t p m
def rk_F (t : tw_T) (m : Nat) : Nat → Int32 := fun k => if k < nn_T t then rn_I t k m else -1
theorem k_X9_noteRuined (g : Nat × Int32) (P : pg_T) (ta tb : tw_T) (o0 o1 : of_T) (xr : (Nat → Int32) × (Nat → Int32) × Int32 × Int32) (xs : (Nat → Int32) × (Nat → Int32)) (xa : Int32 × Int32) (sd : Int32) (rk : Nat → Int32) (ra up f0 su nn : Nat) (wk : Int32) (ki we ow fr of : Nat → Nat) (m : Nat) (hn : nn ≤ 5) : AM 5 yX9_noteRuined cX9_noteRuined 3 none [.ref 0, .int (nI m)] (cw_C g P ta tb (ra, up, f0, su, nn, wk, ki, we, ow, fr, of) o0 o1 (xr, xs, xa, sd, rk)) (ac_R none (cw_C g P ta tb (ra, up, f0, su, nn, wk, ki, we, ow, fr, of) o0 o1 (xr, xs, xa, sd, fun k => if k < nn ∧ rk k = -1 ∧ nt_I nn we ow k < 0 then nI m else rk k))) := by
  refine AM.of (loc := [.ref 0, .int (nI m), .null]) RX9 rfl (by decide +kernel) (Nat.le_of_ble_eq_true rfl) rfl ?_
  refine akN_iconst_0 dX9_noteRuined_0 ?_
  refine aw_istore_2 dX9_noteRuined_1 rfl (Nat.le_of_ble_eq_true rfl) ?_
  have loop : ∀ k i, i + k = nn → AW 5 RX9 cX9_noteRuined 3 none 41 (ac_R none (cw_C g P ta tb (ra, up, f0, su, nn, wk, ki, we, ow, fr, of) o0 o1 (xr, xs, xa, sd, fun k => if k < nn ∧ rk k = -1 ∧ nt_I nn we ow k < 0 then nI m else rk k))) 2 [.ref 0, .int (nI m), .int (nI i)] [] (cw_C g P ta tb (ra, up, f0, su, nn, wk, ki, we, ow, fr, of) o0 o1 (xr, xs, xa, sd, fun k => if k < i ∧ rk k = -1 ∧ nt_I nn we ow k < 0 then nI m else rk k)) := by
    intro k
    induction k with
    | zero =>
      intro i hi
      obtain rfl : i = nn := by omega
      refine aw_iload_2 dX9_noteRuined_2 ?_
      refine aw_aload_0 dX9_noteRuined_3 ?_
      refine gf_X9_36 dX9_noteRuined_4 rfl rfl ?_
      refine gf_X9_108 dX9_noteRuined_7 rfl rfl ?_
      refine aw_icmp_geN 47 dX9_noteRuined_10 (by decide) (by omega) (by omega) (fun _ => ?_) (fun hh => absurd hh (by omega))
      exact aw_vret dX9_noteRuined_47 rfl (⟨rfl, rfl⟩)
    | succ k ih =>
      intro i hi
      refine aw_iload_2 dX9_noteRuined_2 ?_
      refine aw_aload_0 dX9_noteRuined_3 ?_
      refine gf_X9_36 dX9_noteRuined_4 rfl rfl ?_
      refine gf_X9_108 dX9_noteRuined_7 rfl rfl ?_
      refine aw_icmp_geN 47 dX9_noteRuined_10 (by decide) (by omega) (by omega) (fun hh => absurd hh (by omega)) (fun _ => ?_)
      refine aw_aload_0 dX9_noteRuined_13 ?_
      refine gf_X9_67 dX9_noteRuined_14 rfl rfl ?_
      refine aw_iload_2 dX9_noteRuined_17 ?_
      refine aw_ialdI dX9_noteRuined_18 rfl (by omega) ?_
      refine aw_topi (show (if i < i ∧ rk i = -1 ∧ nt_I nn we ow i < 0 then nI m else rk i) = rk i from if_neg (fun q => Nat.lt_irrefl _ q.1)) ?_
      have keep : ¬ (rk i = -1 ∧ nt_I nn we ow i < 0) → (fun k => if k < i ∧ rk k = -1 ∧ nt_I nn we ow k < 0 then nI m else rk k) = (fun k => if k < i + 1 ∧ rk k = -1 ∧ nt_I nn we ow k < 0 then nI m else rk k) := by
        intro hno
        funext k
        by_cases e : k = i
        · subst e
          rw [if_neg (fun q => hno q.2), if_neg (fun q => hno q.2)]
        · by_cases q : k < i ∧ rk k = -1 ∧ nt_I nn we ow k < 0
          · rw [if_pos q, if_pos ⟨by omega, q.2⟩]
          · rw [if_neg q, if_neg (fun z => q ⟨by omega, z.2⟩)]
      refine ak_iconst_m1 dX9_noteRuined_19 ?_
      refine aw_icmp_ne 41 dX9_noteRuined_20 (by decide) (fun h1 => ?_) (fun h1 => ?_)
      · rw [keep (fun q => h1 q.1)]
        refine aw_iincN_2 dX9_noteRuined_41 rfl (Nat.le_of_ble_eq_true rfl) ?_
        refine aw_goto 2 dX9_noteRuined_44 (by decide) ?_
        exact ih (i + 1) (by omega)
      refine aw_aload_0 dX9_noteRuined_23 ?_
      refine gf_X9_36 dX9_noteRuined_24 rfl rfl ?_
      refine aw_iload_2 dX9_noteRuined_27 ?_
      refine ce_X9_134 dX9_noteRuined_28 rfl (k_X8_isRuined_2 g P ta tb o0 o1 _ ra up f0 su nn wk ki we ow fr of i hn (by omega)) ?_
      by_cases h2 : nt_I nn we ow i < 0
      · refine aw_if_eq 41 dX9_noteRuined_31 (by decide) (fun hh => absurd hh (bI_n h2)) (fun _ => ?_)
        refine aw_aload_0 dX9_noteRuined_34 ?_
        refine gf_X9_67 dX9_noteRuined_35 rfl rfl ?_
        refine aw_iload_2 dX9_noteRuined_38 ?_
        refine aw_iload_1 dX9_noteRuined_39 ?_
        refine aw_iastI dX9_noteRuined_40 rfl (by omega) ?_
        refine aw_w cs_40 ?_
        have e : upd (fun k => if k < i ∧ rk k = -1 ∧ nt_I nn we ow k < 0 then nI m else rk k) i (nI m) = (fun k => if k < i + 1 ∧ rk k = -1 ∧ nt_I nn we ow k < 0 then nI m else rk k) := by
          funext k
          by_cases e : k = i
          · subst e
            rw [pk_us, if_pos ⟨by omega, h1, h2⟩]
          · rw [pk_un e]
            by_cases q : k < i ∧ rk k = -1 ∧ nt_I nn we ow k < 0
            · rw [if_pos q, if_pos ⟨by omega, q.2⟩]
            · rw [if_neg q, if_neg (fun z => q ⟨by omega, z.2⟩)]
        rw [e]
        refine aw_iincN_2 dX9_noteRuined_41 rfl (Nat.le_of_ble_eq_true rfl) ?_
        refine aw_goto 2 dX9_noteRuined_44 (by decide) ?_
        exact ih (i + 1) (by omega)
      rw [keep (fun q => h2 q.2)]
      refine aw_if_eq 41 dX9_noteRuined_31 (by decide) (fun _ => ?_) (fun hh => absurd (bI_f h2) hh)
      refine aw_iincN_2 dX9_noteRuined_41 rfl (Nat.le_of_ble_eq_true rfl) ?_
      refine aw_goto 2 dX9_noteRuined_44 (by decide) ?_
      exact ih (i + 1) (by omega)
  refine aw_w ?_ (loop nn 0 (by omega))
  have e : (fun k => if k < 0 ∧ rk k = -1 ∧ nt_I nn we ow k < 0 then nI m else rk k) = rk := funext fun k => if_neg (fun q => Nat.not_lt_zero _ q.1)
  rw [e]
theorem rk_step (t : tw_T) (m : Nat) : (fun k => if k < nn_T (it_T t m) ∧ rk_F t m k = -1 ∧ nt_T (it_T t m) k < 0 then nI m else rk_F t m k) = rk_F t (m + 1) := by
  funext k
  rw [nn_it]
  unfold rk_F
  by_cases h : k < nn_T t
  · rw [if_pos h, if_pos h, rn_I]
    by_cases q : rn_I t k m = -1 ∧ nt_T (it_T t m) k < 0
    · rw [if_pos ⟨h, q⟩, if_pos q]
    · rw [if_neg (fun z => q z.2), if_neg q]
  · rw [if_neg h, if_neg h, if_neg (fun z => h z.1)]
theorem k_noteRuined_t (g : Nat × Int32) (P : pg_T) (ta tb t2 : tw_T) (o0 o1 : of_T) (xr : (Nat → Int32) × (Nat → Int32) × Int32 × Int32) (xs : (Nat → Int32) × (Nat → Int32)) (xa : Int32 × Int32) (sd : Int32) (rk : Nat → Int32) (m : Nat) (hn : nn_T t2 ≤ 5) : AM 5 yX9_noteRuined cX9_noteRuined 3 none [.ref 0, .int (nI m)] (cw_C g P ta tb t2 o0 o1 (xr, xs, xa, sd, rk)) (ac_R none (cw_C g P ta tb t2 o0 o1 (xr, xs, xa, sd, fun k => if k < nn_T t2 ∧ rk k = -1 ∧ nt_T t2 k < 0 then nI m else rk k))) := by
  obtain ⟨ra, up, f0, su, nn, wk, ki, we, ow, fr, of⟩ := t2
  exact k_X9_noteRuined g P ta tb o0 o1 xr xs xa sd rk ra up f0 su nn wk ki we ow fr of m hn
theorem k_passWeek_t (g : Nat × Int32) (P : pg_T) (ta tb t2 : tw_T) (o0 o1 : of_T) (x : sc_T) (hok : ok_T t2) : AM 3 yX8_passWeek cX8_passWeek 4 (some .int) [.ref 25] (cw_C g P ta tb t2 o0 o1 x) (fun r w' => (∃ v : Int32, r = some (.int v)) ∧ w' = cw_C g P ta tb (wk_T t2) o0 o1 x) := by
  obtain ⟨ra, up, f0, su, nn, wk, ki, we, ow, fr, of⟩ := t2
  have h := k_X8_passWeek_2 g P ta tb o0 o1 x ra up f0 su nn wk ki we ow fr of hok
  exact AM.wk h (fun r w' q => ⟨⟨_, q.1⟩, q.2⟩)
theorem k_X9_foreseeRuin (g : Nat × Int32) (P : pg_T) (t0 t1 t2 : tw_T) (o0 o1 : of_T) (xr : (Nat → Int32) × (Nat → Int32) × Int32 × Int32) (xs : (Nat → Int32) × (Nat → Int32)) (xa : Int32 × Int32) (sd : Int32) (rk : Nat → Int32) (hok : ok_T t0) : AM 7 yX9_foreseeRuin cX9_foreseeRuin 2 none [.ref 0] (cw_C g P t0 t1 t2 o0 o1 (xr, xs, xa, sd, rk)) (ac_R none (cw_C g P t0 t1 (it_T t0 40) o0 o1 (xr, xs, xa, sd, rk_F t0 41))) := by
  have hn : nn_T t0 ≤ 5 := by
    obtain ⟨ra, up, f0, su, nn, wk, ki, we, ow, fr, of⟩ := t0
    exact hok.2.2.2.2.1
  have hu : t0.2.1 ≤ 1 := by
    obtain ⟨ra, up, f0, su, nn, wk, ki, we, ow, fr, of⟩ := t0
    exact hok.2.1
  refine AM.of (loc := [.ref 0, .null]) RX9 rfl (by decide +kernel) (Nat.le_of_ble_eq_true rfl) rfl ?_
  refine aw_aload_0 dX9_foreseeRuin_0 ?_
  refine gf_X9_36 dX9_foreseeRuin_1 rfl rfl ?_
  refine aw_aload_0 dX9_foreseeRuin_4 ?_
  refine gf_X9_19 dX9_foreseeRuin_5 rfl rfl ?_
  refine ce_X9_241 dX9_foreseeRuin_8 rfl (k_X8_copyFrom_20 g P t1 o0 o1 _ t2.1 t2.2.1 t2.2.2.1 t2.2.2.2.1 t2.2.2.2.2.1 t2.2.2.2.2.2.1 t2.2.2.2.2.2.2.1 t2.2.2.2.2.2.2.2.1 t2.2.2.2.2.2.2.2.2.1 t2.2.2.2.2.2.2.2.2.2.1 t2.2.2.2.2.2.2.2.2.2.2 t0.1 t0.2.1 t0.2.2.1 t0.2.2.2.1 t0.2.2.2.2.1 t0.2.2.2.2.2.1 t0.2.2.2.2.2.2.1 t0.2.2.2.2.2.2.2.1 t0.2.2.2.2.2.2.2.2.1 t0.2.2.2.2.2.2.2.2.2.1 t0.2.2.2.2.2.2.2.2.2.2 hu) ?_
  refine akN_iconst_0 dX9_foreseeRuin_11 ?_
  refine aw_istore_1 dX9_foreseeRuin_12 rfl (Nat.le_of_ble_eq_true rfl) ?_
  have weeks : ∀ k m, m + k = 41 → 1 ≤ m → AW 7 RX9 cX9_foreseeRuin 2 none 41 (ac_R none (cw_C g P t0 t1 (it_T t0 40) o0 o1 (xr, xs, xa, sd, rk_F t0 41))) 38 [.ref 0, .int (nI m)] [] (cw_C g P t0 t1 (it_T t0 (m - 1)) o0 o1 (xr, xs, xa, sd, rk_F t0 m)) := by
    intro k
    induction k with
    | zero =>
      intro m hm h1
      obtain rfl : m = 41 := by omega
      refine aw_iload_1 dX9_foreseeRuin_38 ?_
      refine akN_bipush_40 dX9_foreseeRuin_39 ?_
      refine aw_icmp_gtN 63 dX9_foreseeRuin_41 (by decide) (by omega) (by omega) (fun _ => ?_) (fun hh => absurd hh (by omega))
      exact aw_vret dX9_foreseeRuin_63 rfl (⟨rfl, rfl⟩)
    | succ k ih =>
      intro m hm h1
      refine aw_iload_1 dX9_foreseeRuin_38 ?_
      refine akN_bipush_40 dX9_foreseeRuin_39 ?_
      refine aw_icmp_gtN 63 dX9_foreseeRuin_41 (by decide) (by omega) (by omega) (fun hh => absurd hh (by omega)) (fun _ => ?_)
      refine aw_aload_0 dX9_foreseeRuin_44 ?_
      refine gf_X9_36 dX9_foreseeRuin_45 rfl rfl ?_
      refine ca_X9_189 dX9_foreseeRuin_48 rfl (k_passWeek_t g P t0 t1 _ o0 o1 _ (ok_it hok _)) (fun r w1 hc => ?_)
      obtain ⟨⟨v, rfl⟩, rfl⟩ := hc
      have e : wk_T (it_T t0 (m - 1)) = it_T t0 m := by
        match m, h1 with
        | m + 1, _ => rfl
      rw [e]
      refine aw_pop dX9_foreseeRuin_51 rfl ?_
      refine aw_aload_0 dX9_foreseeRuin_52 ?_
      refine aw_iload_1 dX9_foreseeRuin_53 ?_
      refine ce_X9_292 dX9_foreseeRuin_54 rfl (k_noteRuined_t g P t0 t1 (it_T t0 m) o0 o1 xr xs xa sd _ m (by rw [nn_it]; exact hn)) ?_
      rw [rk_step]
      refine aw_iincN_1 dX9_foreseeRuin_57 rfl (Nat.le_of_ble_eq_true rfl) ?_
      refine aw_goto 38 dX9_foreseeRuin_60 (by decide) ?_
      exact ih (m + 1) (by omega) (by omega)
  have fill : ∀ k i, i + k = 5 → ∀ rk2 : Nat → Int32, (∀ j, j < i → rk2 j = -1) → AW 7 RX9 cX9_foreseeRuin 2 none 41 (ac_R none (cw_C g P t0 t1 (it_T t0 40) o0 o1 (xr, xs, xa, sd, rk_F t0 41))) 13 [.ref 0, .int (nI i)] [] (cw_C g P t0 t1 t0 o0 o1 (xr, xs, xa, sd, rk2)) := by
    intro k
    induction k with
    | zero =>
      intro i hi rk2 h2
      obtain rfl : i = 5 := by omega
      refine aw_iload_1 dX9_foreseeRuin_13 ?_
      refine akN_iconst_5 dX9_foreseeRuin_14 ?_
      refine aw_icmp_geN 31 dX9_foreseeRuin_15 (by decide) (by omega) (by omega) (fun _ => ?_) (fun hh => absurd hh (by omega))
      refine aw_arr (id := 40) (g := rk_F t0 0) rfl (fun j hj => ?_) ?_
      · rw [h2 j hj]
        unfold rk_F
        split <;> rfl
      refine aw_w cs_40 ?_
      refine aw_aload_0 dX9_foreseeRuin_31 ?_
      refine akN_iconst_0 dX9_foreseeRuin_32 ?_
      refine ce_X9_292 dX9_foreseeRuin_33 rfl (k_noteRuined_t g P t0 t1 t0 o0 o1 xr xs xa sd (rk_F t0 0) 0 hn) ?_
      rw [show (fun k => if k < nn_T t0 ∧ rk_F t0 0 k = -1 ∧ nt_T t0 k < 0 then nI 0 else rk_F t0 0 k) = rk_F t0 1 from rk_step t0 0]
      refine akN_iconst_1 dX9_foreseeRuin_36 ?_
      refine aw_istore_1 dX9_foreseeRuin_37 rfl (Nat.le_of_ble_eq_true rfl) ?_
      exact weeks 40 1 (by omega) (by omega)
    | succ k ih =>
      intro i hi rk2 h2
      refine aw_iload_1 dX9_foreseeRuin_13 ?_
      refine akN_iconst_5 dX9_foreseeRuin_14 ?_
      refine aw_icmp_geN 31 dX9_foreseeRuin_15 (by decide) (by omega) (by omega) (fun hh => absurd hh (by omega)) (fun _ => ?_)
      refine aw_aload_0 dX9_foreseeRuin_18 ?_
      refine gf_X9_67 dX9_foreseeRuin_19 rfl rfl ?_
      refine aw_iload_1 dX9_foreseeRuin_22 ?_
      refine ak_iconst_m1 dX9_foreseeRuin_23 ?_
      refine aw_iastI dX9_foreseeRuin_24 rfl (by omega) ?_
      refine aw_w cs_40 ?_
      refine aw_iincN_1 dX9_foreseeRuin_25 rfl (Nat.le_of_ble_eq_true rfl) ?_
      refine aw_goto 13 dX9_foreseeRuin_28 (by decide) ?_
      refine ih (i + 1) (by omega) _ (fun j hj => ?_)
      by_cases e : j = i
      · subst e; exact pk_us
      · rw [pk_un e]; exact h2 j (by omega)
  exact fill 5 0 (by omega) rk (fun j h => absurd h (Nat.not_lt_zero j))
theorem c_ruin_no (ik : Nat) (rd : Int32) (pl : Nat) (pc : Nat → Nat) (ra up f0 su nn : Nat) (wk : Int32) (ki we ow fr of : Nat → Nat) (t1 t2 : tw_T) (oc : Nat) (oa ob os : Nat → Nat) (o1 : of_T) (x : sc_T) (a : Int32) (h : ¬ hs_P nn a) : AM 8 yX9_ruin cX9_ruin 2 (some .int) [.ref 0, .int a] (cw_C (ik, rd) (pl, pc) (ra, up, f0, su, nn, wk, ki, we, ow, fr, of) t1 t2 (oc, oa, ob, os) o1 x) (ac_R (some (.int (-101))) (cw_C (ik, rd) (pl, pc) (ra, up, f0, su, nn, wk, ki, we, ow, fr, of) t1 t2 (oc, oa, ob, os) o1 x)) := by
  refine AM.of (loc := [.ref 0, .int a]) RX9 rfl (by decide +kernel) (Nat.le_of_ble_eq_true rfl) rfl ?_
  refine aw_aload_0 dX9_ruin_0 ?_
  refine gf_X9_19 dX9_ruin_1 rfl rfl ?_
  refine aw_iload_1 dX9_ruin_4 ?_
  refine ce_X9_115 dX9_ruin_5 rfl (k_X8_has_0 (ik, rd) (pl, pc) t1 t2 (oc, oa, ob, os) o1 x ra up f0 su nn wk ki we ow fr of a) ?_
  refine aw_if_ne 14 dX9_ruin_8 (by decide) (fun hh => absurd (bI_f h) hh) (fun _ => ?_)
  refine ak_bipush_m101 dX9_ruin_11 ?_
  exact aw_iret dX9_ruin_13 rfl (⟨rfl, rfl⟩)
theorem c_ruin_ok (ik : Nat) (rd : Int32) (pl : Nat) (pc : Nat → Nat) (ra up f0 su nn : Nat) (wk : Int32) (ki we ow fr of : Nat → Nat) (t1 t2 : tw_T) (oc : Nat) (oa ob os : Nat → Nat) (o1 : of_T) (xr : (Nat → Int32) × (Nat → Int32) × Int32 × Int32) (xs : (Nat → Int32) × (Nat → Int32)) (xa : Int32 × Int32) (sd : Int32) (rk : Nat → Int32) (p : Nat) (hok : ok_T (ra, up, f0, su, nn, wk, ki, we, ow, fr, of)) (hp : p < nn) : AM 8 yX9_ruin cX9_ruin 2 (some .int) [.ref 0, .int (nI p)] (cw_C (ik, rd) (pl, pc) (ra, up, f0, su, nn, wk, ki, we, ow, fr, of) t1 t2 (oc, oa, ob, os) o1 (xr, xs, xa, sd, rk)) (ac_R (some (.int (rn_I (ra, up, f0, su, nn, wk, ki, we, ow, fr, of) p 41))) (cw_C (ik, rd) (pl, pc) (ra, up, f0, su, nn, wk, ki, we, ow, fr, of) t1 (it_T (ra, up, f0, su, nn, wk, ki, we, ow, fr, of) 40) (oc, oa, ob, os) o1 (xr, xs, xa, sd, rk_F (ra, up, f0, su, nn, wk, ki, we, ow, fr, of) 41))) := by
  have hn : nn ≤ 5 := hok.2.2.2.2.1
  refine AM.of (loc := [.ref 0, .int (nI p)]) RX9 rfl (by decide +kernel) (Nat.le_of_ble_eq_true rfl) rfl ?_
  refine aw_aload_0 dX9_ruin_0 ?_
  refine gf_X9_19 dX9_ruin_1 rfl rfl ?_
  refine aw_iload_1 dX9_ruin_4 ?_
  refine ce_X9_115 dX9_ruin_5 rfl (k_X8_has_0 (ik, rd) (pl, pc) t1 t2 (oc, oa, ob, os) o1 _ ra up f0 su nn wk ki we ow fr of (nI p)) ?_
  refine aw_if_ne 14 dX9_ruin_8 (by decide) (fun _ => ?_) (fun hh => absurd hh (bI_n (hs_of hp (by omega))))
  refine aw_aload_0 dX9_ruin_14 ?_
  refine ce_X9_200 dX9_ruin_15 rfl (k_X9_foreseeRuin _ _ _ _ _ _ _ xr xs xa sd rk hok) ?_
  refine aw_aload_0 dX9_ruin_18 ?_
  refine gf_X9_67 dX9_ruin_19 rfl rfl ?_
  refine aw_iload_1 dX9_ruin_22 ?_
  refine aw_ialdI dX9_ruin_23 rfl (by omega) ?_
  exact aw_iret dX9_ruin_24 rfl (⟨by rw [rk_F, if_pos (show p < nn_T (ra, up, f0, su, nn, wk, ki, we, ow, fr, of) from hp)], rfl⟩)
theorem c_settling (ik : Nat) (rd : Int32) (pl : Nat) (pc : Nat → Nat) (ra up f0 su nn : Nat) (wk : Int32) (ki we ow fr of : Nat → Nat) (t1 t2 : tw_T) (oc : Nat) (oa ob os : Nat → Nat) (o1 : of_T) (xr : (Nat → Int32) × (Nat → Int32) × Int32 × Int32) (sm ev : Nat → Int32) (xa : Int32 × Int32) (sd : Int32) (rk : Nat → Int32) (hn : nn ≤ 5) (how : ∀ k, ow k ≤ 9999) (hs0 : sm 0 = 0) (he0 : ev 0 = 0) : AM 8 yX9_settling cX9_settling 1 (some .int) [.ref 0] (cw_C (ik, rd) (pl, pc) (ra, up, f0, su, nn, wk, ki, we, ow, fr, of) t1 t2 (oc, oa, ob, os) o1 (xr, (sm, ev), xa, sd, rk)) (fun r w' => r = some (.int (st_I nn ow)) ∧ ∃ sm2 ev2 : Nat → Int32, sm2 0 = 0 ∧ ev2 0 = 0 ∧ w' = (cw_C (ik, rd) (pl, pc) (ra, up, f0, su, nn, wk, ki, we, ow, fr, of) t1 t2 (oc, oa, ob, os) o1 (xr, (sm2, ev2), xa, sd, rk))) := by
  refine AM.of (loc := [.ref 0]) RX9 rfl (by decide +kernel) (Nat.le_of_ble_eq_true rfl) rfl ?_
  refine aw_aload_0 dX9_settling_0 ?_
  refine gf_X9_49 dX9_settling_1 rfl rfl ?_
  refine aw_aload_0 dX9_settling_4 ?_
  refine gf_X9_19 dX9_settling_5 rfl rfl ?_
  refine ca_X9_203 dX9_settling_8 rfl (k_X7_fewestPayments _ _ _ _ _ _ xr sm ev xa sd rk ra up f0 su nn wk ki we ow fr of hn how hs0 he0) (fun r w1 hc => ?_)
  obtain ⟨rfl, sm2, ev2, h1, h2, rfl⟩ := hc
  exact aw_iret dX9_settling_11 rfl (⟨rfl, sm2, ev2, h1, h2, rfl⟩)
theorem c_bestRing_out (ik : Nat) (rd : Int32) (pl : Nat) (pc : Nat → Nat) (ra up f0 su nn : Nat) (wk : Int32) (ki we ow fr of : Nat → Nat) (t1 t2 : tw_T) (oc : Nat) (oa ob os : Nat → Nat) (o1 : of_T) (x : sc_T) (w : Int32) (h0 : ¬ w = 0) (h1 : ¬ w = 1) (h2 : ¬ (10 ≤ w ∧ w ≤ 13)) : AM 8 yX9_bestRing cX9_bestRing 2 (some .int) [.ref 0, .int w] (cw_C (ik, rd) (pl, pc) (ra, up, f0, su, nn, wk, ki, we, ow, fr, of) t1 t2 (oc, oa, ob, os) o1 x) (ac_R (some (.int (-102))) (cw_C (ik, rd) (pl, pc) (ra, up, f0, su, nn, wk, ki, we, ow, fr, of) t1 t2 (oc, oa, ob, os) o1 x)) := by
  refine AM.of (loc := [.ref 0, .int w]) RX9 rfl (by decide +kernel) (Nat.le_of_ble_eq_true rfl) rfl ?_
  refine aw_iload_1 dX9_bestRing_0 ?_
  refine aw_if_eq 23 dX9_bestRing_1 (by decide) (fun hh => absurd hh (h0)) (fun _ => ?_)
  refine aw_iload_1 dX9_bestRing_4 ?_
  refine ak_iconst_1 dX9_bestRing_5 ?_
  refine aw_icmp_eq 23 dX9_bestRing_6 (by decide) (fun hh => absurd hh (h1)) (fun _ => ?_)
  refine aw_iload_1 dX9_bestRing_9 ?_
  refine ak_bipush_10 dX9_bestRing_10 ?_
  refine ak_bipush_13 dX9_bestRing_12 ?_
  refine ce_X9_71 dX9_bestRing_14 (k_X9_within _ w 10 13) ?_
  refine aw_if_ne 23 dX9_bestRing_17 (by decide) (fun hh => absurd (bI_f h2) hh) (fun _ => ?_)
  refine ak_bipush_m102 dX9_bestRing_20 ?_
  exact aw_iret dX9_bestRing_22 rfl (⟨rfl, rfl⟩)
theorem c_bestRing_ok (ik : Nat) (rd : Int32) (pl : Nat) (pc : Nat → Nat) (ra up f0 su nn : Nat) (wk : Int32) (ki we ow fr of : Nat → Nat) (t1 t2 : tw_T) (oc : Nat) (oa ob os : Nat → Nat) (o1 : of_T) (rw be : Nat → Int32) (bl bt : Int32) (xs : (Nat → Int32) × (Nat → Int32)) (xa : Int32 × Int32) (sd : Int32) (rk : Nat → Int32) (w : Nat) (hn : nn ≤ 5) (how : ∀ k, ow k ≤ 9999) (hw : w < 2 ∨ (10 ≤ w ∧ w < 14)) : AM 8 yX9_bestRing cX9_bestRing 2 (some .int) [.ref 0, .int (nI w)] (cw_C (ik, rd) (pl, pc) (ra, up, f0, su, nn, wk, ki, we, ow, fr, of) t1 t2 (oc, oa, ob, os) o1 ((rw, be, bl, bt), xs, xa, sd, rk)) (fun r w' => r = some (.int (tl_I (se_B nn ow be) w)) ∧ ∃ rw2 : Nat → Int32, w' = (cw_C (ik, rd) (pl, pc) (ra, up, f0, su, nn, wk, ki, we, ow, fr, of) t1 t2 (oc, oa, ob, os) o1 ((rw2, (se_B nn ow be).2.2, nI (se_B nn ow be).2.1, nI (se_B nn ow be).1), xs, xa, sd, rk))) := by
  refine AM.of (loc := [.ref 0, .int (nI w)]) RX9 rfl (by decide +kernel) (Nat.le_of_ble_eq_true rfl) rfl ?_
  have tail : AW 8 RX9 cX9_bestRing 2 (some .int) 41 (fun r w' => r = some (.int (tl_I (se_B nn ow be) w)) ∧ ∃ rw2 : Nat → Int32, w' = (cw_C (ik, rd) (pl, pc) (ra, up, f0, su, nn, wk, ki, we, ow, fr, of) t1 t2 (oc, oa, ob, os) o1 ((rw2, (se_B nn ow be).2.2, nI (se_B nn ow be).2.1, nI (se_B nn ow be).1), xs, xa, sd, rk))) 23 [.ref 0, .int (nI w)] [] (cw_C (ik, rd) (pl, pc) (ra, up, f0, su, nn, wk, ki, we, ow, fr, of) t1 t2 (oc, oa, ob, os) o1 ((rw, be, bl, bt), xs, xa, sd, rk)) := by
    refine aw_aload_0 dX9_bestRing_23 ?_
    refine gf_X9_42 dX9_bestRing_24 rfl rfl ?_
    refine aw_aload_0 dX9_bestRing_27 ?_
    refine gf_X9_19 dX9_bestRing_28 rfl rfl ?_
    refine ca_X9_207 dX9_bestRing_31 rfl (k_X6_search _ _ _ _ _ _ rw be bl bt xs xa sd rk ra up f0 su nn wk ki we ow fr of hn how) (fun r w1 hc => ?_)
    obtain ⟨rfl, rw2, rfl⟩ := hc
    refine aw_aload_0 dX9_bestRing_34 ?_
    refine gf_X9_42 dX9_bestRing_35 rfl rfl ?_
    refine aw_iload_1 dX9_bestRing_38 ?_
    refine ce_X9_211 dX9_bestRing_39 rfl (k_X6_tell _ _ _ _ _ _ _ rw2 xs xa sd rk (se_B nn ow be) w (ok_se nn ow be) hw) ?_
    exact aw_iret dX9_bestRing_42 rfl (⟨rfl, rw2, rfl⟩)
  refine aw_iload_1 dX9_bestRing_0 ?_
  refine aw_if_eqN 23 dX9_bestRing_1 (by decide) (by omega) (fun h0 => ?_) (fun h0 => ?_)
  · exact tail
  refine aw_iload_1 dX9_bestRing_4 ?_
  refine akN_iconst_1 dX9_bestRing_5 ?_
  refine aw_icmp_eqN 23 dX9_bestRing_6 (by decide) (by omega) (by omega) (fun h1 => ?_) (fun h1 => ?_)
  · exact tail
  have hr9 : (10 : Int32) ≤ nI w ∧ nI w ≤ 13 := ⟨(nI_leI (by decide : (10 : Nat) < 2147483648) (by omega)).mpr (by omega), (nI_leI (by omega) (by decide : (13 : Nat) < 2147483648)).mpr (by omega)⟩
  refine aw_iload_1 dX9_bestRing_9 ?_
  refine ak_bipush_10 dX9_bestRing_10 ?_
  refine ak_bipush_13 dX9_bestRing_12 ?_
  refine ce_X9_71 dX9_bestRing_14 (k_X9_within _ (nI w) 10 13) ?_
  refine aw_if_ne 23 dX9_bestRing_17 (by decide) (fun _ => ?_) (fun hh => absurd hh (bI_n hr9))
  exact tail
theorem c_accept_no (ik : Nat) (rd : Int32) (pl : Nat) (pc : Nat → Nat) (ra up f0 su nn : Nat) (wk : Int32) (ki we ow fr of : Nat → Nat) (t1 t2 : tw_T) (oc : Nat) (oa ob os : Nat → Nat) (o1 : of_T) (x : sc_T) (a nd ws w : Int32) (h : ¬ hs_P nn a) : AM 8 yX9_accept cX9_accept 5 (some .int) [.ref 0, .int a, .int nd, .int ws, .int w] (cw_C (ik, rd) (pl, pc) (ra, up, f0, su, nn, wk, ki, we, ow, fr, of) t1 t2 (oc, oa, ob, os) o1 x) (ac_R (some (.int (-101))) (cw_C (ik, rd) (pl, pc) (ra, up, f0, su, nn, wk, ki, we, ow, fr, of) t1 t2 (oc, oa, ob, os) o1 x)) := by
  refine AM.of (loc := [.ref 0, .int a, .int nd, .int ws, .int w]) RX9 rfl (by decide +kernel) (Nat.le_of_ble_eq_true rfl) rfl ?_
  refine aw_aload_0 dX9_accept_0 ?_
  refine gf_X9_19 dX9_accept_1 rfl rfl ?_
  refine aw_iload_1 dX9_accept_4 ?_
  refine ce_X9_115 dX9_accept_5 rfl (k_X8_has_0 (ik, rd) (pl, pc) t1 t2 (oc, oa, ob, os) o1 x ra up f0 su nn wk ki we ow fr of a) ?_
  refine aw_if_ne 14 dX9_accept_8 (by decide) (fun hh => absurd (bI_f h) hh) (fun _ => ?_)
  refine ak_bipush_m101 dX9_accept_11 ?_
  exact aw_iret dX9_accept_13 rfl (⟨rfl, rfl⟩)
theorem c_accept_out (ik : Nat) (rd : Int32) (pl : Nat) (pc : Nat → Nat) (ra up f0 su nn : Nat) (wk : Int32) (ki we ow fr of : Nat → Nat) (t1 t2 : tw_T) (oc : Nat) (oa ob os : Nat → Nat) (o1 : of_T) (x : sc_T) (a nd ws w : Int32) (h : hs_P nn a) (ho : ¬ ((1 ≤ nd ∧ nd ≤ 500) ∧ (0 ≤ ws ∧ ws ≤ 20) ∧ 0 ≤ w ∧ w ≤ 1)) : AM 8 yX9_accept cX9_accept 5 (some .int) [.ref 0, .int a, .int nd, .int ws, .int w] (cw_C (ik, rd) (pl, pc) (ra, up, f0, su, nn, wk, ki, we, ow, fr, of) t1 t2 (oc, oa, ob, os) o1 x) (ac_R (some (.int (-102))) (cw_C (ik, rd) (pl, pc) (ra, up, f0, su, nn, wk, ki, we, ow, fr, of) t1 t2 (oc, oa, ob, os) o1 x)) := by
  refine AM.of (loc := [.ref 0, .int a, .int nd, .int ws, .int w]) RX9 rfl (by decide +kernel) (Nat.le_of_ble_eq_true rfl) rfl ?_
  refine aw_aload_0 dX9_accept_0 ?_
  refine gf_X9_19 dX9_accept_1 rfl rfl ?_
  refine aw_iload_1 dX9_accept_4 ?_
  refine ce_X9_115 dX9_accept_5 rfl (k_X8_has_0 (ik, rd) (pl, pc) t1 t2 (oc, oa, ob, os) o1 x ra up f0 su nn wk ki we ow fr of a) ?_
  refine aw_if_ne 14 dX9_accept_8 (by decide) (fun _ => ?_) (fun hh => absurd hh (bI_n h))
  refine aw_iload_2 dX9_accept_14 ?_
  refine ak_iconst_1 dX9_accept_15 ?_
  refine ak_sipush_500 dX9_accept_16 ?_
  refine ce_X9_71 dX9_accept_19 (k_X9_within _ nd 1 500) ?_
  by_cases h1 : 1 ≤ nd ∧ nd ≤ 500
  · by_cases h2 : 0 ≤ ws ∧ ws ≤ 20
    · refine aw_if_eq 45 dX9_accept_22 (by decide) (fun hh => absurd hh (bI_n h1)) (fun _ => ?_)
      refine aw_iload_3 dX9_accept_25 ?_
      refine ak_iconst_0 dX9_accept_26 ?_
      refine ak_bipush_20 dX9_accept_27 ?_
      refine ce_X9_71 dX9_accept_29 (k_X9_within _ ws 0 20) ?_
      refine aw_if_eq 45 dX9_accept_32 (by decide) (fun hh => absurd hh (bI_n h2)) (fun _ => ?_)
      refine aw_iload_4 dX9_accept_35 ?_
      refine ak_iconst_0 dX9_accept_37 ?_
      refine ak_iconst_1 dX9_accept_38 ?_
      refine ce_X9_71 dX9_accept_39 (k_X9_within _ w 0 1) ?_
      refine aw_if_ne 48 dX9_accept_42 (by decide) (fun hh => absurd (bI_f (fun q => ho ⟨h1, h2, q⟩)) hh) (fun _ => ?_)
      refine ak_bipush_m102 dX9_accept_45 ?_
      exact aw_iret dX9_accept_47 rfl (⟨rfl, rfl⟩)
    refine aw_if_eq 45 dX9_accept_22 (by decide) (fun hh => absurd hh (bI_n h1)) (fun _ => ?_)
    refine aw_iload_3 dX9_accept_25 ?_
    refine ak_iconst_0 dX9_accept_26 ?_
    refine ak_bipush_20 dX9_accept_27 ?_
    refine ce_X9_71 dX9_accept_29 (k_X9_within _ ws 0 20) ?_
    refine aw_if_eq 45 dX9_accept_32 (by decide) (fun _ => ?_) (fun hh => absurd (bI_f h2) hh)
    refine ak_bipush_m102 dX9_accept_45 ?_
    exact aw_iret dX9_accept_47 rfl (⟨rfl, rfl⟩)
  refine aw_if_eq 45 dX9_accept_22 (by decide) (fun _ => ?_) (fun hh => absurd (bI_f h1) hh)
  refine ak_bipush_m102 dX9_accept_45 ?_
  exact aw_iret dX9_accept_47 rfl (⟨rfl, rfl⟩)
theorem c_accept_ok (ik : Nat) (rd : Int32) (pl : Nat) (pc : Nat → Nat) (ra up f0 su nn : Nat) (wk : Int32) (ki we ow fr of : Nat → Nat) (t1 t2 : tw_T) (oc : Nat) (oa ob os : Nat → Nat) (o1 : of_T) (xr : (Nat → Int32) × (Nat → Int32) × Int32 × Int32) (xs : (Nat → Int32) × (Nat → Int32)) (ab ao sd : Int32) (rk : Nat → Int32) (p nd ws w : Nat) (hok : ok_T (ra, up, f0, su, nn, wk, ki, we, ow, fr, of)) (hoO : ok_O (oc, oa, ob, os)) (hp : p < nn) (h1 : (1 : Int32) ≤ nI nd ∧ nI nd ≤ 500) (h2 : (0 : Int32) ≤ nI ws ∧ nI ws ≤ 20) (h3 : (0 : Int32) ≤ nI w ∧ nI w ≤ 1) (hnd : 1 ≤ nd) (hnd2 : nd ≤ 500) (hws : ws ≤ 20) (hw : w ≤ 1) : AM 8 yX9_accept cX9_accept 5 (some .int) [.ref 0, .int (nI p), .int (nI nd), .int (nI ws), .int (nI w)] (cw_C (ik, rd) (pl, pc) (ra, up, f0, su, nn, wk, ki, we, ow, fr, of) t1 t2 (oc, oa, ob, os) o1 (xr, xs, (ab, ao), sd, rk)) (ac_R (some (.int (if w = 0 then (en_I (af_N (vl_N ra up f0 nn ki ow fr oc oa ob os p nd ws) (bf_N ob p oc + 1))).1 else (en_I (af_N (vl_N ra up f0 nn ki ow fr oc oa ob os p nd ws) (bf_N ob p oc + 1))).2))) (cw_C (ik, rd) (pl, pc) (ra, up, f0, su, nn, wk, ki, we, ow, fr, of) t1 t2 (oc, oa, ob, os) o1 (xr, xs, en_I (af_N (vl_N ra up f0 nn ki ow fr oc oa ob os p nd ws) (bf_N ob p oc + 1)), sd, rk))) := by
  have hn : nn ≤ 5 := hok.2.2.2.2.1
  refine AM.of (loc := [.ref 0, .int (nI p), .int (nI nd), .int (nI ws), .int (nI w)]) RX9 rfl (by decide +kernel) (Nat.le_of_ble_eq_true rfl) rfl ?_
  refine aw_aload_0 dX9_accept_0 ?_
  refine gf_X9_19 dX9_accept_1 rfl rfl ?_
  refine aw_iload_1 dX9_accept_4 ?_
  refine ce_X9_115 dX9_accept_5 rfl (k_X8_has_0 (ik, rd) (pl, pc) t1 t2 (oc, oa, ob, os) o1 _ ra up f0 su nn wk ki we ow fr of (nI p)) ?_
  refine aw_if_ne 14 dX9_accept_8 (by decide) (fun _ => ?_) (fun hh => absurd hh (bI_n (hs_of hp (by omega))))
  refine aw_iload_2 dX9_accept_14 ?_
  refine ak_iconst_1 dX9_accept_15 ?_
  refine ak_sipush_500 dX9_accept_16 ?_
  refine ce_X9_71 dX9_accept_19 (k_X9_within _ (nI nd) 1 500) ?_
  refine aw_if_eq 45 dX9_accept_22 (by decide) (fun hh => absurd hh (bI_n h1)) (fun _ => ?_)
  refine aw_iload_3 dX9_accept_25 ?_
  refine ak_iconst_0 dX9_accept_26 ?_
  refine ak_bipush_20 dX9_accept_27 ?_
  refine ce_X9_71 dX9_accept_29 (k_X9_within _ (nI ws) 0 20) ?_
  refine aw_if_eq 45 dX9_accept_32 (by decide) (fun hh => absurd hh (bI_n h2)) (fun _ => ?_)
  refine aw_iload_4 dX9_accept_35 ?_
  refine ak_iconst_0 dX9_accept_37 ?_
  refine ak_iconst_1 dX9_accept_38 ?_
  refine ce_X9_71 dX9_accept_39 (k_X9_within _ (nI w) 0 1) ?_
  refine aw_if_ne 48 dX9_accept_42 (by decide) (fun _ => ?_) (fun hh => absurd hh (bI_n h3))
  refine aw_aload_0 dX9_accept_48 ?_
  refine gf_X9_56 dX9_accept_49 rfl rfl ?_
  refine aw_aload_0 dX9_accept_52 ?_
  refine gf_X9_19 dX9_accept_53 rfl rfl ?_
  refine aw_aload_0 dX9_accept_56 ?_
  refine gf_X9_26 dX9_accept_57 rfl rfl ?_
  refine aw_iload_1 dX9_accept_60 ?_
  refine aw_iload_2 dX9_accept_61 ?_
  refine aw_iload_3 dX9_accept_62 ?_
  refine ce_X9_219 dX9_accept_63 rfl (k_X0_search _ _ _ _ _ xr xs ab ao sd rk ra up f0 su nn wk ki we ow fr of oc oa ob os p nd ws hok hoO (by omega) hnd hnd2 (by omega)) ?_
  refine aw_iload_4 dX9_accept_66 ?_
  refine aw_if_neN 81 dX9_accept_68 (by decide) (by omega) (fun q => ?_) (fun q => ?_)
  · refine aw_aload_0 dX9_accept_81 ?_
    refine gf_X9_56 dX9_accept_82 rfl rfl ?_
    refine gf_X9_225 dX9_accept_85 rfl rfl ?_
    exact aw_iret dX9_accept_88 rfl (⟨by rw [if_neg q]; rfl, rfl⟩)
  refine aw_aload_0 dX9_accept_71 ?_
  refine gf_X9_56 dX9_accept_72 rfl rfl ?_
  refine gf_X9_222 dX9_accept_75 rfl rfl ?_
  refine aw_goto 88 dX9_accept_78 (by decide) ?_
  exact aw_iret dX9_accept_88 rfl (⟨by rw [if_pos q]; rfl, rfl⟩)
/-- sizes from which a sum has grown: how many, the least; of 99, 98 and on -/
def gw_F (f : Nat → Nat) (sum : Nat) : Nat → Nat × Int32
  | 0 => (0, -1)
  | n + 1 => if f (99 - n) = sum then ((gw_F f sum n).1 + 1, nI (99 - n)) else gw_F f sum n
theorem c_grown_out (ik : Nat) (rd : Int32) (pl : Nat) (pc : Nat → Nat) (ra up f0 su nn : Nat) (wk : Int32) (ki we ow fr of : Nat → Nat) (t1 t2 : tw_T) (oc : Nat) (oa ob os : Nat → Nat) (o1 : of_T) (x : sc_T) (z ws d c w : Int32) (ho : ¬ ((0 ≤ z ∧ z ≤ 9999) ∧ (0 ≤ ws ∧ ws ≤ 40) ∧ (0 ≤ d ∧ d ≤ 4) ∧ (0 ≤ c ∧ c ≤ 4) ∧ 0 ≤ w ∧ w ≤ 1)) : AM 8 yX9_grown cX9_grown 10 (some .int) [.ref 0, .int z, .int ws, .int d, .int c, .int w] (cw_C (ik, rd) (pl, pc) (ra, up, f0, su, nn, wk, ki, we, ow, fr, of) t1 t2 (oc, oa, ob, os) o1 x) (ac_R (some (.int (-102))) (cw_C (ik, rd) (pl, pc) (ra, up, f0, su, nn, wk, ki, we, ow, fr, of) t1 t2 (oc, oa, ob, os) o1 x)) := by
  refine AM.of (loc := [.ref 0, .int z, .int ws, .int d, .int c, .int w, .null, .null, .null, .null]) RX9 rfl (by decide +kernel) (Nat.le_of_ble_eq_true rfl) rfl ?_
  refine aw_iload_1 dX9_grown_0 ?_
  refine ak_iconst_0 dX9_grown_1 ?_
  refine ak_sipush_9999 dX9_grown_2 ?_
  refine ce_X9_71 dX9_grown_5 (k_X9_within _ z 0 9999) ?_
  by_cases h1 : 0 ≤ z ∧ z ≤ 9999
  · by_cases h2 : 0 ≤ ws ∧ ws ≤ 40
    · by_cases h3 : 0 ≤ d ∧ d ≤ 4
      · by_cases h4 : 0 ≤ c ∧ c ≤ 4
        · refine aw_if_eq 46 dX9_grown_8 (by decide) (fun hh => absurd hh (bI_n h1)) (fun _ => ?_)
          refine aw_iload_2 dX9_grown_11 ?_
          refine ak_iconst_0 dX9_grown_12 ?_
          refine ak_bipush_40 dX9_grown_13 ?_
          refine ce_X9_71 dX9_grown_15 (k_X9_within _ ws 0 40) ?_
          refine aw_if_eq 46 dX9_grown_18 (by decide) (fun hh => absurd hh (bI_n h2)) (fun _ => ?_)
          refine aw_iload_3 dX9_grown_21 ?_
          refine ce_X9_104 dX9_grown_22 (k_X9_isKind _ d) ?_
          refine aw_if_eq 46 dX9_grown_25 (by decide) (fun hh => absurd hh (bI_n h3)) (fun _ => ?_)
          refine aw_iload_4 dX9_grown_28 ?_
          refine ce_X9_104 dX9_grown_30 (k_X9_isKind _ c) ?_
          refine aw_if_eq 46 dX9_grown_33 (by decide) (fun hh => absurd hh (bI_n h4)) (fun _ => ?_)
          refine aw_iload_5 dX9_grown_36 ?_
          refine ak_iconst_0 dX9_grown_38 ?_
          refine ak_iconst_1 dX9_grown_39 ?_
          refine ce_X9_71 dX9_grown_40 (k_X9_within _ w 0 1) ?_
          refine aw_if_ne 49 dX9_grown_43 (by decide) (fun hh => absurd (bI_f (fun q => ho ⟨h1, h2, h3, h4, q⟩)) hh) (fun _ => ?_)
          refine ak_bipush_m102 dX9_grown_46 ?_
          exact aw_iret dX9_grown_48 rfl (⟨rfl, rfl⟩)
        refine aw_if_eq 46 dX9_grown_8 (by decide) (fun hh => absurd hh (bI_n h1)) (fun _ => ?_)
        refine aw_iload_2 dX9_grown_11 ?_
        refine ak_iconst_0 dX9_grown_12 ?_
        refine ak_bipush_40 dX9_grown_13 ?_
        refine ce_X9_71 dX9_grown_15 (k_X9_within _ ws 0 40) ?_
        refine aw_if_eq 46 dX9_grown_18 (by decide) (fun hh => absurd hh (bI_n h2)) (fun _ => ?_)
        refine aw_iload_3 dX9_grown_21 ?_
        refine ce_X9_104 dX9_grown_22 (k_X9_isKind _ d) ?_
        refine aw_if_eq 46 dX9_grown_25 (by decide) (fun hh => absurd hh (bI_n h3)) (fun _ => ?_)
        refine aw_iload_4 dX9_grown_28 ?_
        refine ce_X9_104 dX9_grown_30 (k_X9_isKind _ c) ?_
        refine aw_if_eq 46 dX9_grown_33 (by decide) (fun _ => ?_) (fun hh => absurd (bI_f h4) hh)
        refine ak_bipush_m102 dX9_grown_46 ?_
        exact aw_iret dX9_grown_48 rfl (⟨rfl, rfl⟩)
      refine aw_if_eq 46 dX9_grown_8 (by decide) (fun hh => absurd hh (bI_n h1)) (fun _ => ?_)
      refine aw_iload_2 dX9_grown_11 ?_
      refine ak_iconst_0 dX9_grown_12 ?_
      refine ak_bipush_40 dX9_grown_13 ?_
      refine ce_X9_71 dX9_grown_15 (k_X9_within _ ws 0 40) ?_
      refine aw_if_eq 46 dX9_grown_18 (by decide) (fun hh => absurd hh (bI_n h2)) (fun _ => ?_)
      refine aw_iload_3 dX9_grown_21 ?_
      refine ce_X9_104 dX9_grown_22 (k_X9_isKind _ d) ?_
      refine aw_if_eq 46 dX9_grown_25 (by decide) (fun _ => ?_) (fun hh => absurd (bI_f h3) hh)
      refine ak_bipush_m102 dX9_grown_46 ?_
      exact aw_iret dX9_grown_48 rfl (⟨rfl, rfl⟩)
    refine aw_if_eq 46 dX9_grown_8 (by decide) (fun hh => absurd hh (bI_n h1)) (fun _ => ?_)
    refine aw_iload_2 dX9_grown_11 ?_
    refine ak_iconst_0 dX9_grown_12 ?_
    refine ak_bipush_40 dX9_grown_13 ?_
    refine ce_X9_71 dX9_grown_15 (k_X9_within _ ws 0 40) ?_
    refine aw_if_eq 46 dX9_grown_18 (by decide) (fun _ => ?_) (fun hh => absurd (bI_f h2) hh)
    refine ak_bipush_m102 dX9_grown_46 ?_
    exact aw_iret dX9_grown_48 rfl (⟨rfl, rfl⟩)
  refine aw_if_eq 46 dX9_grown_8 (by decide) (fun _ => ?_) (fun hh => absurd (bI_f h1) hh)
  refine ak_bipush_m102 dX9_grown_46 ?_
  exact aw_iret dX9_grown_48 rfl (⟨rfl, rfl⟩)
theorem c_grown_ok (ik : Nat) (rd : Int32) (pl : Nat) (pc : Nat → Nat) (ra up f0 su nn : Nat) (wk : Int32) (ki we ow fr of : Nat → Nat) (t1 t2 : tw_T) (oc : Nat) (oa ob os : Nat → Nat) (o1 : of_T) (x : sc_T) (z ws d c w : Nat) (h1 : (0 : Int32) ≤ nI z ∧ nI z ≤ 9999) (h2 : (0 : Int32) ≤ nI ws ∧ nI ws ≤ 40) (h3 : (0 : Int32) ≤ nI d ∧ nI d ≤ 4) (h4 : (0 : Int32) ≤ nI c ∧ nI c ≤ 4) (h5 : (0 : Int32) ≤ nI w ∧ nI w ≤ 1) (hz : z ≤ 9999) (hws : ws ≤ 40) (hd : d < 5) (hc : c < 5) (hw : w ≤ 1) (hra : ra ≤ 9) (hu : up ≤ 1) (hf0 : f0 ≤ 9) : AM 8 yX9_grown cX9_grown 10 (some .int) [.ref 0, .int (nI z), .int (nI ws), .int (nI d), .int (nI c), .int (nI w)] (cw_C (ik, rd) (pl, pc) (ra, up, f0, su, nn, wk, ki, we, ow, fr, of) t1 t2 (oc, oa, ob, os) o1 x) (ac_R (some (.int (if w = 0 then nI (gw_F (ig_N up (tn_N ra d c) (ws - f0)) z 99).1 else (gw_F (ig_N up (tn_N ra d c) (ws - f0)) z 99).2))) (cw_C (ik, rd) (pl, pc) (ra, up, f0, su, nn, wk, ki, we, ow, fr, of) t1 t2 (oc, oa, ob, os) o1 x)) := by
  have ht := tn_le (kd := d) (kc := c) hra
  refine AM.of (loc := [.ref 0, .int (nI z), .int (nI ws), .int (nI d), .int (nI c), .int (nI w), .null, .null, .null, .null]) RX9 rfl (by decide +kernel) (Nat.le_of_ble_eq_true rfl) rfl ?_
  refine aw_iload_1 dX9_grown_0 ?_
  refine ak_iconst_0 dX9_grown_1 ?_
  refine ak_sipush_9999 dX9_grown_2 ?_
  refine ce_X9_71 dX9_grown_5 (k_X9_within _ (nI z) 0 9999) ?_
  refine aw_if_eq 46 dX9_grown_8 (by decide) (fun hh => absurd hh (bI_n h1)) (fun _ => ?_)
  refine aw_iload_2 dX9_grown_11 ?_
  refine ak_iconst_0 dX9_grown_12 ?_
  refine ak_bipush_40 dX9_grown_13 ?_
  refine ce_X9_71 dX9_grown_15 (k_X9_within _ (nI ws) 0 40) ?_
  refine aw_if_eq 46 dX9_grown_18 (by decide) (fun hh => absurd hh (bI_n h2)) (fun _ => ?_)
  refine aw_iload_3 dX9_grown_21 ?_
  refine ce_X9_104 dX9_grown_22 (k_X9_isKind _ (nI d)) ?_
  refine aw_if_eq 46 dX9_grown_25 (by decide) (fun hh => absurd hh (bI_n h3)) (fun _ => ?_)
  refine aw_iload_4 dX9_grown_28 ?_
  refine ce_X9_104 dX9_grown_30 (k_X9_isKind _ (nI c)) ?_
  refine aw_if_eq 46 dX9_grown_33 (by decide) (fun hh => absurd hh (bI_n h4)) (fun _ => ?_)
  refine aw_iload_5 dX9_grown_36 ?_
  refine ak_iconst_0 dX9_grown_38 ?_
  refine ak_iconst_1 dX9_grown_39 ?_
  refine ce_X9_71 dX9_grown_40 (k_X9_within _ (nI w) 0 1) ?_
  refine aw_if_ne 49 dX9_grown_43 (by decide) (fun _ => ?_) (fun hh => absurd hh (bI_n h5))
  refine aw_aload_0 dX9_grown_49 ?_
  refine gf_X9_19 dX9_grown_50 rfl rfl ?_
  refine gf_X9_91 dX9_grown_53 rfl rfl ?_
  refine gs_X9_145 dX9_grown_56 ?_
  refine aw_iload_3 dX9_grown_59 ?_
  refine aw_kald dX9_grown_60 (vp_in_nI hd (by decide)) ?_
  rw [nI_clamp (show d < 2 ^ 31 by omega)]
  refine gs_X9_145 dX9_grown_61 ?_
  refine aw_iload_4 dX9_grown_64 ?_
  refine aw_kald dX9_grown_66 (vp_in_nI hc (by decide)) ?_
  rw [nI_clamp (show c < 2 ^ 31 by omega)]
  refine ce_X9_228 dX9_grown_67 rfl (k_X3_tenths_0 (ik, rd) (pl, pc) t1 t2 (oc, oa, ob, os) o1 x ra up f0 su nn wk ki we ow fr of d c hd hc) ?_
  refine aw_istore_6 dX9_grown_70 rfl (Nat.le_of_ble_eq_true rfl) ?_
  refine akN_iconst_0 dX9_grown_72 ?_
  refine aw_istore_7 dX9_grown_73 rfl (Nat.le_of_ble_eq_true rfl) ?_
  refine ak_iconst_m1 dX9_grown_75 ?_
  refine aw_istore_8 dX9_grown_76 rfl (Nat.le_of_ble_eq_true rfl) ?_
  refine akN_bipush_99 dX9_grown_78 ?_
  refine aw_istore_9 dX9_grown_80 rfl (Nat.le_of_ble_eq_true rfl) ?_
  have loop : ∀ k n, n + k = 99 → AW 8 RX9 cX9_grown 10 (some .int) 41 (ac_R (some (.int (if w = 0 then nI (gw_F (ig_N up (tn_N ra d c) (ws - f0)) z 99).1 else (gw_F (ig_N up (tn_N ra d c) (ws - f0)) z 99).2))) (cw_C (ik, rd) (pl, pc) (ra, up, f0, su, nn, wk, ki, we, ow, fr, of) t1 t2 (oc, oa, ob, os) o1 x)) 82 [.ref 0, .int (nI z), .int (nI ws), .int (nI d), .int (nI c), .int (nI w), .int (nI (tn_N ra d c)), .int (nI (gw_F (ig_N up (tn_N ra d c) (ws - f0)) z n).1), .int (gw_F (ig_N up (tn_N ra d c) (ws - f0)) z n).2, .int (nI k)] [] (cw_C (ik, rd) (pl, pc) (ra, up, f0, su, nn, wk, ki, we, ow, fr, of) t1 t2 (oc, oa, ob, os) o1 x) := by
    intro k
    induction k with
    | zero =>
      intro n hn
      obtain rfl : n = 99 := by omega
      refine aw_iload_9 dX9_grown_82 ?_
      refine akN_iconst_1 dX9_grown_84 ?_
      refine aw_icmp_ltN 130 dX9_grown_85 (by decide) (by omega) (by omega) (fun _ => ?_) (fun hh => absurd hh (by omega))
      refine aw_iload_5 dX9_grown_130 ?_
      refine aw_if_neN 140 dX9_grown_132 (by decide) (by omega) (fun q => ?_) (fun q => ?_)
      · refine aw_iload_8 dX9_grown_140 ?_
        exact aw_iret dX9_grown_142 rfl (⟨by rw [if_neg q], rfl⟩)
      refine aw_iload_7 dX9_grown_135 ?_
      refine aw_goto 142 dX9_grown_137 (by decide) ?_
      exact aw_iret dX9_grown_142 rfl (⟨by rw [if_pos q], rfl⟩)
    | succ k ih =>
      intro n hn
      have e99 : 99 - n = k + 1 := by omega
      have hig := ig_le (up := up) (tn := tn_N ra d c) (ws - f0) (show k + 1 ≤ 9999 by omega)
      refine aw_iload_9 dX9_grown_82 ?_
      refine akN_iconst_1 dX9_grown_84 ?_
      refine aw_icmp_ltN 130 dX9_grown_85 (by decide) (by omega) (by omega) (fun hh => absurd hh (by omega)) (fun _ => ?_)
      refine aw_aload_0 dX9_grown_88 ?_
      refine gf_X9_19 dX9_grown_89 rfl rfl ?_
      refine gf_X9_91 dX9_grown_92 rfl rfl ?_
      refine aw_iload_9 dX9_grown_95 ?_
      refine aw_aload_0 dX9_grown_97 ?_
      refine gf_X9_19 dX9_grown_98 rfl rfl ?_
      refine gf_X9_91 dX9_grown_101 rfl rfl ?_
      refine gf_X9_232 dX9_grown_104 rfl rfl ?_
      refine aw_iload_2 dX9_grown_107 ?_
      refine aw_iload_6 dX9_grown_108 ?_
      refine ce_X9_234 dX9_grown_110 rfl (k_X3_owedAfter_0 (ik, rd) (pl, pc) t1 t2 (oc, oa, ob, os) o1 x ra up f0 su nn wk ki we ow fr of (k + 1) f0 ws (tn_N ra d c) hu (by omega) ht (by omega) (by omega)) ?_
      refine aw_iload_1 dX9_grown_113 ?_
      refine aw_icmp_neN 124 dX9_grown_114 (by decide) (by omega) (by omega) (fun q => ?_) (fun q => ?_)
      · have e : gw_F (ig_N up (tn_N ra d c) (ws - f0)) z (n + 1) = gw_F (ig_N up (tn_N ra d c) (ws - f0)) z n := by
          rw [gw_F, e99, if_neg q]
        refine ak_iinc_9_m1 dX9_grown_124 rfl (Nat.le_of_ble_eq_true rfl) ?_
        refine aw_goto 82 dX9_grown_127 (by decide) ?_
        rw [← e, pk_m1]
        exact ih (n + 1) (by omega)
      have e : gw_F (ig_N up (tn_N ra d c) (ws - f0)) z (n + 1) = ((gw_F (ig_N up (tn_N ra d c) (ws - f0)) z n).1 + 1, nI (k + 1)) := by
        rw [gw_F, e99, if_pos q]
      refine aw_iincN_7 dX9_grown_117 rfl (Nat.le_of_ble_eq_true rfl) ?_
      refine aw_iload_9 dX9_grown_120 ?_
      refine aw_istore_8 dX9_grown_122 rfl (Nat.le_of_ble_eq_true rfl) ?_
      refine ak_iinc_9_m1 dX9_grown_124 rfl (Nat.le_of_ble_eq_true rfl) ?_
      refine aw_goto 82 dX9_grown_127 (by decide) ?_
      have h := ih (n + 1) (by omega)
      rw [e] at h
      rw [pk_m1]
      exact h
  exact loop 99 0 (by omega)
theorem ok_yr {t : tw_T} (h : ok_T t) (s : Nat) : ok_T (yr_N t s).1 := by
  obtain ⟨ra, up, f0, su, nn, wk, ki, we, ow, fr, of⟩ := t
  unfold yr_N
  dsimp only
  split
  · split
    · split
      · exact ok_wk (ok_th h _ _ _)
      · exact ok_wk (ok_gt h _ _)
    · exact ok_wk (ok_gt h _ _)
  · exact ok_wk h
theorem nn_yr (t : tw_T) (s : Nat) : nn_T (yr_N t s).1 = nn_T t := by
  obtain ⟨ra, up, f0, su, nn, wk, ki, we, ow, fr, of⟩ := t
  unfold yr_N
  dsimp only
  split
  · split
    · split <;> rfl
    · rfl
  · rfl
theorem lt_yr (t : tw_T) (s : Nat) : (yr_N t s).2 < 2147483648 := by
  obtain ⟨ra, up, f0, su, nn, wk, ki, we, ow, fr, of⟩ := t
  unfold yr_N
  dsimp only
  split
  · split
    · split <;> exact nx_lt _
    · exact nx_lt _
  · exact nx_lt _
def yi_N (t : tw_T) (s : Nat) : Nat → tw_T × Nat
  | 0 => (t, s)
  | k + 1 => yr_N (yi_N t s k).1 (yi_N t s k).2
theorem yi_ok {t : tw_T} {s : Nat} (h : ok_T t) (hs : s < 2147483648) : ∀ k, ok_T (yi_N t s k).1 ∧ nn_T (yi_N t s k).1 = nn_T t ∧ (yi_N t s k).2 < 2147483648
  | 0 => ⟨h, rfl, hs⟩
  | k + 1 => by
    have ih := yi_ok h hs k
    exact ⟨ok_yr ih.1 _, (nn_yr _ _).trans ih.2.1, lt_yr _ _⟩
theorem k_liveWeek_t (g : Nat × Int32) (P : pg_T) (ta tb t2 : tw_T) (o0 o1 : of_T) (xr : (Nat → Int32) × (Nat → Int32) × Int32 × Int32) (xs : (Nat → Int32) × (Nat → Int32)) (xa : Int32 × Int32) (rk : Nat → Int32) (s : Nat) (hs : s < 2147483648) (hok : ok_T t2) (hnn : 0 < nn_T t2) : AM 4 yX8_liveWeek cX8_liveWeek 5 none [.ref 25, .ref 39] (cw_C g P ta tb t2 o0 o1 (xr, xs, xa, nI s, rk)) (ac_R none (cw_C g P ta tb (yr_N t2 s).1 o0 o1 (xr, xs, xa, nI (yr_N t2 s).2, rk))) := by
  obtain ⟨ra, up, f0, su, nn, wk, ki, we, ow, fr, of⟩ := t2
  obtain ⟨rw, be, bl, bt⟩ := xr
  obtain ⟨sm, ev⟩ := xs
  obtain ⟨ab, ao⟩ := xa
  exact k_X8_liveWeek_2 g P ta tb o0 o1 rw be bl bt sm ev ab ao rk s ra up f0 su nn wk ki we ow fr of hs hok hnn
def al_T : tw_T → Nat
  | (_, _, _, _, nn, _, _, _, ow, _, _) => al_N nn ow
def ru_T : tw_T → Int32
  | (_, _, _, _, nn, _, _, we, ow, _, _) => ru_I nn we ow
theorem k_allOwed_t (g : Nat × Int32) (P : pg_T) (ta tb t2 : tw_T) (o0 o1 : of_T) (x : sc_T) (hn : nn_T t2 ≤ 5) : AM 3 yX8_allOwed cX8_allOwed 3 (some .int) [.ref 25] (cw_C g P ta tb t2 o0 o1 x) (ac_R (some (.int (nI (al_T t2)))) (cw_C g P ta tb t2 o0 o1 x)) := by
  obtain ⟨ra, up, f0, su, nn, wk, ki, we, ow, fr, of⟩ := t2
  exact k_X8_allOwed_2 g P ta tb o0 o1 x ra up f0 su nn wk ki we ow fr of hn
theorem k_ruinedOnes_t (g : Nat × Int32) (P : pg_T) (ta tb t2 : tw_T) (o0 o1 : of_T) (x : sc_T) (hn : nn_T t2 ≤ 5) : AM 5 yX8_ruinedOnes cX8_ruinedOnes 3 (some .int) [.ref 25] (cw_C g P ta tb t2 o0 o1 x) (ac_R (some (.int (ru_T t2))) (cw_C g P ta tb t2 o0 o1 x)) := by
  obtain ⟨ra, up, f0, su, nn, wk, ki, we, ow, fr, of⟩ := t2
  exact k_X8_ruinedOnes_2 g P ta tb o0 o1 x ra up f0 su nn wk ki we ow fr of hn
theorem c_years_out (ik : Nat) (rd : Int32) (pl : Nat) (pc : Nat → Nat) (ra up f0 su nn : Nat) (wk : Int32) (ki we ow fr of : Nat → Nat) (t1 t2 : tw_T) (oc : Nat) (oa ob os : Nat → Nat) (o1 : of_T) (x : sc_T) (ws s w : Int32) (ho : ¬ ((1 ≤ ws ∧ ws ≤ 60) ∧ ¬ s < 0 ∧ 0 ≤ w ∧ w ≤ 2)) : AM 8 yX9_years cX9_years 5 (some .int) [.ref 0, .int ws, .int s, .int w] (cw_C (ik, rd) (pl, pc) (ra, up, f0, su, nn, wk, ki, we, ow, fr, of) t1 t2 (oc, oa, ob, os) o1 x) (ac_R (some (.int (-102))) (cw_C (ik, rd) (pl, pc) (ra, up, f0, su, nn, wk, ki, we, ow, fr, of) t1 t2 (oc, oa, ob, os) o1 x)) := by
  refine AM.of (loc := [.ref 0, .int ws, .int s, .int w, .null]) RX9 rfl (by decide +kernel) (Nat.le_of_ble_eq_true rfl) rfl ?_
  refine aw_iload_1 dX9_years_0 ?_
  refine ak_iconst_1 dX9_years_1 ?_
  refine ak_bipush_60 dX9_years_2 ?_
  refine ce_X9_71 dX9_years_4 (k_X9_within _ ws 1 60) ?_
  by_cases h1 : 1 ≤ ws ∧ ws ≤ 60
  · refine aw_if_eq 23 dX9_years_7 (by decide) (fun hh => absurd hh (bI_n h1)) (fun _ => ?_)
    refine aw_iload_2 dX9_years_10 ?_
    refine aw_if_lt 23 dX9_years_11 (by decide) (fun h2 => ?_) (fun h2 => ?_)
    · refine ak_bipush_m102 dX9_years_23 ?_
      exact aw_iret dX9_years_25 rfl (⟨rfl, rfl⟩)
    refine aw_iload_3 dX9_years_14 ?_
    refine ak_iconst_0 dX9_years_15 ?_
    refine ak_iconst_2 dX9_years_16 ?_
    refine ce_X9_71 dX9_years_17 (k_X9_within _ w 0 2) ?_
    refine aw_if_ne 26 dX9_years_20 (by decide) (fun hh => absurd (bI_f (fun q => ho ⟨h1, h2, q⟩)) hh) (fun _ => ?_)
    refine ak_bipush_m102 dX9_years_23 ?_
    exact aw_iret dX9_years_25 rfl (⟨rfl, rfl⟩)
  refine aw_if_eq 23 dX9_years_7 (by decide) (fun _ => ?_) (fun hh => absurd (bI_f h1) hh)
  refine ak_bipush_m102 dX9_years_23 ?_
  exact aw_iret dX9_years_25 rfl (⟨rfl, rfl⟩)
theorem c_years_st (ik : Nat) (rd : Int32) (pl : Nat) (pc : Nat → Nat) (ra up f0 su nn : Nat) (wk : Int32) (ki we ow fr of : Nat → Nat) (t1 t2 : tw_T) (oc : Nat) (oa ob os : Nat → Nat) (o1 : of_T) (x : sc_T) (ws s w : Int32) (ho : (1 ≤ ws ∧ ws ≤ 60) ∧ ¬ s < 0 ∧ 0 ≤ w ∧ w ≤ 2) (hn : nn = 0) : AM 8 yX9_years cX9_years 5 (some .int) [.ref 0, .int ws, .int s, .int w] (cw_C (ik, rd) (pl, pc) (ra, up, f0, su, nn, wk, ki, we, ow, fr, of) t1 t2 (oc, oa, ob, os) o1 x) (ac_R (some (.int (-103))) (cw_C (ik, rd) (pl, pc) (ra, up, f0, su, nn, wk, ki, we, ow, fr, of) t1 t2 (oc, oa, ob, os) o1 x)) := by
  refine AM.of (loc := [.ref 0, .int ws, .int s, .int w, .null]) RX9 rfl (by decide +kernel) (Nat.le_of_ble_eq_true rfl) rfl ?_
  refine aw_iload_1 dX9_years_0 ?_
  refine ak_iconst_1 dX9_years_1 ?_
  refine ak_bipush_60 dX9_years_2 ?_
  refine ce_X9_71 dX9_years_4 (k_X9_within _ ws 1 60) ?_
  refine aw_if_eq 23 dX9_years_7 (by decide) (fun hh => absurd hh (bI_n ho.1)) (fun _ => ?_)
  refine aw_iload_2 dX9_years_10 ?_
  refine aw_if_lt 23 dX9_years_11 (by decide) (fun hh => absurd hh (ho.2.1)) (fun _ => ?_)
  refine aw_iload_3 dX9_years_14 ?_
  refine ak_iconst_0 dX9_years_15 ?_
  refine ak_iconst_2 dX9_years_16 ?_
  refine ce_X9_71 dX9_years_17 (k_X9_within _ w 0 2) ?_
  refine aw_if_ne 26 dX9_years_20 (by decide) (fun _ => ?_) (fun hh => absurd hh (bI_n ho.2.2))
  refine aw_aload_0 dX9_years_26 ?_
  refine gf_X9_19 dX9_years_27 rfl rfl ?_
  refine gf_X9_108 dX9_years_30 rfl rfl ?_
  refine aw_if_neN 39 dX9_years_33 (by decide) (by omega) (fun hh => absurd hh (by omega)) (fun _ => ?_)
  refine ak_bipush_m103 dX9_years_36 ?_
  exact aw_iret dX9_years_38 rfl (⟨rfl, rfl⟩)
/-- what years() tells -/
def ye_I (t : tw_T) (s ws w : Nat) : Int32 := if w = 0 then nI (al_T (yi_N t s ws).1) else if w = 1 then ru_T (yi_N t s ws).1 else nI (yi_N t s ws).2
theorem c_years_ok (ik : Nat) (rd : Int32) (pl : Nat) (pc : Nat → Nat) (ra up f0 su nn : Nat) (wk : Int32) (ki we ow fr of : Nat → Nat) (t1 t2 : tw_T) (oc : Nat) (oa ob os : Nat → Nat) (o1 : of_T) (xr : (Nat → Int32) × (Nat → Int32) × Int32 × Int32) (xs : (Nat → Int32) × (Nat → Int32)) (xa : Int32 × Int32) (sd : Int32) (rk : Nat → Int32) (ws s w : Nat) (ho : ((1 : Int32) ≤ nI ws ∧ nI ws ≤ 60) ∧ ¬ nI s < 0 ∧ (0 : Int32) ≤ nI w ∧ nI w ≤ 2) (hws : ws ≤ 60) (hs : s < 2147483648) (hw : w < 3) (hok : ok_T (ra, up, f0, su, nn, wk, ki, we, ow, fr, of)) (hn : 0 < nn) : AM 8 yX9_years cX9_years 5 (some .int) [.ref 0, .int (nI ws), .int (nI s), .int (nI w)] (cw_C (ik, rd) (pl, pc) (ra, up, f0, su, nn, wk, ki, we, ow, fr, of) t1 t2 (oc, oa, ob, os) o1 (xr, xs, xa, sd, rk)) (ac_R (some (.int (ye_I (ra, up, f0, su, nn, wk, ki, we, ow, fr, of) s ws w))) (cw_C (ik, rd) (pl, pc) (ra, up, f0, su, nn, wk, ki, we, ow, fr, of) t1 (yi_N (ra, up, f0, su, nn, wk, ki, we, ow, fr, of) s ws).1 (oc, oa, ob, os) o1 (xr, xs, xa, nI (yi_N (ra, up, f0, su, nn, wk, ki, we, ow, fr, of) s ws).2, rk))) := by
  have hu : up ≤ 1 := hok.2.1
  have hn5 : nn ≤ 5 := hok.2.2.2.2.1
  have Y := fun k => yi_ok hok hs k
  refine AM.of (loc := [.ref 0, .int (nI ws), .int (nI s), .int (nI w), .null]) RX9 rfl (by decide +kernel) (Nat.le_of_ble_eq_true rfl) rfl ?_
  refine aw_iload_1 dX9_years_0 ?_
  refine ak_iconst_1 dX9_years_1 ?_
  refine ak_bipush_60 dX9_years_2 ?_
  refine ce_X9_71 dX9_years_4 (k_X9_within _ (nI ws) 1 60) ?_
  refine aw_if_eq 23 dX9_years_7 (by decide) (fun hh => absurd hh (bI_n ho.1)) (fun _ => ?_)
  refine aw_iload_2 dX9_years_10 ?_
  refine aw_if_lt 23 dX9_years_11 (by decide) (fun hh => absurd hh (ho.2.1)) (fun _ => ?_)
  refine aw_iload_3 dX9_years_14 ?_
  refine ak_iconst_0 dX9_years_15 ?_
  refine ak_iconst_2 dX9_years_16 ?_
  refine ce_X9_71 dX9_years_17 (k_X9_within _ (nI w) 0 2) ?_
  refine aw_if_ne 26 dX9_years_20 (by decide) (fun _ => ?_) (fun hh => absurd hh (bI_n ho.2.2))
  refine aw_aload_0 dX9_years_26 ?_
  refine gf_X9_19 dX9_years_27 rfl rfl ?_
  refine gf_X9_108 dX9_years_30 rfl rfl ?_
  refine aw_if_neN 39 dX9_years_33 (by decide) (by omega) (fun _ => ?_) (fun hh => absurd hh (by omega))
  refine aw_aload_0 dX9_years_39 ?_
  refine gf_X9_63 dX9_years_40 rfl rfl ?_
  refine aw_iload_2 dX9_years_43 ?_
  refine pf_X9_238 dX9_years_44 rfl (Nat.le_of_ble_eq_true rfl) ?_
  refine aw_w cs_39_0 ?_
  refine aw_aload_0 dX9_years_47 ?_
  refine gf_X9_36 dX9_years_48 rfl rfl ?_
  refine aw_aload_0 dX9_years_51 ?_
  refine gf_X9_19 dX9_years_52 rfl rfl ?_
  refine ce_X9_241 dX9_years_55 rfl (k_X8_copyFrom_20 (ik, rd) (pl, pc) t1 (oc, oa, ob, os) o1 _ t2.1 t2.2.1 t2.2.2.1 t2.2.2.2.1 t2.2.2.2.2.1 t2.2.2.2.2.2.1 t2.2.2.2.2.2.2.1 t2.2.2.2.2.2.2.2.1 t2.2.2.2.2.2.2.2.2.1 t2.2.2.2.2.2.2.2.2.2.1 t2.2.2.2.2.2.2.2.2.2.2 ra up f0 su nn wk ki we ow fr of hu) ?_
  refine akN_iconst_0 dX9_years_58 ?_
  refine aw_istore_4 dX9_years_59 rfl (Nat.le_of_ble_eq_true rfl) ?_
  have loop : ∀ k m, m + k = ws → AW 8 RX9 cX9_years 5 (some .int) 41 (ac_R (some (.int (ye_I (ra, up, f0, su, nn, wk, ki, we, ow, fr, of) s ws w))) (cw_C (ik, rd) (pl, pc) (ra, up, f0, su, nn, wk, ki, we, ow, fr, of) t1 (yi_N (ra, up, f0, su, nn, wk, ki, we, ow, fr, of) s ws).1 (oc, oa, ob, os) o1 (xr, xs, xa, nI (yi_N (ra, up, f0, su, nn, wk, ki, we, ow, fr, of) s ws).2, rk))) 61 [.ref 0, .int (nI ws), .int (nI s), .int (nI w), .int (nI m)] [] (cw_C (ik, rd) (pl, pc) (ra, up, f0, su, nn, wk, ki, we, ow, fr, of) t1 (yi_N (ra, up, f0, su, nn, wk, ki, we, ow, fr, of) s m).1 (oc, oa, ob, os) o1 (xr, xs, xa, nI (yi_N (ra, up, f0, su, nn, wk, ki, we, ow, fr, of) s m).2, rk)) := by
    intro k
    induction k with
    | zero =>
      intro m hm
      obtain rfl : m = ws := by omega
      have hnm : nn_T (yi_N (ra, up, f0, su, nn, wk, ki, we, ow, fr, of) s m).1 ≤ 5 := by rw [(Y m).2.1]; exact hn5
      refine aw_iload_4 dX9_years_61 ?_
      refine aw_iload_1 dX9_years_63 ?_
      refine aw_icmp_geN 84 dX9_years_64 (by decide) (by omega) (by omega) (fun _ => ?_) (fun hh => absurd hh (by omega))
      refine aw_iload_3 dX9_years_84 ?_
      match w, hw with
      | 0, _ =>
        refine aw_lookup (off := 27) 112 dX9_years_85 (by decide +kernel) (by decide +kernel) (by decide) ?_
        refine aw_aload_0 dX9_years_112 ?_
        refine gf_X9_36 dX9_years_113 rfl rfl ?_
        refine ce_X9_248 dX9_years_116 rfl (k_allOwed_t _ _ _ _ _ _ _ _ hnm) ?_
        exact aw_iret dX9_years_119 rfl (⟨rfl, rfl⟩)
      | 1, _ =>
        refine aw_lookup (off := 35) 120 dX9_years_85 (by decide +kernel) (by decide +kernel) (by decide) ?_
        refine aw_aload_0 dX9_years_120 ?_
        refine gf_X9_36 dX9_years_121 rfl rfl ?_
        refine ce_X9_251 dX9_years_124 rfl (k_ruinedOnes_t _ _ _ _ _ _ _ _ hnm) ?_
        exact aw_iret dX9_years_127 rfl (⟨rfl, rfl⟩)
      | 2, _ =>
        refine aw_lookup (off := 43) 128 dX9_years_85 (by decide +kernel) (by decide +kernel) (by decide) ?_
        refine aw_aload_0 dX9_years_128 ?_
        refine gf_X9_63 dX9_years_129 rfl rfl ?_
        refine gf_X9_238 dX9_years_132 rfl rfl ?_
        exact aw_iret dX9_years_135 rfl (⟨rfl, rfl⟩)
    | succ k ih =>
      intro m hm
      refine aw_iload_4 dX9_years_61 ?_
      refine aw_iload_1 dX9_years_63 ?_
      refine aw_icmp_geN 84 dX9_years_64 (by decide) (by omega) (by omega) (fun hh => absurd hh (by omega)) (fun _ => ?_)
      refine aw_aload_0 dX9_years_67 ?_
      refine gf_X9_36 dX9_years_68 rfl rfl ?_
      refine aw_aload_0 dX9_years_71 ?_
      refine gf_X9_63 dX9_years_72 rfl rfl ?_
      refine ce_X9_244 dX9_years_75 rfl (k_liveWeek_t _ _ _ _ _ _ _ xr xs xa rk _ (Y m).2.2 (Y m).1 (by rw [(Y m).2.1]; exact hn)) ?_
      refine aw_iincN_4 dX9_years_78 rfl (Nat.le_of_ble_eq_true rfl) ?_
      refine aw_goto 61 dX9_years_81 (by decide) ?_
      exact ih (m + 1) (by omega)
  exact loop ws 0 (by omega)
