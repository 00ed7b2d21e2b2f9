/-! ===== both accept the same ===== -/
theorem s_64 : ∀ S : Nat, S < 64 → ∀ P : Nat, P < 64 → (∀ k : Nat, k < 6 → bt_P P k → bt_P S k) → P &&& S = P := by decide +kernel
theorem s_65 : ∀ S : Nat, S < 64 → ∀ P : Nat, P < 64 → P &&& S = P → ∀ k : Nat, k < 6 → bt_P P k → bt_P S k := by decide +kernel
theorem bt_lt {c n k : Nat} (hc : c < 2 ^ n) (hb : bt_P c k) : k < n := by
  by_cases q : k < n
  · exact q
  · have : c / 2 ^ k = 0 := Nat.div_eq_of_lt (Nat.lt_of_lt_of_le hc (Nat.pow_le_pow_right (by decide) (by omega)))
    have hb : c / 2 ^ k % 2 = 1 := hb
    rw [this] at hb
    exact absurd hb (by decide)
theorem iv_iff (ob : Nat → Nat) (p c : Nat) : ∀ j, iv_B ob p c j = true ↔ ∀ k, k < j → bt_P c k → ob k = p
  | 0 => ⟨fun _ k hk => absurd hk (Nat.not_lt_zero _), fun _ => rfl⟩
  | j + 1 => by
    have ih := iv_iff ob p c j
    show (iv_B ob p c j && (!decide (bt_P c j) || decide (ob j = p))) = true ↔ _
    rw [Bool.and_eq_true, ih]
    constructor
    · intro ⟨h1, h2⟩ k hk hb
      by_cases q : k = j
      · subst q
        rw [decide_eq_true hb] at h2
        simpa using h2
      · exact h1 k (by omega) hb
    · intro h
      refine ⟨fun k hk hb => h k (by omega) hb, ?_⟩
      by_cases q : bt_P c j
      · rw [decide_eq_true (h j (by omega) q)]
        simp
      · rw [decide_eq_false q]
        rfl
theorem iv_bf {ob : Nat → Nat} {p c oc : Nat} (ho : oc ≤ 6) (hc : c < 2 ^ oc) : iv_B ob p c oc = true ↔ c &&& bf_N ob p oc = c := by
  have h6 : 2 ^ oc ≤ 64 := Nat.pow_le_pow_right (by decide) ho
  have hb : bf_N ob p oc < 2 ^ oc := bf_lt ob p oc
  have hbt : ∀ k, k < oc → (bt_P (bf_N ob p oc) k ↔ ob k = p) := fun k hk => bs_bt (fun k => ob k = p) oc k hk
  rw [iv_iff]
  constructor
  · intro h
    refine s_64 _ (by omega) _ (by omega) (fun k hk hbk => ?_)
    have hko := bt_lt hc hbk
    exact (hbt k hko).mpr (h k hko hbk)
  · intro h k hk hbk
    exact (hbt k hk).mp (s_65 _ (by omega) _ (by omega) h k (by omega) hbk)
theorem ig_succ (up tn : Nat) : ∀ n o, ig_N up tn (n + 1) o = gr_N up tn (ig_N up tn n o)
  | 0, o => rfl
  | n + 1, o => by
    rw [ig_N, ig_succ up tn n]
    rfl
def fr_T (t : tw_T) : Nat → Nat := t.2.2.2.2.2.2.2.2.2.1
theorem it_pair (ra up f0 su nn : Nat) (wk : Int32) (ki we ow fr of : Nat → Nat) {p q : Nat} (hp : p < nn) (hq : q < nn) (hn : nn ≤ 5) : ∀ m, ow_T (it_T (ra, up, f0, su, nn, wk, ki, we, ow, fr, of) m) (5 * p + q) = ig_N up (tn_N ra (ki p) (ki q)) (m - fr (5 * p + q)) (ow (5 * p + q)) ∧ fr_T (it_T (ra, up, f0, su, nn, wk, ki, we, ow, fr, of) m) (5 * p + q) = fr (5 * p + q) - m
  | 0 => ⟨by rw [Nat.zero_sub]; rfl, rfl⟩
  | m + 1 => by
    obtain ⟨h1, h2⟩ := it_pair ra up f0 su nn wk ki we ow fr of hp hq hn m
    obtain ⟨wz, hz⟩ := it_A ra up f0 su nn wk ki we ow fr of m
    rw [it_T, hz]
    rw [hz] at h1 h2
    have e1 : (5 * p + q) / 5 = p := by omega
    have e2 : (5 * p + q) % 5 = q := by omega
    generalize (ai_A nn ra up ki (ow, fr, of) m).1 = O at *
    generalize (ai_A nn ra up ki (ow, fr, of) m).2.1 = F at *
    have h1 : O (5 * p + q) = _ := h1
    have h2 : F (5 * p + q) = _ := h2
    constructor
    · show (if (5 * p + q) / 5 < nn ∧ (5 * p + q) % 5 < nn then nw_N ra up ki O F (5 * p + q) else O (5 * p + q)) = _
      rw [e1, e2, if_pos ⟨hp, hq⟩]
      show (if F (5 * p + q) = 0 then gr_N up (tn_N ra (ki ((5 * p + q) / 5)) (ki ((5 * p + q) % 5))) (O (5 * p + q)) else O (5 * p + q)) = _
      rw [e1, e2, h1, h2]
      by_cases r : fr (5 * p + q) ≤ m
      · rw [if_pos (by omega), show m + 1 - fr (5 * p + q) = (m - fr (5 * p + q)) + 1 by omega, ig_succ]
      · rw [if_neg (by omega), show m + 1 - fr (5 * p + q) = m - fr (5 * p + q) by omega]
    · show (if (5 * p + q) / 5 < nn ∧ (5 * p + q) % 5 < nn then F (5 * p + q) - 1 else F (5 * p + q)) = _
      rw [e1, e2, if_pos ⟨hp, hq⟩, h2]
      omega
theorem tf_pair (ra up f0 su nn : Nat) (wk : Int32) (ki we ow fr of oa ob os : Nat → Nat) (p q c : Nat) (hq : q < 5) (how : ∀ k, ow k ≤ 9999) : ∀ j, (∀ k, oa k ≤ 4) → (∀ k, k < j → 1 ≤ os k) → (∀ k, k < j → bt_P c k → ob k = p) → ow_T (tf_T (ra, up, f0, su, nn, wk, ki, we, ow, fr, of) oa ob os c j) (5 * p + q) = min 9999 (ow (5 * p + q) + sf_N oa os q c j) ∧ fr_T (tf_T (ra, up, f0, su, nn, wk, ki, we, ow, fr, of) oa ob os c j) (5 * p + q) = (if 0 < sf_N oa os q c j then max (fr (5 * p + q)) f0 else fr (5 * p + q))
  | 0, _, _, _ => by
    have h := how (5 * p + q)
    refine ⟨?_, rfl⟩
    show ow (5 * p + q) = min 9999 (ow (5 * p + q) + 0)
    omega
  | j + 1, ha, hs, hob => by
    obtain ⟨h1, h2⟩ := tf_pair ra up f0 su nn wk ki we ow fr of oa ob os p q c hq how j ha (fun k hk => hs k (by omega)) (fun k hk => hob k (by omega))
    obtain ⟨O, F, hT⟩ := tf_A ra up f0 su nn wk ki we ow fr of oa ob os c j
    have eS : sf_N oa os q c (j + 1) = sf_N oa os q c j + (if bt_P c j ∧ oa j = q then os j else 0) := rfl
    rw [tf_T, eS]
    by_cases r : bt_P c j
    · rw [if_pos r, hT, hob j (by omega) r]
      rw [hT] at h1 h2
      have h1 : O (5 * p + q) = _ := h1
      have h2 : F (5 * p + q) = _ := h2
      have haj := ha j
      have hsj := hs j (by omega)
      by_cases u : oa j = q
      · rw [if_pos ⟨r, u⟩, u]
        constructor
        · show va_up O (5 * p + q) (min 9999 (O (5 * p + q) + os j)) (5 * p + q) = _
          rw [up_at, h1]
          omega
        · show va_up F (5 * p + q) (max (F (5 * p + q)) f0) (5 * p + q) = _
          rw [up_at, h2, if_pos (show 0 < sf_N oa os q c j + os j by omega)]
          split <;> omega
      · rw [if_neg (fun z => u z.2), Nat.add_zero]
        constructor
        · show va_up O (5 * p + oa j) _ (5 * p + q) = _
          rw [up_ne (by omega), h1]
        · show va_up F (5 * p + oa j) _ (5 * p + q) = _
          rw [up_ne (by omega), h2]
    · rw [if_neg r, if_neg (fun z => r z.1), Nat.add_zero]
      exact ⟨h1, h2⟩
theorem vm_vl {ra up f0 su nn : Nat} {wk : Int32} {ki we ow fr of : Nat → Nat} (hok : ok_T (ra, up, f0, su, nn, wk, ki, we, ow, fr, of)) {oc : Nat} {oa ob os : Nat → Nat} (hoO : ok_O (oc, oa, ob, os)) (hos : ∀ k, k < oc → 1 ≤ os k) {p need wks c : Nat} (hp : p < nn) (hc : c < 2 ^ oc) : vm_N (ra, up, f0, su, nn, wk, ki, we, ow, fr, of) oc oa ob os p need wks c = vl_N ra up f0 nn ki ow fr oc oa ob os p need wks c := by
  have hn : nn ≤ 5 := hok.2.2.2.2.1
  unfold vm_N vl_N
  by_cases q : iv_B ob p c oc = true ∧ need ≤ sz_N os c oc
  · rw [if_pos q, if_pos ⟨(iv_bf hoO.1 hc).mp q.1, q.2⟩]
    congr 1
    refine fb_sm_cong (fun x hx => ?_)
    have hx : x < nn := hx
    obtain ⟨h1, h2⟩ := tf_pair ra up f0 su nn wk ki we ow fr of oa ob os p x c (by omega) hok.2.2.2.2.2.2.2.1 oc hoO.2.1 hos ((iv_iff ob p c oc).mp q.1)
    obtain ⟨O, F, hT⟩ := tf_A ra up f0 su nn wk ki we ow fr of oa ob os c oc
    rw [hT] at h1 h2
    have h1 : O (5 * p + x) = _ := h1
    have h2 : F (5 * p + x) = _ := h2
    rw [hT, (it_pair ra up f0 su nn wk ki we O F of hp hx hn wks).1, h1, h2]
    rfl
  · rw [if_neg q, if_neg (fun z => q ⟨(iv_bf hoO.1 hc).mpr z.1, z.2⟩)]
theorem af_c {f g : Nat → Option Nat} : ∀ {n : Nat}, (∀ c, c < n → f c = g c) → af_N f n = af_N g n
  | 0, _ => rfl
  | n + 1, h => by rw [af_N, af_N, h n (by omega), af_c (fun c hc => h c (by omega))]
theorem af_no {f : Nat → Option Nat} {n : Nat} : ∀ i, (∀ c, n ≤ c → c < n + i → f c = none) → af_N f (n + i) = af_N f n
  | 0, _ => rfl
  | i + 1, h => by
    rw [show n + (i + 1) = (n + i) + 1 by omega, af_N, h (n + i) (by omega) (by omega)]
    exact af_no i (fun c h1 h2 => h c h1 (by omega))
theorem ac_eq {ra up f0 su nn : Nat} {wk : Int32} {ki we ow fr of : Nat → Nat} (hok : ok_T (ra, up, f0, su, nn, wk, ki, we, ow, fr, of)) {oc : Nat} {oa ob os : Nat → Nat} (hoO : ok_O (oc, oa, ob, os)) (hos : ∀ k, k < oc → 1 ≤ os k) {p need wks : Nat} (hp : p < nn) : af_N (vm_N (ra, up, f0, su, nn, wk, ki, we, ow, fr, of) oc oa ob os p need wks) (2 ^ oc) = af_N (vl_N ra up f0 nn ki ow fr oc oa ob os p need wks) (bf_N ob p oc + 1) := by
  rw [af_c (fun c hc => vm_vl hok hoO hos hp hc)]
  have hb := bf_lt ob p oc
  have h := af_no (f := vl_N ra up f0 nn ki ow fr oc oa ob os p need wks) (n := bf_N ob p oc + 1) (2 ^ oc - (bf_N ob p oc + 1)) (fun c h1 h2 => if_neg (fun z => by
    have : c &&& bf_N ob p oc ≤ bf_N ob p oc := Nat.and_le_right
    have := z.1
    omega))
  rw [show bf_N ob p oc + 1 + (2 ^ oc - (bf_N ob p oc + 1)) = 2 ^ oc by omega] at h
  exact h
