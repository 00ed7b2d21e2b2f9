/-! ===== both find the same best ring ===== -/
theorem fo_app {α : Type} (f : Nat → α → α) : ∀ a b s x, fo_B f s (a + b) x = fo_B f (s + a) b (fo_B f s a x)
  | 0, b, s, x => by rw [Nat.zero_add]; rfl
  | a + 1, b, s, x => by
    rw [show a + 1 + b = (a + b) + 1 by omega, fo_B, fo_app f a b (s + 1), show s + 1 + a = s + (a + 1) by omega]
    rfl
theorem fo_idr {α : Type} {f : Nat → α → α} {x : α} : ∀ n s, (∀ d, s ≤ d → d < s + n → f d x = x) → fo_B f s n x = x
  | 0, _, _ => rfl
  | n + 1, s, h => by
    rw [fo_B, h s (Nat.le_refl _) (by omega)]
    exact fo_idr n (s + 1) (fun d h1 h2 => h d (by omega) (by omega))
theorem fo_blk {α : Type} (f : Nat → α → α) (a b : Nat) : ∀ n i x, fo_B f (a + i * b) (n * b) x = fo_B (fun d x => fo_B f (a + d * b) b x) i n x
  | 0, i, x => by rw [Nat.zero_mul]; rfl
  | n + 1, i, x => by
    rw [Nat.succ_mul, Nat.add_comm (n * b) b, fo_app, show a + i * b + b = a + (i + 1) * b by rw [Nat.succ_mul]; omega, fo_blk f a b n (i + 1)]
    rfl
/-- two folds go side by side -/
theorem fo_rel {α β : Type} {R : α → β → Prop} {f : Nat → α → α} {g : Nat → β → β} : ∀ n s x y, R x y → (∀ d, s ≤ d → d < s + n → ∀ x y, R x y → R (f d x) (g d y)) → R (fo_B f s n x) (fo_B g s n y)
  | 0, _, _, _, h, _ => h
  | n + 1, s, x, y, h, hs => by
    rw [fo_B, fo_B]
    exact fo_rel n (s + 1) _ _ (hs s (Nat.le_refl _) (by omega) x y h) (fun d h1 h2 => hs d (by omega) (by omega))
def rb_R (B : bs_T) (s : Nat × Nat × Nat) : Prop := B.1 = s.1 ∧ B.2.1 = s.2.2 ∧ ∀ k, k < B.2.1 → B.2.2 k = nI (dg_N s.2.1 s.2.2 k)
theorem ir_c {r r' : Nat → Nat} (x : Nat) : ∀ {j : Nat}, (∀ k, k < j → r k = r' k) → ir_B r x j = ir_B r' x j
  | 0, _ => rfl
  | j + 1, h => by rw [ir_B, ir_B, ir_c x (fun k hk => h k (by omega)), h j (by omega)]
theorem vr_c {nn : Nat} {r r' : Nat → Nat} (h0 : r 0 = r' 0) : ∀ {j : Nat}, (∀ k, k < j → r k = r' k) → vr_B nn r j = vr_B nn r' j
  | 0, _ => rfl
  | j + 1, h => by
    rw [vr_B, vr_B, vr_c h0 (fun k hk => h k (by omega)), h j (by omega), ir_c _ (fun k hk => h k (by omega)), h0]
theorem vr_pre {nn : Nat} {r : Nat → Nat} {j : Nat} (h : vr_B nn r j = false) : ∀ m, vr_B nn r (j + m) = false
  | 0 => h
  | m + 1 => by
    show (vr_B nn r (j + m) && _) = false
    rw [vr_pre h m]
    rfl
theorem dg_blk {c j m : Nat} (C : Nat) (h : C / 5 ^ m = c) {k : Nat} (hk : k < j) : dg_N C (j + m) k = dg_N c j k := by
  unfold dg_N
  rw [show j + m - 1 - k = m + (j - 1 - k) by omega, Nat.pow_add, ← Nat.div_div_eq_div_mul, h]
theorem rs_no {nn : Nat} {ow : Nat → Nat} {len C : Nat} (h : vr_B nn (dg_N C len) len = false) (s : Nat × Nat × Nat) : rs_F nn ow len C s = s := by
  obtain ⟨bt, bc, bl⟩ := s
  have h0 : rg_N nn ow (dg_N C len) len = 0 := if_neg (by rw [h]; decide)
  show (if bt < len * rg_N nn ow (dg_N C len) len then _ else _) = _
  rw [h0, Nat.mul_zero, if_neg (Nat.not_lt_zero _)]
theorem bl_no {nn : Nat} {ow : Nat → Nat} {j m c : Nat} (hj : 1 ≤ j) (h : vr_B nn (dg_N c j) j = false) (s : Nat × Nat × Nat) : fo_B (rs_F nn ow (j + m)) (c * 5 ^ m) (5 ^ m) s = s := by
  refine fo_idr _ _ (fun C h1 h2 => rs_no ?_ s)
  have hp : 0 < 5 ^ m := Nat.pow_pos (by decide)
  have hC : C / 5 ^ m = c := by
    have e : C = (C - c * 5 ^ m) + c * 5 ^ m := by omega
    rw [e, Nat.add_mul_div_right _ _ hp, Nat.div_eq_of_lt (by omega), Nat.zero_add]
  refine vr_pre ?_ m
  rw [vr_c (r' := dg_N c j) (dg_blk C hC (by omega)) (fun k hk => dg_blk C hC hk)]
  exact h
/-- the least of so many steps of a row -/
def me_N (ow r : Nat → Nat) : Nat → Nat
  | 0 => 9999
  | i + 1 => min (me_N ow r i) (ow (5 * r i + r (i + 1)))
theorem me_rl {ow r : Nat → Nat} (len : Nat) : ∀ i, i < len → min 9999 (rl_N ow r len i) = me_N ow r i
  | 0, _ => rfl
  | i + 1, h => by
    have ih := me_rl (ow := ow) (r := r) len i (by omega)
    rw [rl_N, me_N, ← ih, Nat.mod_eq_of_lt h]
    omega
theorem me_c {ow r r' : Nat → Nat} : ∀ {i : Nat}, (∀ k, k ≤ i → r k = r' k) → me_N ow r i = me_N ow r' i
  | 0, _ => rfl
  | i + 1, h => by rw [me_N, me_N, me_c (fun k hk => h k (by omega)), h i (by omega), h (i + 1) (by omega)]
theorem rl_me {ow : Nat → Nat} (how : ∀ k, ow k ≤ 9999) (r : Nat → Nat) {len : Nat} (hl : 1 ≤ len) : rl_N ow r len len = min (me_N ow r (len - 1)) (ow (5 * r (len - 1) + r 0)) := by
  match len, hl with
  | l + 1, _ =>
    have h1 := me_rl (ow := ow) (r := r) (l + 1) l (by omega)
    have h2 := how (5 * r l + r 0)
    rw [rl_N, Nat.mod_self, Nat.add_sub_cancel, ← h1]
    omega
theorem dg_up {c j d : Nat} (hd : d < 5) {k : Nat} (hk : k < j) : dg_N (5 * c + d) (j + 1) k = dg_N c j k := by
  have h := dg_blk (c := c) (j := j) (m := 1) (5 * c + d) (by omega) hk
  exact h
theorem dg_top {c j d : Nat} (hd : d < 5) : dg_N (5 * c + d) (j + 1) j = d := by
  unfold dg_N
  rw [show j + 1 - 1 - j = 0 by omega, Nat.pow_zero, Nat.div_one]
  omega
theorem rb_cl {nn : Nat} {ow : Nat → Nat} (how : ∀ k, ow k ≤ 9999) {len c : Nat} (hl : 1 ≤ len) {r : Nat → Nat} (hr : ∀ k, k < len → r k = dg_N c len k) (hv : vr_B nn r len = true) {B : bs_T} {s : Nat × Nat × Nat} (h : rb_R B s) : rb_R (cl_B B r len (min (me_N ow r (len - 1)) (ow (5 * r (len - 1) + r 0)))) (rs_F nn ow len c s) := by
  obtain ⟨bt, bl, be⟩ := B
  obtain ⟨st, sc, sl⟩ := s
  obtain ⟨h1, h2, h3⟩ := h
  have h1 : bt = st := h1
  have h2 : bl = sl := h2
  subst h1 h2
  have hv2 : vr_B nn (dg_N c len) len = true := by rw [← vr_c (r := r) (hr 0 (by omega)) hr]; exact hv
  have e : rg_N nn ow (dg_N c len) len = min (me_N ow r (len - 1)) (ow (5 * r (len - 1) + r 0)) := by
    rw [rg_N, if_pos hv2, rl_me how _ hl, me_c (r := dg_N c len) (r' := r) (fun k hk => (hr k (by omega)).symm), hr (len - 1) (by omega), hr 0 (by omega)]
  show rb_R (if bt < min (me_N ow r (len - 1)) (ow (5 * r (len - 1) + r 0)) * len then (min (me_N ow r (len - 1)) (ow (5 * r (len - 1) + r 0)) * len, len, fun k => if k < len then nI (r k) else be k) else (bt, bl, be)) (if bt < len * rg_N nn ow (dg_N c len) len then (len * rg_N nn ow (dg_N c len) len, c, len) else (bt, sc, bl))
  rw [e, Nat.mul_comm len]
  by_cases q : bt < min (me_N ow r (len - 1)) (ow (5 * r (len - 1) + r 0)) * len
  · rw [if_pos q, if_pos q]
    refine ⟨rfl, rfl, fun k hk => ?_⟩
    have hk : k < len := hk
    show (if k < len then nI (r k) else be k) = _
    rw [if_pos hk, hr k hk]
  · rw [if_neg q, if_neg q]
    exact ⟨rfl, rfl, h3⟩
theorem rb_ex {nn : Nat} {ow : Nat → Nat} (hn : nn ≤ 5) (how : ∀ k, ow k ≤ 9999) (len : Nat) : ∀ m j c (r : Nat → Nat) (B : bs_T) (s : Nat × Nat × Nat), len = j + m → 1 ≤ j → (∀ k, k < j → r k = dg_N c j k) → vr_B nn r j = true → rb_R B s → rb_R (ex_N nn ow m r j len (me_N ow r (j - 1)) B) (fo_B (rs_F nn ow len) (c * 5 ^ m) (5 ^ m) s)
  | 0, j, c, r, B, s, hl, hj, hr, hv, h => by
    obtain rfl : j = len := by omega
    rw [Nat.pow_zero, Nat.mul_one]
    exact rb_cl how hj hr hv h
  | m + 1, j, c, r, B, s, hl, hj, hr, hv, h => by
    have hr0 : r 0 < nn := by
      have hv1 : ∀ i, vr_B nn r (1 + i) = true → r 0 < nn := by
        intro i
        induction i with
        | zero =>
          intro q
          have q : (true && (decide (r 0 < nn) && (!ir_B r (r 0) 0 && decide (r 0 ≤ r 0)))) = true := q
          simp at q
          exact q.1
        | succ i ih =>
          intro q
          have q : (vr_B nn r (1 + i) && _) = true := q
          rw [Bool.and_eq_true] at q
          exact ih q.1
      exact hv1 (j - 1) (by rw [show 1 + (j - 1) = j by omega]; exact hv)
    have e5 : c * 5 ^ (m + 1) = c * 5 ^ (m + 1) + 0 * 5 ^ m := by omega
    have e6 : 5 ^ (m + 1) = 5 * 5 ^ m := by rw [Nat.pow_succ, Nat.mul_comm]
    have eB : ∀ d, c * 5 ^ (m + 1) + d * 5 ^ m = (5 * c + d) * 5 ^ m := fun d => by
      rw [Nat.add_mul, Nat.pow_succ, Nat.mul_comm (5 ^ m) 5, ← Nat.mul_assoc, Nat.mul_comm c 5]
    have hbl : fo_B (rs_F nn ow len) (c * 5 ^ (m + 1)) (5 ^ (m + 1)) s = fo_B (fun d x => fo_B (rs_F nn ow len) ((5 * c + d) * 5 ^ m) (5 ^ m) x) 0 5 s := by
      have h := fo_blk (rs_F nn ow len) (c * 5 ^ (m + 1)) (5 ^ m) 5 0 s
      rw [← e5, ← e6] at h
      rw [h]
      congr 1
      funext d x
      rw [eB]
    have hrow : ∀ d, d < 5 → ∀ k, k < j + 1 → va_up r j d k = dg_N (5 * c + d) (j + 1) k := by
      intro d hd k hk
      by_cases q : k = j
      · subst q
        rw [up_at, dg_top hd]
      · rw [up_ne q, dg_up hd (by omega)]
        exact hr k (by omega)
    have hvd : ∀ d, d < 5 → vr_B nn (dg_N (5 * c + d) (j + 1)) (j + 1) = (decide (d < nn) && (!ir_B r d j && decide (r 0 ≤ d))) := by
      intro d hd
      have hr' : ∀ k, k < j → dg_N (5 * c + d) (j + 1) k = r k := fun k hk => by rw [dg_up hd hk, hr k hk]
      rw [vr_B, dg_top hd, vr_c (r' := r) (hr' 0 (by omega)) hr', hv, ir_c (r' := r) d hr', hr' 0 (by omega)]
      rfl
    have hno : ∀ d, d < 5 → (decide (d < nn) && (!ir_B r d j && decide (r 0 ≤ d))) = false → ∀ x, fo_B (rs_F nn ow len) ((5 * c + d) * 5 ^ m) (5 ^ m) x = x := by
      intro d hd hf x
      have := bl_no (nn := nn) (ow := ow) (j := j + 1) (m := m) (c := 5 * c + d) (by omega) (by rw [hvd d hd]; exact hf) x
      rw [show j + 1 + m = len by omega] at this
      exact this
    have hir0 : ir_B r (r 0) j = true := by
      have : ∀ i, ir_B r (r 0) (1 + i) = true := by
        intro i
        induction i with
        | zero => show (false || decide (r 0 = r 0)) = true; simp
        | succ i ih => show (ir_B r (r 0) (1 + i) || _) = true; rw [ih]; rfl
      have := this (j - 1)
      rw [show 1 + (j - 1) = j by omega] at this
      exact this
    rw [hbl, show (5 : Nat) = (r 0 + 1) + ((nn - (r 0 + 1)) + (5 - nn)) by omega, fo_app, fo_app]
    rw [← show (5 : Nat) = (r 0 + 1) + ((nn - (r 0 + 1)) + (5 - nn)) by omega]
    rw [fo_idr (x := s) (r 0 + 1) 0 (fun d h1 h2 => hno d (by omega) (by
      by_cases q : d = r 0
      · subst q
        rw [hir0]
        simp
      · rw [decide_eq_false (p := r 0 ≤ d) (by omega)]
        simp) s)]
    rw [fo_idr (5 - nn) _ (fun d h1 h2 => hno d (by omega) (by rw [decide_eq_false (p := d < nn) (by omega)]; rfl) _)]
    rw [ex_N, Nat.zero_add]
    refine fo_rel _ _ _ _ h (fun d h1 h2 x y hxy => ?_)
    by_cases q : ir_B r d j = true
    · rw [if_pos q, hno d (by omega) (by rw [q]; simp) y]
      exact hxy
    · rw [if_neg q]
      have hq : ir_B r d j = false := by simpa using q
      have hv' : vr_B nn (va_up r j d) (j + 1) = true := by
        rw [vr_c (r' := dg_N (5 * c + d) (j + 1)) (hrow d (by omega) 0 (by omega)) (hrow d (by omega)), hvd d (by omega), hq, decide_eq_true (show d < nn by omega), decide_eq_true (show r 0 ≤ d by omega)]
        rfl
      have ih := rb_ex hn how len m (j + 1) (5 * c + d) (va_up r j d) x y (by omega) (by omega) (hrow d (by omega)) hv' hxy
      have em : me_N ow (va_up r j d) (j + 1 - 1) = min (me_N ow r (j - 1)) (ow (5 * r (j - 1) + d)) := by
        match j, hj with
        | i + 1, _ =>
          show min (me_N ow (va_up r (i + 1) d) i) (ow (5 * va_up r (i + 1) d i + va_up r (i + 1) d (i + 1))) = _
          rw [up_at, up_ne (by omega), me_c (r' := r) (fun k hk => up_ne (by omega))]
          rfl
      rw [em] at ih
      exact ih
theorem rb_se {nn : Nat} {ow : Nat → Nat} (hn : nn ≤ 5) (how : ∀ k, ow k ≤ 9999) (be : Nat → Int32) : rb_R (se_B nn ow be) (sr_B nn ow) := by
  unfold se_B sr_B
  refine fo_rel 3 2 _ _ ⟨rfl, rfl, fun k hk => absurd hk (Nat.not_lt_zero _)⟩ (fun len h1 h2 x y hxy => ?_)
  obtain ⟨m, rfl⟩ : ∃ m, len = 1 + m := ⟨len - 1, by omega⟩
  have hb := fo_blk (rs_F nn ow (1 + m)) 0 (5 ^ m) 5 0 y
  rw [Nat.zero_mul, Nat.zero_add, show 5 * 5 ^ m = 5 ^ (1 + m) by rw [Nat.add_comm, Nat.pow_succ, Nat.mul_comm]] at hb
  rw [hb, show (5 : Nat) = nn + (5 - nn) by omega, fo_app]
  rw [← show (5 : Nat) = nn + (5 - nn) by omega]
  have hv : ∀ d, vr_B nn (dg_N d 1) 1 = decide (dg_N d 1 0 < nn) := fun d => by
    show (true && (decide (dg_N d 1 0 < nn) && (!false && decide (dg_N d 1 0 ≤ dg_N d 1 0)))) = _
    simp
  have h0 : ∀ d, d < 5 → dg_N d 1 0 = d := fun d hd => by
    show d / 5 ^ 0 % 5 = d
    rw [Nat.pow_zero, Nat.div_one]
    omega
  rw [fo_idr (5 - nn) _ (fun d h1 h2 => by
    rw [Nat.zero_add]
    exact bl_no (by omega) (by rw [hv, h0 d (by omega)]; exact decide_eq_false (by omega)) _)]
  refine fo_rel _ _ _ _ hxy (fun d h1 h2 x y hxy => ?_)
  rw [Nat.zero_add, Nat.add_sub_cancel_left]
  refine rb_ex hn how (1 + m) m 1 d (fun _ => d) x y rfl (by omega) (fun k hk => ?_) ?_ hxy
  · obtain rfl : k = 0 := by omega
    rw [h0 d (by omega)]
  · show (true && (decide (d < nn) && (!false && decide (d ≤ d)))) = true
    rw [decide_eq_true (show d < nn by omega), decide_eq_true (Nat.le_refl d)]
    rfl
theorem tl_tm {nn : Nat} {ow : Nat → Nat} (hn : nn ≤ 5) (how : ∀ k, ow k ≤ 9999) (be : Nat → Int32) (w : Nat) : tl_I (se_B nn ow be) w = tm_I (sr_B nn ow) w := by
  obtain ⟨h1, h2, h3⟩ := rb_se hn how be
  generalize se_B nn ow be = B at h1 h2 h3
  generalize sr_B nn ow = s at h1 h2 h3
  obtain ⟨st, sc, sl⟩ := s
  show (if w = 0 then nI B.1 else if w = 1 then nI B.2.1 else if w - 10 < B.2.1 then B.2.2 (w - 10) else -1) = (if w = 0 then nI st else if w = 1 then nI sl else if w - 10 < sl then nI (dg_N sc sl (w - 10)) else -1)
  have h1 : B.1 = st := h1
  have h2 : B.2.1 = sl := h2
  rw [h1, h2]
  by_cases q : w - 10 < sl
  · rw [if_pos q, if_pos q, h3 _ (by rw [h2]; exact q)]
  · rw [if_neg q, if_neg q]
