/-! ===== what looks only at the kinds of those who are there ===== -/
theorem wO_k {nn ra up : Nat} {ki k2 : Nat → Nat} (h : ∀ k, k < nn → k2 k = ki k) (ow fr : Nat → Nat) : wO_N nn ra up k2 ow fr = wO_N nn ra up ki ow fr := by
  funext k
  unfold wO_N
  by_cases q : k / 5 < nn ∧ k % 5 < nn
  · rw [if_pos q, if_pos q]
    unfold nw_N
    rw [h _ q.1, h _ q.2]
  · rw [if_neg q, if_neg q]
theorem gs_k {nn ra up : Nat} {ki k2 : Nat → Nat} (h : ∀ k, k < nn → k2 k = ki k) (ow fr : Nat → Nat) : gs_I nn ra up k2 ow fr = gs_I nn ra up ki ow fr := by
  unfold gs_I
  rw [wO_k h]
theorem ai_k {nn ra up : Nat} {ki k2 : Nat → Nat} (h : ∀ k, k < nn → k2 k = ki k) (A : (Nat → Nat) × (Nat → Nat) × (Nat → Nat)) : ∀ m, ai_A nn ra up k2 A m = ai_A nn ra up ki A m
  | 0 => rfl
  | m + 1 => by
    rw [ai_A, ai_A, ai_k h A m]
    unfold as_A
    rw [wO_k h]
theorem rn_k {ra up f0 su nn : Nat} {wk : Int32} {ki k2 we ow fr of : Nat → Nat} (h : ∀ k, k < nn → k2 k = ki k) (p : Nat) : ∀ m, rn_I (ra, up, f0, su, nn, wk, k2, we, ow, fr, of) p m = rn_I (ra, up, f0, su, nn, wk, ki, we, ow, fr, of) p m
  | 0 => rfl
  | m + 1 => by
    obtain ⟨wa, ha⟩ := it_A ra up f0 su nn wk k2 we ow fr of m
    obtain ⟨wb, hb⟩ := it_A ra up f0 su nn wk ki we ow fr of m
    rw [rn_I, rn_I, rn_k h p m, ha, hb, ai_k h]
    rfl
/-- a town with other kinds -/
def kx_T : tw_T → (Nat → Nat) → tw_T
  | (ra, up, f0, su, nn, wk, _, we, ow, fr, of), k2 => (ra, up, f0, su, nn, wk, k2, we, ow, fr, of)
def ki_T (t : tw_T) : Nat → Nat := t.2.2.2.2.2.2.1
theorem wk_kx {t : tw_T} {k2 : Nat → Nat} (h : ∀ k, k < nn_T t → k2 k = ki_T t k) : wk_T (kx_T t k2) = kx_T (wk_T t) k2 := by
  obtain ⟨ra, up, f0, su, nn, wk, ki, we, ow, fr, of⟩ := t
  show (ra, up, f0, su, nn, wk + 1, k2, we, wO_N nn ra up k2 ow fr, wM_N nn fr, wM_N nn of) = (ra, up, f0, su, nn, wk + 1, k2, we, wO_N nn ra up ki ow fr, wM_N nn fr, wM_N nn of)
  have h : ∀ k, k < nn → k2 k = ki k := h
  rw [wO_k h]
theorem yr_kx {ra up f0 su nn : Nat} {wk : Int32} {ki we ow fr of k2 : Nat → Nat} (hn : 0 < nn) (h : ∀ k, k < nn → k2 k = ki k) (s : Nat) : yr_N (ra, up, f0, su, nn, wk, k2, we, ow, fr, of) s = (kx_T (yr_N (ra, up, f0, su, nn, wk, ki, we, ow, fr, of) s).1 k2, (yr_N (ra, up, f0, su, nn, wk, ki, we, ow, fr, of) s).2) ∧ ki_T (yr_N (ra, up, f0, su, nn, wk, ki, we, ow, fr, of) s).1 = ki := by
  have ha : dr_N s nn < nn := Nat.mod_lt _ hn
  have hb : dr_N (nx_N s) nn < nn := Nat.mod_lt _ hn
  have e1 := h _ ha
  have e2 := h _ hb
  have g1 : gt_T (ra, up, f0, su, nn, wk, k2, we, ow, fr, of) (dr_N s nn) (dr_N (nx_N s) nn) = kx_T (gt_T (ra, up, f0, su, nn, wk, ki, we, ow, fr, of) (dr_N s nn) (dr_N (nx_N s) nn)) k2 := by
    show (ra, up, f0, su, nn, wk, k2, we, ow, fr, if k2 (dr_N s nn) < 4 then _ else of) = (ra, up, f0, su, nn, wk, k2, we, ow, fr, if ki (dr_N s nn) < 4 then _ else of)
    rw [e1]
  unfold yr_N
  dsimp only
  rw [e2]
  generalize dr_N s nn = a at *
  generalize dr_N (nx_N s) nn = b at *
  generalize dr_N (nx_N (nx_N s)) 9 + 1 = d
  generalize nx_N (nx_N (nx_N s)) = s3
  generalize nx_N s3 = s4
  generalize dr_N s3 2 = e
  have w1 : wk_T (th_T (ra, up, f0, su, nn, wk, k2, we, ow, fr, of) a b d) = kx_T (wk_T (th_T (ra, up, f0, su, nn, wk, ki, we, ow, fr, of) a b d)) k2 := wk_kx (t := th_T (ra, up, f0, su, nn, wk, ki, we, ow, fr, of) a b d) (k2 := k2) h
  have w2 : wk_T (gt_T (ra, up, f0, su, nn, wk, k2, we, ow, fr, of) a b) = kx_T (wk_T (gt_T (ra, up, f0, su, nn, wk, ki, we, ow, fr, of) a b)) k2 := by
    rw [g1]
    exact wk_kx (t := gt_T (ra, up, f0, su, nn, wk, ki, we, ow, fr, of) a b) (k2 := k2) h
  have w3 : wk_T (ra, up, f0, su, nn, wk, k2, we, ow, fr, of) = kx_T (wk_T (ra, up, f0, su, nn, wk, ki, we, ow, fr, of)) k2 := wk_kx (t := (ra, up, f0, su, nn, wk, ki, we, ow, fr, of)) (k2 := k2) h
  rw [w1, w2, w3]
  by_cases q : a ≠ b ∧ of (5 * a + b) = 0
  · rw [if_pos q, if_pos q]
    by_cases r : ki b < 3
    · rw [if_pos r, if_pos r]
      by_cases u : e = 1
      · rw [if_pos u, if_pos u]
        exact ⟨rfl, rfl⟩
      · rw [if_neg u, if_neg u]
        exact ⟨rfl, rfl⟩
    · rw [if_neg r, if_neg r]
      exact ⟨rfl, rfl⟩
  · rw [if_neg q, if_neg q]
    exact ⟨rfl, rfl⟩
theorem yi_kx {t : tw_T} {k2 : Nat → Nat} (hn : 0 < nn_T t) (h : ∀ k, k < nn_T t → k2 k = ki_T t k) (s : Nat) : ∀ m, yi_N (kx_T t k2) s m = (kx_T (yi_N t s m).1 k2, (yi_N t s m).2) ∧ ki_T (yi_N t s m).1 = ki_T t ∧ nn_T (yi_N t s m).1 = nn_T t
  | 0 => ⟨rfl, rfl, rfl⟩
  | m + 1 => by
    obtain ⟨h1, h2, h3⟩ := yi_kx hn h s m
    rw [yi_N, yi_N, h1]
    dsimp only
    generalize (yi_N t s m).1 = u at *
    generalize (yi_N t s m).2 = v at *
    obtain ⟨ra, up, f0, su, nn, wk, ki, we, ow, fr, of⟩ := u
    have h2 : ki = ki_T t := h2
    have h3 : nn = nn_T t := h3
    obtain ⟨a, b⟩ := yr_kx (ra := ra) (up := up) (f0 := f0) (su := su) (wk := wk) (we := we) (ow := ow) (fr := fr) (of := of) (nn := nn) (ki := ki) (k2 := k2) (by omega) (fun k hk => by rw [h2]; exact h k (by omega)) v
    exact ⟨a, b.trans h2, (nn_yr _ _).trans h3⟩
theorem ye_k {ra up f0 su nn : Nat} {wk : Int32} {ki k2 we ow fr of : Nat → Nat} (hn : 0 < nn) (h : ∀ k, k < nn → k2 k = ki k) (s ws w : Nat) : ye_I (ra, up, f0, su, nn, wk, k2, we, ow, fr, of) s ws w = ye_I (ra, up, f0, su, nn, wk, ki, we, ow, fr, of) s ws w := by
  have h1 := (yi_kx (t := (ra, up, f0, su, nn, wk, ki, we, ow, fr, of)) (k2 := k2) hn h s ws).1
  have h1 : yi_N (ra, up, f0, su, nn, wk, k2, we, ow, fr, of) s ws = _ := h1
  unfold ye_I
  rw [h1]
  dsimp only
  generalize (yi_N (ra, up, f0, su, nn, wk, ki, we, ow, fr, of) s ws).1 = u
  obtain ⟨ra, up, f0, su, nn, wk, ki, we, ow, fr, of⟩ := u
  rfl
theorem vl_k {ra up f0 nn : Nat} {ki k2 ow fr : Nat → Nat} (h : ∀ k, k < nn → k2 k = ki k) (oc : Nat) (oa ob os : Nat → Nat) {p : Nat} (hp : p < nn) (need wks : Nat) : vl_N ra up f0 nn k2 ow fr oc oa ob os p need wks = vl_N ra up f0 nn ki ow fr oc oa ob os p need wks := by
  funext c
  unfold vl_N
  rw [fb_sm_cong (f := od_N ra up f0 k2 ow fr oc oa os p c wks) (g := od_N ra up f0 ki ow fr oc oa os p c wks) (fun q hq => by
    unfold od_N
    rw [h p hp, h q hq])]
theorem mf_c {f g : Nat → Int32} : ∀ {n : Nat} {h : Int64}, (∀ k, k < n → f k = g k) → mf_L f n h = mf_L g n h
  | 0, _, _ => rfl
  | n + 1, h, q => by rw [mf_L, mf_L, mf_c (fun k hk => q k (by omega)), q n (by omega)]
theorem da_k {ra up f0 su nn : Nat} {wk : Int32} {ki k2 we ow fr of : Nat → Nat} (hn : nn ≤ 5) (h : ∀ k, k < nn → k2 k = ki k) (z : Int64) : ∀ j, j ≤ nn → da_L (ra, up, f0, su, nn, wk, k2, we, ow, fr, of) j z = da_L (ra, up, f0, su, nn, wk, ki, we, ow, fr, of) j z
  | 0, _ => rfl
  | j + 1, hj => by
    rw [da_L, da_L, da_k hn h z j (by omega)]
    unfold dp_L
    dsimp only
    rw [rn_k h, mf_c (f := ab_I nn k2 we ow j) (g := ab_I nn ki we ow j) (fun w _ => ab_c hn (fun _ _ => rfl) (fun _ _ => rfl) (h j (by omega)) (by omega) w)]
theorem di_dm {rd : Int32} {pl : Nat} {pc : Nat → Nat} {ra up f0 su nn : Nat} {wk : Int32} {ki k2 we ow fr of : Nat → Nat} (hok : ok_T (ra, up, f0, su, nn, wk, ki, we, ow, fr, of)) (h : ∀ k, k < nn → k2 k = ki k) (oc : Nat) (be : Nat → Int32) : dm_L rd pl pc (ra, up, f0, su, nn, wk, k2, we, ow, fr, of) oc = di_L rd pl pc (ra, up, f0, su, nn, wk, ki, we, ow, fr, of) oc be := by
  have hn : nn ≤ 5 := hok.2.2.2.2.1
  have how := hok.2.2.2.2.2.2.2.1
  unfold dm_L di_L
  dsimp only
  rw [da_k hn h 809 nn (Nat.le_refl _), st_sg ow hn, tl_tm hn how be 0, tl_tm hn how be 1, mf_c (f := fun k => tl_I (se_B nn ow be) (10 + k)) (g := fun k => tm_I (sr_B nn ow) (10 + k)) (fun k _ => tl_tm hn how be (10 + k))]
