/-! ===== both sides: law, persons, favours ===== -/
theorem up_same {f : Nat → Nat} {k v : Nat} (h : f k = v) : va_up f k v = f := by
  funext j
  by_cases e : j = k
  · subst e; rw [up_at, h]
  · rw [up_ne e]
theorem cp_zero {nn : Nat} {f : Nat → Nat} : ∀ j, (∀ i, i < j → f (5 * nn + i) = 0 ∧ f (5 * i + nn) = 0) → cp_N nn j f = f
  | 0, _ => rfl
  | j + 1, h => by
    have ih := cp_zero (nn := nn) (f := f) j (fun i hi => h i (by omega))
    have e : cp_N nn (j + 1) f = va_up (va_up (cp_N nn j f) (5 * nn + j) 0) (5 * j + nn) 0 := rfl
    rw [e, ih, up_same (h j (by omega)).1, up_same (h j (by omega)).2]
theorem zo_mono {nn : Nat} {f : Nat → Nat} (h : zo_P nn f) : zo_P (nn + 1) f := fun k hk => h k (fun z => hk ⟨by omega, by omega⟩)
theorem zo_up {nn : Nat} {f : Nat → Nat} (h : zo_P nn f) {a b v : Nat} (hb : b < nn) (ha : a < nn) (hn : nn ≤ 5) : zo_P nn (va_up f (5 * b + a) v) := fun k hk => by
  rw [up_ne (fun e => hk (by subst e; omega))]
  exact h k hk
theorem ks_mono {t1 : tw_T} {o1 : of_T} {nn nm : Nat} (h : ks_P t1 o1 nn) (hn : nn ≤ nm) : ks_P t1 o1 nm := by
  obtain ⟨kra, kup, kf0, ksu, knn, kwk, kki, kw, ko, kf, kx⟩ := t1
  obtain ⟨koc, koa, kob, kos⟩ := o1
  obtain ⟨h1, h2, h3, h4, h5, h6, h7⟩ := h
  exact ⟨h1, h2, h3, h4, h5, h6, Nat.le_trans h7 hn⟩
theorem kp_up {ik : Nat} {t1 : tw_T} {o1 : of_T} {nn : Nat} {K : mk_T} {k2 k3 : Nat → Nat} (hs : ik = 1 → ks_P t1 o1 nn) (h : kp_P ik t1 o1 K k2) (he : ∀ k, k < nn → k3 k = k2 k) : kp_P ik t1 o1 K k3 := by
  obtain ⟨kra, kup, kf0, ksu, knn, kwk, kki, kw, ko, kf, kx⟩ := t1
  obtain ⟨koc, koa, kob, kos⟩ := o1
  obtain ⟨h1, h2⟩ := h
  refine ⟨h1, fun e => ⟨(h2 e).1, fun k hk => ?_⟩⟩
  obtain ⟨-, -, -, -, -, -, h7⟩ := hs e
  rw [he k (by omega)]
  exact (h2 e).2 k hk
theorem hb_ex {nn : Nat} {a b : Int32} (hn : nn ≤ 5) (h : hb_P nn a b) : ∃ p q, p < nn ∧ q < nn ∧ p ≠ q ∧ a = nI p ∧ b = nI q := by
  obtain ⟨p, h1, rfl⟩ := hs_ex (by omega) h.1
  obtain ⟨q, h2, rfl⟩ := hs_ex (by omega) h.2.1
  exact ⟨p, q, h1, h2, fun e => h.2.2 (by rw [e]), rfl, rfl⟩
theorem ft_all {pc : Nat → Nat} (h : fl_N 4 pc = 4) : (48 ≤ pc 0 ∧ pc 0 ≤ 57) ∧ (48 ≤ pc 2 ∧ pc 2 ≤ 57) ∧ 48 ≤ pc 3 ∧ pc 3 ≤ 57 := by
  have g : ∀ k, k < 4 → ft_B pc k = true := fun k hk => by
    have := fa_first_no (fun k => !ft_B pc k) 4 k (by show k < fl_N 4 pc; omega)
    simpa using this
  have g0 := g 0 (by decide)
  have g2 := g 2 (by decide)
  have g3 := g 3 (by decide)
  simp [ft_B] at g0 g2 g3
  exact ⟨g0, g2, g3⟩
theorem g_law {S : st_T} {wc wm : List ac_T} (hI : iS S) (hC : CW S wc) (hM : MW S wm) : AG Value.int 8 yX9_law cX9_law 1 yX10_law cX10_law 1 (some .int) [] wc wm := by
  have hI0 := hI
  have hC0 := hC
  have hM0 := hM
  obtain ⟨rd, ⟨pl, pc⟩, ⟨ra, up, f0, su, nn, wk, ki, we, ow, fr, of⟩, ⟨oc, oa, ob, os⟩, ik, t1, o1⟩ := S
  obtain ⟨t2, x, hs0, he0, rfl⟩ := hC
  obtain ⟨k2, w2, o2, f2, x2, K, y, hk, hk4, hK, rfl⟩ := hM
  obtain ⟨hok, hoO, hos, hpl, hpc, zo, zf, zx, hik, hkp⟩ := hI
  have hn : nn ≤ 5 := hok.2.2.2.2.1
  by_cases h : pl = 4 ∧ fl_N pl pc = 4
  · have h4 := h.1
    subst h4
    obtain ⟨a0, a2, a3⟩ := ft_all h.2
    obtain ⟨q1, q2, q3, q4, q5⟩ := hok
    exact ⟨_, (rd + 1, (0, pc), (pc 0 - 48, (if pc 1 = 117 then 1 else 0), pc 2 - 48, pc 3 - 48, nn, wk, ki, we, ow, fr, of), (oc, oa, ob, os), ik, t1, o1), ⟨⟨by omega, by split <;> omega, by omega, by omega, q5⟩, hoO, hos, Nat.zero_le _, hpc, zo, zf, zx, hik, hkp⟩, AM.wk (c_law_ok ik rd 4 pc ra up f0 su nn wk ki we ow fr of t1 t2 oc oa ob os o1 x hpl hpc h) (fun r w' q => ⟨q.1, t2, x, hs0, he0, q.2⟩), AM.wk (m_law_ok rd 4 pc ra up f0 su nn wk k2 (jn_N 5 we w2) (jn_N 25 ow o2) (jn_N 25 fr f2) (jn_N 25 of x2) oc oa ob os K y hpl hpc h) (fun r w' q => ⟨q.1, k2, w2, o2, f2, x2, K, y, hk, hk4, hK, q.2⟩)⟩
  · exact ag_same hI0 hC0 hM0 (c_law_no ik rd pl pc ra up f0 su nn wk ki we ow fr of t1 t2 oc oa ob os o1 x hpl hpc h) (m_law_no rd pl pc ra up f0 su nn wk k2 (jn_N 5 we w2) (jn_N 25 ow o2) (jn_N 25 fr f2) (jn_N 25 of x2) oc oa ob os K y hpl hpc h)
theorem g_person {S : st_T} {wc wm : List ac_T} (hI : iS S) (hC : CW S wc) (hM : MW S wm) (k z : Int32) : AG Value.int 8 yX9_person cX9_person 3 yX10_person cX10_person 4 (some .int) [.int k, .int z] wc wm := by
  have hI0 := hI
  have hC0 := hC
  have hM0 := hM
  obtain ⟨rd, ⟨pl, pc⟩, ⟨ra, up, f0, su, nn, wk, ki, we, ow, fr, of⟩, ⟨oc, oa, ob, os⟩, ik, t1, o1⟩ := S
  obtain ⟨t2, x, hs0, he0, rfl⟩ := hC
  obtain ⟨k2, w2, o2, f2, x2, K, y, hk, hk4, hK, rfl⟩ := hM
  obtain ⟨hok, hoO, hos, hpl, hpc, zo, zf, zx, hik, hkp⟩ := hI
  have hn : nn ≤ 5 := hok.2.2.2.2.1
  by_cases h : (0 ≤ k ∧ k ≤ 4) ∧ 0 ≤ z ∧ z ≤ 99
  · by_cases hp : nn = 5
    · exact ag_same hI0 hC0 hM0 (c_person_full ik rd pl pc ra up f0 su nn wk ki we ow fr of t1 t2 oc oa ob os o1 x k z h hp) (m_person_full rd pl pc ra up f0 su nn wk k2 (jn_N 5 we w2) (jn_N 25 ow o2) (jn_N 25 fr f2) (jn_N 25 of x2) oc oa ob os K y k z h hp)
    · obtain ⟨k, -, k4, rfl⟩ := rg_ex 0 4 (by decide) (by decide) h.1
      obtain ⟨z, -, z9, rfl⟩ := rg_ex 0 99 (by decide) (by decide) h.2
      obtain ⟨q1, q2, q3, q4, q5, q6, q7, q8, q9, q10⟩ := hok
      have hz : ∀ {f g : Nat → Nat}, zo_P nn f → cp_N nn 5 (jn_N 25 f g) = jn_N 25 f g := fun {f g} hz => cp_zero 5 (fun i hi => ⟨by rw [jn_lo _ _ (by omega)]; exact hz _ (by omega), by rw [jn_lo _ _ (by omega)]; exact hz _ (by omega)⟩)
      have hm := m_person_ok rd pl pc ra up f0 su nn wk k2 (jn_N 5 we w2) (jn_N 25 ow o2) (jn_N 25 fr f2) (jn_N 25 of x2) oc oa ob os K y k z h (by omega)
      rw [jn_up1 _ _ _ (by omega), hz zo, hz zf, hz zx] at hm
      exact ⟨_, (rd, (pl, pc), (ra, up, f0, su, nn + 1, wk, va_up ki nn k, va_up we nn z, ow, fr, of), (oc, oa, ob, os), ik, t1, o1), ⟨⟨q1, q2, q3, q4, by omega, up_le q6 k4, up_le q7 (by omega), q8, q9, q10⟩, hoO, hos, hpl, hpc, zo_mono zo, zo_mono zf, zo_mono zx, hik, fun e => ks_mono (hkp e) (by omega)⟩, AM.wk (c_person_ok ik rd pl pc ra up f0 su nn wk ki we ow fr of t1 t2 oc oa ob os o1 x k z h (by omega)) (fun r w' q => ⟨q.1, t2, x, hs0, he0, q.2⟩), AM.wk hm (fun r w' q => ⟨q.1, va_up k2 nn k, w2, o2, f2, x2, K, y, fun j hj => by
        by_cases e : j = nn
        · subst e; rw [up_at, up_at]
        · rw [up_ne e, up_ne e]; exact hk j (by omega), up_le hk4 k4, kp_up hkp hK (fun j hj => up_ne (by omega)), q.2⟩)⟩
  · exact ag_same hI0 hC0 hM0 (c_person_out ik rd pl pc ra up f0 su nn wk ki we ow fr of t1 t2 oc oa ob os o1 x k z h) (m_person_out rd pl pc ra up f0 su nn wk k2 (jn_N 5 we w2) (jn_N 25 ow o2) (jn_N 25 fr f2) (jn_N 25 of x2) oc oa ob os K y k z h)
theorem ni_sw {w : Int32} {n : Nat} (hn : n < 2147483648) (h : ¬ (0 ≤ w ∧ w ≤ nI n)) : w.toInt < 0 ∨ (n : Int) < w.toInt := by
  rw [fa_le, fa_le, nI_toInt hn, show (0 : Int32).toInt = 0 from rfl] at h
  omega
theorem g_about {S : st_T} {wc wm : List ac_T} (hI : iS S) (hC : CW S wc) (hM : MW S wm) (a w : Int32) : AG Value.int 8 yX9_about cX9_about 3 yX10_about cX10_about 3 (some .int) [.int a, .int w] wc wm := by
  have hI0 := hI
  have hC0 := hC
  have hM0 := hM
  obtain ⟨rd, ⟨pl, pc⟩, ⟨ra, up, f0, su, nn, wk, ki, we, ow, fr, of⟩, ⟨oc, oa, ob, os⟩, ik, t1, o1⟩ := S
  obtain ⟨t2, x, hs0, he0, rfl⟩ := hC
  obtain ⟨k2, w2, o2, f2, x2, K, y, hk, hk4, hK, rfl⟩ := hM
  obtain ⟨hok, hoO, hos, hpl, hpc, zo, zf, zx, hik, hkp⟩ := hI
  have hn : nn ≤ 5 := hok.2.2.2.2.1
  by_cases h : hs_P nn a
  · by_cases hw : 0 ≤ w ∧ w ≤ 5
    · obtain ⟨p, hp, rfl⟩ := hs_ex (by omega) h
      obtain ⟨w, -, w5, rfl⟩ := rg_ex 0 5 (by decide) (by decide) hw
      have hm := m_about_ok rd pl pc ra up f0 su nn wk k2 (jn_N 5 we w2) (jn_N 25 ow o2) (jn_N 25 fr f2) (jn_N 25 of x2) oc oa ob os K y p w hn hp (by omega)
      rw [ab_c hn (fun k hk => jn_lo we w2 hk) (fun k hk => jn_lo ow o2 hk) (hk p hp) (by omega)] at hm
      exact ag_same hI0 hC0 hM0 (c_about_ok ik rd pl pc ra up f0 su nn wk ki we ow fr of t1 t2 oc oa ob os o1 x p w hn hp (by omega)) hm
    · exact ag_same hI0 hC0 hM0 (c_about_out ik rd pl pc ra up f0 su nn wk ki we ow fr of t1 t2 oc oa ob os o1 x a w h (ni_sw (n := 5) (by decide) hw)) (m_about_out rd pl pc ra up f0 su nn wk k2 (jn_N 5 we w2) (jn_N 25 ow o2) (jn_N 25 fr f2) (jn_N 25 of x2) oc oa ob os K y a w hn h hw)
  · exact ag_same hI0 hC0 hM0 (c_about_no ik rd pl pc ra up f0 su nn wk ki we ow fr of t1 t2 oc oa ob os o1 x a w h) (m_about_no rd pl pc ra up f0 su nn wk k2 (jn_N 5 we w2) (jn_N 25 ow o2) (jn_N 25 fr f2) (jn_N 25 of x2) oc oa ob os K y a w hn h)
theorem g_as {S : st_T} {wc wm : List ac_T} (hI : iS S) (hC : CW S wc) (hM : MW S wm) (a k : Int32) : AG Value.int 8 yX9_as cX9_as 3 yX10_as cX10_as 4 (some .int) [.int a, .int k] wc wm := by
  have hI0 := hI
  have hC0 := hC
  have hM0 := hM
  obtain ⟨rd, ⟨pl, pc⟩, ⟨ra, up, f0, su, nn, wk, ki, we, ow, fr, of⟩, ⟨oc, oa, ob, os⟩, ik, t1, o1⟩ := S
  obtain ⟨t2, x, hs0, he0, rfl⟩ := hC
  obtain ⟨k2, w2, o2, f2, x2, K, y, hk, hk4, hK, rfl⟩ := hM
  obtain ⟨hok, hoO, hos, hpl, hpc, zo, zf, zx, hik, hkp⟩ := hI
  have hn : nn ≤ 5 := hok.2.2.2.2.1
  by_cases h : hs_P nn a
  · by_cases hw : 0 ≤ k ∧ k ≤ 4
    · obtain ⟨p, hp, rfl⟩ := hs_ex (by omega) h
      obtain ⟨k, -, w5, rfl⟩ := rg_ex 0 4 (by decide) (by decide) hw
      have hm := m_as_ok rd pl pc ra up f0 su nn wk k2 (jn_N 5 we w2) (jn_N 25 ow o2) (jn_N 25 fr f2) (jn_N 25 of x2) oc oa ob os K y p k hn hp (hk4 p) (by omega)
      rw [hk p hp] at hm
      exact ag_same hI0 hC0 hM0 (c_as_ok ik rd pl pc ra up f0 su nn wk ki we ow fr of t1 t2 oc oa ob os o1 x p k hn hp (hok.2.2.2.2.2.1 p) (by omega)) hm
    · exact ag_same hI0 hC0 hM0 (c_as_out ik rd pl pc ra up f0 su nn wk ki we ow fr of t1 t2 oc oa ob os o1 x a k h hw) (m_as_out rd pl pc ra up f0 su nn wk k2 (jn_N 5 we w2) (jn_N 25 ow o2) (jn_N 25 fr f2) (jn_N 25 of x2) oc oa ob os K y a k hn h hw)
  · exact ag_same hI0 hC0 hM0 (c_as_no ik rd pl pc ra up f0 su nn wk ki we ow fr of t1 t2 oc oa ob os o1 x a k h) (m_as_no rd pl pc ra up f0 su nn wk k2 (jn_N 5 we w2) (jn_N 25 ow o2) (jn_N 25 fr f2) (jn_N 25 of x2) oc oa ob os K y a k hn h)
theorem g_between {S : st_T} {wc wm : List ac_T} (hI : iS S) (hC : CW S wc) (hM : MW S wm) (a b w : Int32) : AG Value.int 8 yX9_between cX9_between 5 yX10_between cX10_between 4 (some .int) [.int a, .int b, .int w] wc wm := by
  have hI0 := hI
  have hC0 := hC
  have hM0 := hM
  obtain ⟨rd, ⟨pl, pc⟩, ⟨ra, up, f0, su, nn, wk, ki, we, ow, fr, of⟩, ⟨oc, oa, ob, os⟩, ik, t1, o1⟩ := S
  obtain ⟨t2, x, hs0, he0, rfl⟩ := hC
  obtain ⟨k2, w2, o2, f2, x2, K, y, hk, hk4, hK, rfl⟩ := hM
  obtain ⟨hok, hoO, hos, hpl, hpc, zo, zf, zx, hik, hkp⟩ := hI
  have hn : nn ≤ 5 := hok.2.2.2.2.1
  by_cases h : hb_P nn a b
  · obtain ⟨p, q, hp, hq, hpq, rfl, rfl⟩ := hb_ex hn h
    by_cases hw : 0 ≤ w ∧ w ≤ 2
    · obtain ⟨w, -, w5, rfl⟩ := rg_ex 0 2 (by decide) (by decide) hw
      have hm := m_between_ok rd pl pc ra up f0 su nn wk k2 (jn_N 5 we w2) (jn_N 25 ow o2) (jn_N 25 fr f2) (jn_N 25 of x2) oc oa ob os K y p q w hn (by omega) (by omega) h (by omega)
      rw [show bw_I (jn_N 25 ow o2) (jn_N 25 fr f2) (jn_N 25 of x2) (5 * p + q) w = bw_I ow fr of (5 * p + q) w by
        unfold bw_I
        rw [jn_lo _ _ (by omega), jn_lo _ _ (by omega), jn_lo _ _ (by omega)]] at hm
      exact ag_same hI0 hC0 hM0 (c_between_ok ik rd pl pc ra up f0 su nn wk ki we ow fr of t1 t2 oc oa ob os o1 x p q w (by omega) (by omega) h (by omega)) hm
    · exact ag_same hI0 hC0 hM0 (c_between_out ik rd pl pc ra up f0 su nn wk ki we ow fr of t1 t2 oc oa ob os o1 x p q w h (ni_sw (n := 2) (by decide) hw)) (m_between_out rd pl pc ra up f0 su nn wk k2 (jn_N 5 we w2) (jn_N 25 ow o2) (jn_N 25 fr f2) (jn_N 25 of x2) oc oa ob os K y (nI p) (nI q) w hn h hw)
  · exact ag_same hI0 hC0 hM0 (c_between_no ik rd pl pc ra up f0 su nn wk ki we ow fr of t1 t2 oc oa ob os o1 x a b w h) (m_between_no rd pl pc ra up f0 su nn wk k2 (jn_N 5 we w2) (jn_N 25 ow o2) (jn_N 25 fr f2) (jn_N 25 of x2) oc oa ob os K y a b w hn h)
