/-! ===== both sides: favours, weeks, paying ===== -/
theorem if_up {c : Prop} [Decidable c] {f : Nat → Nat} {k v : Nat} : va_up f k (if c then v else f k) = (if c then va_up f k v else f) := by
  by_cases q : c
  · rw [if_pos q, if_pos q]
  · rw [if_neg q, if_neg q, up_same rfl]
theorem g_favour {S : st_T} {wc wm : List ac_T} (hI : iS S) (hC : CW S wc) (hM : MW S wm) (a b z : Int32) (tk : Prop) [Decidable tk] : AG Value.int 8 yX9_favour cX9_favour 5 yX10_favour cX10_favour 5 (some .int) [.int a, .int b, .int z, .int (bI tk)] wc wm := by
  have hI0 := hI
  have hC0 := hC
  have hM0 := hM
  obtain ⟨rd, ⟨pl, pc⟩, ⟨ra, up, f0, su, nn, wk, ki, we, ow, fr, of⟩, ⟨oc, oa, ob, os⟩, ik, t1, o1⟩ := S
  obtain ⟨t2, x, hs0, he0, rfl⟩ := hC
  obtain ⟨k2, w2, o2, f2, x2, K, y, hk, hk4, hK, rfl⟩ := hM
  obtain ⟨hok, hoO, hos, hpl, hpc, zo, zf, zx, hik, hkp⟩ := hI
  have hn : nn ≤ 5 := hok.2.2.2.2.1
  by_cases h : hb_P nn a b
  · by_cases hz : 1 ≤ z ∧ z ≤ 99
    · obtain ⟨a, b, ha, hb, hab, rfl, rfl⟩ := hb_ex hn h
      have e1 : jn_N 25 of x2 (5 * a + b) = of (5 * a + b) := jn_lo _ _ (by omega)
      have e2 : jn_N 25 ow o2 (5 * b + a) = ow (5 * b + a) := jn_lo _ _ (by omega)
      have e3 : jn_N 25 fr f2 (5 * b + a) = fr (5 * b + a) := jn_lo _ _ (by omega)
      obtain ⟨q1, q2, q3, q4, q5, q6, q7, q8, q9, q10⟩ := hok
      by_cases hs : 0 < of (5 * a + b) ∨ (tk ∧ 3 ≤ ki b)
      · exact ag_same hI0 hC0 hM0 (c_favour_st ik rd pl pc ra up f0 su nn wk ki we ow fr of t1 t2 oc oa ob os o1 x a b z tk (by omega) (by omega) h hz (q10 _) (q6 b) hs) (m_favour_st rd pl pc ra up f0 su nn wk k2 (jn_N 5 we w2) (jn_N 25 ow o2) (jn_N 25 fr f2) (jn_N 25 of x2) oc oa ob os K y a b z tk hn (by omega) (by omega) h hz (by rw [e1]; exact q10 _) (hk4 b) (by rw [e1, hk b hb]; exact hs))
      · have ho : of (5 * a + b) = 0 := by
          have : ¬ 0 < of (5 * a + b) := fun y => hs (Or.inl y)
          omega
        obtain ⟨z, z1, z9, rfl⟩ := rg_ex 1 99 (by decide) (by decide) hz
        by_cases ht : tk
        · have hki : ki b < 3 := by
            have : ¬ 3 ≤ ki b := fun y => hs (Or.inr ⟨ht, y⟩)
            omega
          have hm := m_favour_th rd pl pc ra up f0 su nn wk k2 (jn_N 5 we w2) (jn_N 25 ow o2) (jn_N 25 fr f2) (jn_N 25 of x2) oc oa ob os K y a b z tk hn (by omega) (by omega) h hz z9 (by rw [e1]; exact ho) (by rw [hk b hb]; exact hki) ht (by rw [e2]; exact q8 _) (by rw [e3]; exact q9 _) q3
          rw [e2, e3, jn_up1 _ _ _ (show 5 * b + a < 25 by omega), jn_up1 _ _ _ (show 5 * b + a < 25 by omega)] at hm
          have hx := ok_th (t := (ra, up, f0, su, nn, wk, ki, we, ow, fr, of)) ⟨q1, q2, q3, q4, q5, q6, q7, q8, q9, q10⟩ a b z
          exact ⟨_, (rd, (pl, pc), (ra, up, f0, su, nn, wk, ki, we, va_up ow (5 * b + a) (min 9999 (ow (5 * b + a) + z)), va_up fr (5 * b + a) (max (fr (5 * b + a)) f0), of), (oc, oa, ob, os), ik, t1, o1), ⟨hx, hoO, hos, hpl, hpc, zo_up zo hb ha hn, zo_up zf hb ha hn, zx, hik, hkp⟩, AM.wk (c_favour_th ik rd pl pc ra up f0 su nn wk ki we ow fr of t1 t2 oc oa ob os o1 x a b z tk (by omega) (by omega) h hz z9 ho hki ht (q8 _) (q9 _) q3) (fun r w' q => ⟨q.1, t2, x, hs0, he0, q.2⟩), AM.wk hm (fun r w' q => ⟨q.1, k2, w2, o2, f2, x2, K, y, hk, hk4, hK, q.2⟩)⟩
        · have hm := m_favour_gr rd pl pc ra up f0 su nn wk k2 (jn_N 5 we w2) (jn_N 25 ow o2) (jn_N 25 fr f2) (jn_N 25 of x2) oc oa ob os K y a b z tk hn (by omega) (by omega) h hz (by rw [e1]; exact ho) ht (hk4 a) q4
          rw [e1, e2, hk a ha, jn_up1 _ _ _ (show 5 * a + b < 25 by omega), if_up] at hm
          have hx := ok_gt (t := (ra, up, f0, su, nn, wk, ki, we, ow, fr, of)) ⟨q1, q2, q3, q4, q5, q6, q7, q8, q9, q10⟩ a b
          exact ⟨_, (rd, (pl, pc), (ra, up, f0, su, nn, wk, ki, we, ow, fr, (if ki a < 4 then va_up of (5 * a + b) (max (of (5 * a + b)) su) else of)), (oc, oa, ob, os), ik, t1, o1), ⟨hx, hoO, hos, hpl, hpc, zo, zf, by split; exact zo_up zx ha hb hn; exact zx, hik, hkp⟩, AM.wk (c_favour_gr ik rd pl pc ra up f0 su nn wk ki we ow fr of t1 t2 oc oa ob os o1 x a b z tk (by omega) (by omega) h hz ho ht (q6 a) q4) (fun r w' q => ⟨q.1, t2, x, hs0, he0, q.2⟩), AM.wk hm (fun r w' q => ⟨q.1, k2, w2, o2, f2, x2, K, y, hk, hk4, hK, q.2⟩)⟩
    · exact ag_same hI0 hC0 hM0 (c_favour_out ik rd pl pc ra up f0 su nn wk ki we ow fr of t1 t2 oc oa ob os o1 x a b z (bI tk) h hz) (m_favour_out rd pl pc ra up f0 su nn wk k2 (jn_N 5 we w2) (jn_N 25 ow o2) (jn_N 25 fr f2) (jn_N 25 of x2) oc oa ob os K y a b z (bI tk) hn h hz)
  · exact ag_same hI0 hC0 hM0 (c_favour_no ik rd pl pc ra up f0 su nn wk ki we ow fr of t1 t2 oc oa ob os o1 x a b z (bI tk) h) (m_favour_no rd pl pc ra up f0 su nn wk k2 (jn_N 5 we w2) (jn_N 25 ow o2) (jn_N 25 fr f2) (jn_N 25 of x2) oc oa ob os K y a b z (bI tk) hn h)
theorem pb_jn0 {m : Nat} {f g G : Nat → Nat} : pb_N 0 m (jn_N m f g) G = jn_N m G g := by
  funext k
  unfold pb_N jn_N
  by_cases q : k < m
  · rw [if_pos (by omega), if_pos q, Nat.sub_zero]
  · rw [if_neg (by omega), if_neg q, if_neg q]
theorem jn_cg {m : Nat} {f f' g : Nat → Nat} (h : ∀ k, k < m → f k = f' k) : jn_N m f g = jn_N m f' g := by
  funext k
  unfold jn_N
  by_cases q : k < m
  · rw [if_pos q, if_pos q, h k q]
  · rw [if_neg q, if_neg q]
theorem gs_c {nn ra up : Nat} (hn : nn ≤ 5) {ki ow ow' fr fr' : Nat → Nat} (h1 : ∀ k, k < 25 → ow k = ow' k) (h2 : ∀ k, k < 25 → fr k = fr' k) : (∀ k, k < 25 → wO_N nn ra up ki ow fr k = wO_N nn ra up ki ow' fr' k) ∧ gs_I nn ra up ki ow fr = gs_I nn ra up ki ow' fr' := by
  have h : ∀ k, k < 25 → wO_N nn ra up ki ow fr k = wO_N nn ra up ki ow' fr' k := fun k hk => by
    unfold wO_N nw_N
    rw [h1 k hk, h2 k hk]
  refine ⟨h, si_c (fun p hp => si_c (fun q hq => ?_))⟩
  rw [h _ (by omega), h1 _ (by omega)]
theorem zo_wO {nn ra up : Nat} {ki ow fr : Nat → Nat} (h : zo_P nn ow) : zo_P nn (wO_N nn ra up ki ow fr) := fun k hk => by
  rw [wO_N, if_neg hk]
  exact h k hk
theorem zo_wM {nn : Nat} {f : Nat → Nat} (h : zo_P nn f) : zo_P nn (wM_N nn f) := fun k hk => by
  rw [wM_N, if_neg hk]
  exact h k hk
theorem g_week {S : st_T} {wc wm : List ac_T} (hI : iS S) (hC : CW S wc) (hM : MW S wm) : AG Value.int 8 yX9_week cX9_week 1 yX10_week cX10_week 1 (some .int) [] wc wm := by
  have hI0 := hI
  have hC0 := hC
  have hM0 := hM
  obtain ⟨rd, ⟨pl, pc⟩, ⟨ra, up, f0, su, nn, wk, ki, we, ow, fr, of⟩, ⟨oc, oa, ob, os⟩, ik, t1, o1⟩ := S
  obtain ⟨t2, x, hs0, he0, rfl⟩ := hC
  obtain ⟨k2, w2, o2, f2, x2, K, y, hk, hk4, hK, rfl⟩ := hM
  obtain ⟨hok, hoO, hos, hpl, hpc, zo, zf, zx, hik, hkp⟩ := hI
  have hn : nn ≤ 5 := hok.2.2.2.2.1
  have hx := ok_wk hok
  have hm := m_week rd pl pc ra up f0 su nn wk k2 (jn_N 5 we w2) (jn_N 25 ow o2) (jn_N 25 fr f2) (jn_N 25 of x2) oc oa ob os K y hok.1 hok.2.1 hn (fun k _ => hk4 k) (fun k hk => by rw [jn_lo _ _ hk]; exact hok.2.2.2.2.2.2.2.1 k) (fun k hk => by rw [jn_lo _ _ hk]; exact hok.2.2.2.2.2.2.2.2.1 k) (fun k hk => by rw [jn_lo _ _ hk]; exact hok.2.2.2.2.2.2.2.2.2 k)
  obtain ⟨c1, c2⟩ := gs_c (ra := ra) (up := up) (ki := k2) hn (fun k hk => jn_lo ow o2 hk) (fun k hk => jn_lo fr f2 hk)
  have c3 : ∀ (f g : Nat → Nat) k, k < 25 → wM_N nn (jn_N 25 f g) k = wM_N nn f k := fun f g k hk => by
    unfold wM_N
    rw [jn_lo _ _ hk]
  rw [pb_jn0, pb_jn0, pb_jn0, jn_cg c1, jn_cg (c3 fr f2), jn_cg (c3 of x2), c2, gs_k hk, wO_k hk] at hm
  exact ⟨_, (rd, (pl, pc), (ra, up, f0, su, nn, wk + 1, ki, we, wO_N nn ra up ki ow fr, wM_N nn fr, wM_N nn of), (oc, oa, ob, os), ik, t1, o1), ⟨hx, hoO, hos, hpl, hpc, zo_wO zo, zo_wM zf, zo_wM zx, hik, hkp⟩, AM.wk (c_week ik rd pl pc ra up f0 su nn wk ki we ow fr of t1 t2 oc oa ob os o1 x hok) (fun r w' q => ⟨q.1, t2, x, hs0, he0, q.2⟩), AM.wk hm (fun r w' q => ⟨q.1, k2, w2, o2, f2, x2, K, y, hk, hk4, hK, q.2⟩)⟩
theorem hb_sym {nn : Nat} {a b : Int32} (h : hb_P nn a b) : hb_P nn b a := ⟨h.2.1, h.1, fun e => h.2.2 e.symm⟩
theorem g_pay {S : st_T} {wc wm : List ac_T} (hI : iS S) (hC : CW S wc) (hM : MW S wm) (b a z : Int32) : AG Value.int 8 yX9_pay cX9_pay 5 yX10_pay cX10_pay 5 (some .int) [.int b, .int a, .int z] wc wm := by
  have hI0 := hI
  have hC0 := hC
  have hM0 := hM
  obtain ⟨rd, ⟨pl, pc⟩, ⟨ra, up, f0, su, nn, wk, ki, we, ow, fr, of⟩, ⟨oc, oa, ob, os⟩, ik, t1, o1⟩ := S
  obtain ⟨t2, x, hs0, he0, rfl⟩ := hC
  obtain ⟨k2, w2, o2, f2, x2, K, y, hk, hk4, hK, rfl⟩ := hM
  obtain ⟨hok, hoO, hos, hpl, hpc, zo, zf, zx, hik, hkp⟩ := hI
  have hn : nn ≤ 5 := hok.2.2.2.2.1
  by_cases h : hb_P nn b a
  · by_cases hz : 1 ≤ z ∧ z ≤ 999
    · obtain ⟨b, a, hb, ha, hab, rfl, rfl⟩ := hb_ex hn h
      obtain ⟨z, z1, z9, rfl⟩ := rg_ex 1 999 (by decide) (by decide) hz
      obtain ⟨q1, q2, q3, q4, q5, q6, q7, q8, q9, q10⟩ := hok
      have e1 : jn_N 25 ow o2 (5 * b + a) = ow (5 * b + a) := jn_lo _ _ (by omega)
      have e2 : jn_N 5 we w2 b = we b := jn_lo _ _ (by omega)
      have e3 : jn_N 5 we w2 a = we a := jn_lo _ _ (by omega)
      have u1 := q8 (5 * b + a)
      by_cases hs : we b < z ∨ ow (5 * b + a) < z ∨ 999 < we a + z
      · exact ag_same hI0 hC0 hM0 (c_pay_st ik rd pl pc ra up f0 su nn wk ki we ow fr of t1 t2 oc oa ob os o1 x b a z (by omega) (by omega) h hz z9 (q7 b) (q7 a) (q8 _) hs) (m_pay_st rd pl pc ra up f0 su nn wk k2 (jn_N 5 we w2) (jn_N 25 ow o2) (jn_N 25 fr f2) (jn_N 25 of x2) oc oa ob os K y b a z hn (by omega) (by omega) (hb_sym h) hz z9 (by rw [e2]; exact q7 b) (by rw [e3]; exact q7 a) (by rw [e1]; exact q8 _) (by rw [e1, e2, e3]; exact hs))
      · have g1 : z ≤ we b := by omega
        have g2 : z ≤ ow (5 * b + a) := by omega
        have g3 : we a + z ≤ 999 := by omega
        have hm := m_pay_ok rd pl pc ra up f0 su nn wk k2 (jn_N 5 we w2) (jn_N 25 ow o2) (jn_N 25 fr f2) (jn_N 25 of x2) oc oa ob os K y b a z hn (by omega) (by omega) hab (hb_sym h) hz z9 (by rw [e2]; exact q7 b) (by rw [e3]; exact q7 a) (by rw [e1]; exact q8 _) (by rw [e2]; exact g1) (by rw [e1]; exact g2) (by rw [e3]; exact g3)
        rw [e1, e2, e3, jn_up1 _ _ _ (show b < 5 by omega), jn_up1 _ _ _ (show a < 5 by omega), jn_up1 _ _ _ (show 5 * b + a < 25 by omega)] at hm
        exact ⟨_, (rd, (pl, pc), (ra, up, f0, su, nn, wk, ki, va_up (va_up we b (we b - z)) a (we a + z), va_up ow (5 * b + a) (ow (5 * b + a) - z), fr, of), (oc, oa, ob, os), ik, t1, o1), ⟨⟨q1, q2, q3, q4, q5, q6, up_le (up_le q7 (by have := q7 b; omega)) g3, up_le q8 (by omega), q9, q10⟩, hoO, hos, hpl, hpc, zo_up zo hb ha hn, zf, zx, hik, hkp⟩, AM.wk (c_pay_ok ik rd pl pc ra up f0 su nn wk ki we ow fr of t1 t2 oc oa ob os o1 x b a z (by omega) (by omega) hab h hz z9 (q7 b) (q7 a) (q8 _) g1 g2 g3) (fun r w' q => ⟨q.1, t2, x, hs0, he0, q.2⟩), AM.wk hm (fun r w' q => ⟨q.1, k2, w2, o2, f2, x2, K, y, hk, hk4, hK, q.2⟩)⟩
    · exact ag_same hI0 hC0 hM0 (c_pay_out ik rd pl pc ra up f0 su nn wk ki we ow fr of t1 t2 oc oa ob os o1 x b a z h hz) (m_pay_out rd pl pc ra up f0 su nn wk k2 (jn_N 5 we w2) (jn_N 25 ow o2) (jn_N 25 fr f2) (jn_N 25 of x2) oc oa ob os K y b a z hn (hb_sym h) hz)
  · exact ag_same hI0 hC0 hM0 (c_pay_no ik rd pl pc ra up f0 su nn wk ki we ow fr of t1 t2 oc oa ob os o1 x b a z h) (m_pay_no rd pl pc ra up f0 su nn wk k2 (jn_N 5 we w2) (jn_N 25 ow o2) (jn_N 25 fr f2) (jn_N 25 of x2) oc oa ob os K y b a z hn (fun q => h (hb_sym q)))
theorem g_setOff {S : st_T} {wc wm : List ac_T} (hI : iS S) (hC : CW S wc) (hM : MW S wm) (a b : Int32) : AG Value.int 8 yX9_setOff cX9_setOff 6 yX10_setOff cX10_setOff 4 (some .int) [.int a, .int b] wc wm := by
  have hI0 := hI
  have hC0 := hC
  have hM0 := hM
  obtain ⟨rd, ⟨pl, pc⟩, ⟨ra, up, f0, su, nn, wk, ki, we, ow, fr, of⟩, ⟨oc, oa, ob, os⟩, ik, t1, o1⟩ := S
  obtain ⟨t2, x, hs0, he0, rfl⟩ := hC
  obtain ⟨k2, w2, o2, f2, x2, K, y, hk, hk4, hK, rfl⟩ := hM
  obtain ⟨hok, hoO, hos, hpl, hpc, zo, zf, zx, hik, hkp⟩ := hI
  have hn : nn ≤ 5 := hok.2.2.2.2.1
  by_cases h : hb_P nn a b
  · obtain ⟨a, b, ha, hb, hab, rfl, rfl⟩ := hb_ex hn h
    obtain ⟨q1, q2, q3, q4, q5, q6, q7, q8, q9, q10⟩ := hok
    have e1 : jn_N 25 ow o2 (5 * a + b) = ow (5 * a + b) := jn_lo _ _ (by omega)
    have e2 : jn_N 25 ow o2 (5 * b + a) = ow (5 * b + a) := jn_lo _ _ (by omega)
    have u1 := q8 (5 * a + b)
    have u2 := q8 (5 * b + a)
    have hm := m_setOff_ok rd pl pc ra up f0 su nn wk k2 (jn_N 5 we w2) (jn_N 25 ow o2) (jn_N 25 fr f2) (jn_N 25 of x2) oc oa ob os K y a b hn (by omega) (by omega) hab h (by rw [e1]; exact q8 _) (by rw [e2]; exact q8 _)
    rw [e1, e2, jn_up1 _ _ _ (show 5 * a + b < 25 by omega), jn_up1 _ _ _ (show 5 * b + a < 25 by omega)] at hm
    exact ⟨_, (rd, (pl, pc), (ra, up, f0, su, nn, wk, ki, we, va_up (va_up ow (5 * a + b) (ow (5 * a + b) - min (ow (5 * a + b)) (ow (5 * b + a)))) (5 * b + a) (ow (5 * b + a) - min (ow (5 * a + b)) (ow (5 * b + a))), fr, of), (oc, oa, ob, os), ik, t1, o1), ⟨⟨q1, q2, q3, q4, q5, q6, q7, up_le (up_le q8 (by omega)) (by omega), q9, q10⟩, hoO, hos, hpl, hpc, zo_up (zo_up zo ha hb hn) hb ha hn, zf, zx, hik, hkp⟩, AM.wk (c_setOff_ok ik rd pl pc ra up f0 su nn wk ki we ow fr of t1 t2 oc oa ob os o1 x a b (by omega) (by omega) hab h q8) (fun r w' q => ⟨q.1, t2, x, hs0, he0, q.2⟩), AM.wk hm (fun r w' q => ⟨q.1, k2, w2, o2, f2, x2, K, y, hk, hk4, hK, q.2⟩)⟩
  · exact ag_same hI0 hC0 hM0 (c_setOff_no ik rd pl pc ra up f0 su nn wk ki we ow fr of t1 t2 oc oa ob os o1 x a b h) (m_setOff_no rd pl pc ra up f0 su nn wk k2 (jn_N 5 we w2) (jn_N 25 ow o2) (jn_N 25 fr f2) (jn_N 25 of x2) oc oa ob os K y a b hn h)
theorem g_ring {S : st_T} {wc wm : List ac_T} (hI : iS S) (hC : CW S wc) (hM : MW S wm) (a b c : Int32) : AG Value.int 8 yX9_ring cX9_ring 8 yX10_ring cX10_ring 5 (some .int) [.int a, .int b, .int c] wc wm := by
  have hI0 := hI
  have hC0 := hC
  have hM0 := hM
  obtain ⟨rd, ⟨pl, pc⟩, ⟨ra, up, f0, su, nn, wk, ki, we, ow, fr, of⟩, ⟨oc, oa, ob, os⟩, ik, t1, o1⟩ := S
  obtain ⟨t2, x, hs0, he0, rfl⟩ := hC
  obtain ⟨k2, w2, o2, f2, x2, K, y, hk, hk4, hK, rfl⟩ := hM
  obtain ⟨hok, hoO, hos, hpl, hpc, zo, zf, zx, hik, hkp⟩ := hI
  have hn : nn ≤ 5 := hok.2.2.2.2.1
  by_cases h : hb_P nn a b ∧ hb_P nn b c ∧ a ≠ c
  · obtain ⟨a, b, ha, hb, hab, rfl, rfl⟩ := hb_ex hn h.1
    obtain ⟨c, hc, rfl⟩ := hs_ex (by omega) h.2.1.2.1
    have hbc : b ≠ c := fun e => h.2.1.2.2 (by rw [e])
    have hac : a ≠ c := fun e => h.2.2 (by rw [e])
    obtain ⟨q1, q2, q3, q4, q5, q6, q7, q8, q9, q10⟩ := hok
    have e1 : jn_N 25 ow o2 (5 * a + b) = ow (5 * a + b) := jn_lo _ _ (by omega)
    have e2 : jn_N 25 ow o2 (5 * b + c) = ow (5 * b + c) := jn_lo _ _ (by omega)
    have e3 : jn_N 25 ow o2 (5 * c + a) = ow (5 * c + a) := jn_lo _ _ (by omega)
    have u1 := q8 (5 * a + b)
    have u2 := q8 (5 * b + c)
    have u3 := q8 (5 * c + a)
    obtain ⟨m, hmm⟩ : ∃ m, m = min (ow (5 * a + b)) (min (ow (5 * b + c)) (ow (5 * c + a))) := ⟨_, rfl⟩
    have hm := m_ring_ok rd pl pc ra up f0 su nn wk k2 (jn_N 5 we w2) (jn_N 25 ow o2) (jn_N 25 fr f2) (jn_N 25 of x2) oc oa ob os K y a b c hn (by omega) (by omega) (by omega) hab hbc hac h (by rw [e1]; exact q8 _) (by rw [e2]; exact q8 _) (by rw [e3]; exact q8 _) m (by rw [e1, e2, e3]; exact hmm)
    rw [e1, e2, e3, jn_up1 _ _ _ (show 5 * a + b < 25 by omega), jn_up1 _ _ _ (show 5 * b + c < 25 by omega), jn_up1 _ _ _ (show 5 * c + a < 25 by omega)] at hm
    exact ⟨_, (rd, (pl, pc), (ra, up, f0, su, nn, wk, ki, we, va_up (va_up (va_up ow (5 * a + b) (ow (5 * a + b) - m)) (5 * b + c) (ow (5 * b + c) - m)) (5 * c + a) (ow (5 * c + a) - m), fr, of), (oc, oa, ob, os), ik, t1, o1), ⟨⟨q1, q2, q3, q4, q5, q6, q7, up_le (up_le (up_le q8 (by omega)) (by omega)) (by omega), q9, q10⟩, hoO, hos, hpl, hpc, zo_up (zo_up (zo_up zo ha hb hn) hb hc hn) hc ha hn, zf, zx, hik, hkp⟩, AM.wk (c_ring_ok ik rd pl pc ra up f0 su nn wk ki we ow fr of t1 t2 oc oa ob os o1 x a b c (by omega) (by omega) (by omega) hab hbc hac h q8 m hmm) (fun r w' q => ⟨q.1, t2, x, hs0, he0, q.2⟩), AM.wk hm (fun r w' q => ⟨q.1, k2, w2, o2, f2, x2, K, y, hk, hk4, hK, q.2⟩)⟩
  · exact ag_same hI0 hC0 hM0 (c_ring_no ik rd pl pc ra up f0 su nn wk ki we ow fr of t1 t2 oc oa ob os o1 x a b c h) (m_ring_no rd pl pc ra up f0 su nn wk k2 (jn_N 5 we w2) (jn_N 25 ow o2) (jn_N 25 fr f2) (jn_N 25 of x2) oc oa ob os K y a b c hn h)
theorem g_forgive {S : st_T} {wc wm : List ac_T} (hI : iS S) (hC : CW S wc) (hM : MW S wm) (a b : Int32) : AG Value.int 8 yX9_forgive cX9_forgive 5 yX10_forgive cX10_forgive 4 (some .int) [.int a, .int b] wc wm := by
  have hI0 := hI
  have hC0 := hC
  have hM0 := hM
  obtain ⟨rd, ⟨pl, pc⟩, ⟨ra, up, f0, su, nn, wk, ki, we, ow, fr, of⟩, ⟨oc, oa, ob, os⟩, ik, t1, o1⟩ := S
  obtain ⟨t2, x, hs0, he0, rfl⟩ := hC
  obtain ⟨k2, w2, o2, f2, x2, K, y, hk, hk4, hK, rfl⟩ := hM
  obtain ⟨hok, hoO, hos, hpl, hpc, zo, zf, zx, hik, hkp⟩ := hI
  have hn : nn ≤ 5 := hok.2.2.2.2.1
  by_cases h : hb_P nn a b
  · obtain ⟨a, b, ha, hb, hab, rfl, rfl⟩ := hb_ex hn h
    obtain ⟨q1, q2, q3, q4, q5, q6, q7, q8, q9, q10⟩ := hok
    have e2 : jn_N 25 ow o2 (5 * b + a) = ow (5 * b + a) := jn_lo _ _ (by omega)
    have hm := m_forgive_ok rd pl pc ra up f0 su nn wk k2 (jn_N 5 we w2) (jn_N 25 ow o2) (jn_N 25 fr f2) (jn_N 25 of x2) oc oa ob os K y a b hn (by omega) (by omega) h
    rw [e2, jn_up1 _ _ _ (show 5 * b + a < 25 by omega)] at hm
    exact ⟨_, (rd, (pl, pc), (ra, up, f0, su, nn, wk, ki, we, va_up ow (5 * b + a) 0, fr, of), (oc, oa, ob, os), ik, t1, o1), ⟨⟨q1, q2, q3, q4, q5, q6, q7, up_le q8 (Nat.zero_le _), q9, q10⟩, hoO, hos, hpl, hpc, zo_up zo hb ha hn, zf, zx, hik, hkp⟩, AM.wk (c_forgive_ok ik rd pl pc ra up f0 su nn wk ki we ow fr of t1 t2 oc oa ob os o1 x a b (by omega) (by omega) h) (fun r w' q => ⟨q.1, t2, x, hs0, he0, q.2⟩), AM.wk hm (fun r w' q => ⟨q.1, k2, w2, o2, f2, x2, K, y, hk, hk4, hK, q.2⟩)⟩
  · exact ag_same hI0 hC0 hM0 (c_forgive_no ik rd pl pc ra up f0 su nn wk ki we ow fr of t1 t2 oc oa ob os o1 x a b h) (m_forgive_no rd pl pc ra up f0 su nn wk k2 (jn_N 5 we w2) (jn_N 25 ow o2) (jn_N 25 fr f2) (jn_N 25 of x2) oc oa ob os K y a b hn h)
