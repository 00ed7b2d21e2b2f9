/-! ===== both sides: the rest ===== -/
theorem CW_mk {rd : Int32} {P : pg_T} {t : tw_T} {o : of_T} {ik : Nat} {t1 t2 : tw_T} {o1 : of_T} {xr : (Nat → Int32) × (Nat → Int32) × Int32 × Int32} {xs : (Nat → Int32) × (Nat → Int32)} {xa : Int32 × Int32} {sd : Int32} {rk : Nat → Int32} {w : List ac_T} (h : w = cw_C (ik, rd) P t t1 t2 o o1 (xr, xs, xa, sd, rk)) (h1 : xs.1 0 = 0) (h2 : xs.2 0 = 0) : CW (rd, P, t, o, ik, t1, o1) w := ⟨t2, (xr, xs, xa, sd, rk), h1, h2, h⟩
theorem pa_c {we we' ow ow' : Nat → Nat} {p all q : Nat} (h1 : we p = we' p) (h2 : ow (5 * p + q) = ow' (5 * p + q)) : pa_N we ow p all q = pa_N we' ow' p all q := by
  unfold pa_N
  rw [h1, h2]
theorem g_bankrupt {S : st_T} {wc wm : List ac_T} (hI : iS S) (hC : CW S wc) (hM : MW S wm) (a : Int32) : AG Value.int 8 yX9_bankrupt cX9_bankrupt 3 yX10_bankrupt cX10_bankrupt 8 (some .int) [.int a] wc wm := by
  have hI0 := hI
  have hC0 := hC
  have hM0 := hM
  obtain ⟨rd, ⟨pl, pc⟩, ⟨ra, up, f0, su, nn, wk, ki, we, ow, fr, of⟩, ⟨oc, oa, ob, os⟩, ik, t1, o1⟩ := S
  obtain ⟨t2, x, hs0, he0, rfl⟩ := hC
  obtain ⟨k2, w2, o2, f2, x2, K, y, hk, hk4, hK, rfl⟩ := hM
  obtain ⟨hok, hoO, hos, hpl, hpc, zo, zf, zx, hik, hkp⟩ := hI
  have hn : nn ≤ 5 := hok.2.2.2.2.1
  by_cases h : hs_P nn a
  · obtain ⟨p, hp, rfl⟩ := hs_ex (by omega) h
    have er := row_c hn (fun k hk => jn_lo ow o2 hk) (show p < 5 by omega)
    by_cases h0 : fb_sm (fun q => ow (5 * p + q)) nn = 0
    · exact ag_same hI0 hC0 hM0 (c_bankrupt_st ik rd pl pc ra up f0 su nn wk ki we ow fr of t1 t2 oc oa ob os o1 x p hn hp h0) (m_bankrupt_st rd pl pc ra up f0 su nn wk k2 (jn_N 5 we w2) (jn_N 25 ow o2) (jn_N 25 fr f2) (jn_N 25 of x2) oc oa ob os K y p hn hp (by rw [er]; exact h0))
    · obtain ⟨all, hall⟩ : ∃ all, all = fb_sm (fun q => ow (5 * p + q)) nn := ⟨_, rfl⟩
      have hok0 := hok
      obtain ⟨q1, q2, q3, q4, q5, q6, q7, q8, q9, q10⟩ := hok
      have hm := m_bankrupt_ok rd pl pc ra up f0 su nn wk k2 (jn_N 5 we w2) (jn_N 25 ow o2) (jn_N 25 fr f2) (jn_N 25 of x2) oc oa ob os K y p hn hp (fun k hk => by rw [jn_lo _ _ hk]; exact q7 k) (fun k hk => by rw [jn_lo _ _ hk]; exact q8 k) all (by rw [er]; exact hall) (by omega)
      have ep : jn_N 5 we w2 p = we p := jn_lo _ _ (by omega)
      have ea : ∀ q, q < nn → pa_N (jn_N 5 we w2) (jn_N 25 ow o2) p all q = pa_N we ow p all q := fun q hq => pa_c ep (jn_lo _ _ (by omega))
      have es : fb_sm (pa_N (jn_N 5 we w2) (jn_N 25 ow o2) p all) nn = fb_sm (pa_N we ow p all) nn := fb_sm_cong ea
      rw [es, ep] at hm
      have e1 : va_up (pt_N nn (jn_N 5 we w2) (bw_N (jn_N 5 we w2) (jn_N 25 ow o2) p all)) p (we p - fb_sm (pa_N we ow p all) nn) = jn_N 5 (va_up (pt_N nn we (fun q => min 999 (we q + pa_N we ow p all q))) p (we p - fb_sm (pa_N we ow p all) nn)) w2 := by
        rw [← jn_up1 _ _ _ (show p < 5 by omega)]
        funext k
        by_cases e : k = p
        · subst e; rw [up_at, up_at]
        · rw [up_ne e, up_ne e]
          by_cases u : k < nn
          · rw [jn_lo _ _ (by omega)]
            show (if k < nn then _ else _) = (if k < nn then _ else _)
            rw [if_pos u, if_pos u]
            show (if k = p then _ else _) = _
            rw [if_neg e, ea k u, jn_lo _ _ (by omega)]
          · show (if k < nn then _ else _) = _
            rw [if_neg u]
            by_cases v : k < 5
            · rw [jn_lo _ _ v, jn_lo _ _ v]
              show _ = (if k < nn then _ else _)
              rw [if_neg u]
            · unfold jn_N
              rw [if_neg v, if_neg v]
      have e2 : rz_N p nn (jn_N 25 ow o2) = jn_N 25 (rz_N p nn ow) o2 := by
        funext k
        by_cases v : k < 25
        · rw [jn_lo _ _ v]
          unfold rz_N
          rw [jn_lo _ _ v]
        · unfold rz_N jn_N
          rw [if_neg (by omega), if_neg v, if_neg v]
      rw [e1, e2] at hm
      have hwe : ∀ k, pt_N nn we (fun q => min 999 (we q + pa_N we ow p all q)) k ≤ 999 := fun k => by
        show (if k < nn then min 999 (we k + pa_N we ow p all k) else we k) ≤ 999
        have := q7 k
        split <;> omega
      have how : ∀ k, rz_N p nn ow k ≤ 9999 := fun k => by
        unfold rz_N
        have := q8 k
        split <;> omega
      have zr : zo_P nn (rz_N p nn ow) := fun k hk => by
        unfold rz_N
        have := zo k hk
        split
        · rfl
        · exact this
      exact ⟨_, (rd, (pl, pc), (ra, up, f0, su, nn, wk, ki, va_up (pt_N nn we (fun q => min 999 (we q + pa_N we ow p all q))) p (we p - fb_sm (pa_N we ow p all) nn), rz_N p nn ow, fr, of), (oc, oa, ob, os), ik, t1, o1), ⟨⟨q1, q2, q3, q4, q5, q6, up_le hwe (by have := q7 p; omega), how, q9, q10⟩, hoO, hos, hpl, hpc, zr, zf, zx, hik, hkp⟩, AM.wk (c_bankrupt_ok ik rd pl pc ra up f0 su nn wk ki we ow fr of t1 t2 oc oa ob os o1 x p hok0 hp all hall (by omega)) (fun r w' q => ⟨q.1, t2, x, hs0, he0, q.2⟩), AM.wk hm (fun r w' q => ⟨q.1, k2, w2, o2, f2, x2, K, y, hk, hk4, hK, q.2⟩)⟩
  · exact ag_same hI0 hC0 hM0 (c_bankrupt_no ik rd pl pc ra up f0 su nn wk ki we ow fr of t1 t2 oc oa ob os o1 x a h) (m_bankrupt_no rd pl pc ra up f0 su nn wk k2 (jn_N 5 we w2) (jn_N 25 ow o2) (jn_N 25 fr f2) (jn_N 25 of x2) oc oa ob os K y a hn h)
theorem ok_k2 {ra up f0 su nn : Nat} {wk : Int32} {ki k2 we ow fr of : Nat → Nat} (h : ok_T (ra, up, f0, su, nn, wk, ki, we, ow, fr, of)) (hk4 : ∀ k, k2 k ≤ 4) : ok_T (ra, up, f0, su, nn, wk, k2, we, ow, fr, of) := by
  obtain ⟨q1, q2, q3, q4, q5, q6, q7, q8, q9, q10⟩ := h
  exact ⟨q1, q2, q3, q4, q5, hk4, q7, q8, q9, q10⟩
theorem g_ruin {S : st_T} {wc wm : List ac_T} (hI : iS S) (hC : CW S wc) (hM : MW S wm) (a : Int32) : AG Value.int 8 yX9_ruin cX9_ruin 2 yX10_ruin cX10_ruin 2 (some .int) [.int a] wc wm := by
  have hI0 := hI
  have hC0 := hC
  have hM0 := hM
  obtain ⟨rd, ⟨pl, pc⟩, ⟨ra, up, f0, su, nn, wk, ki, we, ow, fr, of⟩, ⟨oc, oa, ob, os⟩, ik, t1, o1⟩ := S
  obtain ⟨t2, x, hs0, he0, rfl⟩ := hC
  obtain ⟨k2, w2, o2, f2, x2, K, y, hk, hk4, hK, rfl⟩ := hM
  obtain ⟨hok, hoO, hos, hpl, hpc, zo, zf, zx, hik, hkp⟩ := hI
  have hn : nn ≤ 5 := hok.2.2.2.2.1
  by_cases h : hs_P nn a
  · obtain ⟨p, hp, rfl⟩ := hs_ex (by omega) h
    obtain ⟨xr, xs, xa, sd, rk⟩ := x
    have hm := m_ruin_ok rd pl pc ra up f0 su nn wk k2 we ow fr of oc oa ob os K y w2 o2 f2 x2 p (ok_k2 hok hk4) hp
    rw [rn_k hk] at hm
    exact ⟨_, _, hI0, AM.wk (c_ruin_ok ik rd pl pc ra up f0 su nn wk ki we ow fr of t1 t2 oc oa ob os o1 xr xs xa sd rk p hok hp) (fun r w' q => ⟨q.1, CW_mk q.2 hs0 he0⟩), AM.wk hm (fun r w' q => by
      obtain ⟨q1, a1, a2, a3, a4, q2⟩ := q
      exact ⟨q1, k2, a1, a2, a3, a4, K, y, hk, hk4, hK, q2⟩)⟩
  · exact ag_same hI0 hC0 hM0 (c_ruin_no ik rd pl pc ra up f0 su nn wk ki we ow fr of t1 t2 oc oa ob os o1 x a h) (m_ruin_no rd pl pc ra up f0 su nn wk k2 (jn_N 5 we w2) (jn_N 25 ow o2) (jn_N 25 fr f2) (jn_N 25 of x2) oc oa ob os K y a hn h)
theorem g_settling {S : st_T} {wc wm : List ac_T} (hI : iS S) (hC : CW S wc) (hM : MW S wm) : AG Value.int 8 yX9_settling cX9_settling 1 yX10_settling cX10_settling 1 (some .int) [] wc wm := by
  have hI0 := hI
  have hC0 := hC
  have hM0 := hM
  obtain ⟨rd, ⟨pl, pc⟩, ⟨ra, up, f0, su, nn, wk, ki, we, ow, fr, of⟩, ⟨oc, oa, ob, os⟩, ik, t1, o1⟩ := S
  obtain ⟨t2, x, hs0, he0, rfl⟩ := hC
  obtain ⟨k2, w2, o2, f2, x2, K, y, hk, hk4, hK, rfl⟩ := hM
  obtain ⟨hok, hoO, hos, hpl, hpc, zo, zf, zx, hik, hkp⟩ := hI
  have hn : nn ≤ 5 := hok.2.2.2.2.1
  obtain ⟨xr, ⟨sm, ev⟩, xa, sd, rk⟩ := x
  obtain ⟨ys, yg, yr, yd, yh⟩ := y
  have how := hok.2.2.2.2.2.2.2.1
  have hm := m_settling rd pl pc ra up f0 su nn wk k2 (jn_N 5 we w2) (jn_N 25 ow o2) (jn_N 25 fr f2) (jn_N 25 of x2) oc oa ob os K ys yg yr yd yh hn (fun p q hp hq => by rw [jn_lo _ _ (by omega)]; exact how _)
  rw [sg_c hn (fun k hk => jn_lo ow o2 hk), ← st_sg ow hn] at hm
  exact ⟨_, _, hI0, AM.wk (c_settling ik rd pl pc ra up f0 su nn wk ki we ow fr of t1 t2 oc oa ob os o1 xr sm ev xa sd rk hn how hs0 he0) (fun r w' q => by
    obtain ⟨q1, a1, a2, b1, b2, q2⟩ := q
    exact ⟨q1, CW_mk q2 b1 b2⟩), AM.wk hm (fun r w' q => by
    obtain ⟨q1, a1, a2, q2⟩ := q
    exact ⟨q1, k2, w2, o2, f2, x2, K, _, hk, hk4, hK, q2⟩)⟩
theorem g_bestRing {S : st_T} {wc wm : List ac_T} (hI : iS S) (hC : CW S wc) (hM : MW S wm) (w : Int32) : AG Value.int 8 yX9_bestRing cX9_bestRing 2 yX10_bestRing cX10_bestRing 2 (some .int) [.int w] wc wm := by
  have hI0 := hI
  have hC0 := hC
  have hM0 := hM
  obtain ⟨rd, ⟨pl, pc⟩, ⟨ra, up, f0, su, nn, wk, ki, we, ow, fr, of⟩, ⟨oc, oa, ob, os⟩, ik, t1, o1⟩ := S
  obtain ⟨t2, x, hs0, he0, rfl⟩ := hC
  obtain ⟨k2, w2, o2, f2, x2, K, y, hk, hk4, hK, rfl⟩ := hM
  obtain ⟨hok, hoO, hos, hpl, hpc, zo, zf, zx, hik, hkp⟩ := hI
  have hn : nn ≤ 5 := hok.2.2.2.2.1
  have how := hok.2.2.2.2.2.2.2.1
  have main : ∀ w : Nat, (w < 2 ∨ (10 ≤ w ∧ w < 14)) → (((0 : Int32) ≤ nI w ∧ nI w ≤ 1) ∨ ((10 : Int32) ≤ nI w ∧ nI w ≤ 13)) → AG Value.int 8 yX9_bestRing cX9_bestRing 2 yX10_bestRing cX10_bestRing 2 (some .int) [.int (nI w)] (cw_C (ik, rd) (pl, pc) (ra, up, f0, su, nn, wk, ki, we, ow, fr, of) t1 t2 (oc, oa, ob, os) o1 x) (mw_M (rd, (pl, pc), (ra, up, f0, su, nn, wk), k2, (jn_N 5 we w2, jn_N 25 ow o2, jn_N 25 fr f2, jn_N 25 of x2), (oc, oa, ob, os)) K y) := by
    intro w hw hw2
    obtain ⟨⟨xw, xb, bl, bt⟩, xs, xa, sd, rk⟩ := x
    obtain ⟨ys, yg, yr, yd, yh⟩ := y
    have hm := m_bestRing_ok rd pl pc ra up f0 su nn wk k2 (jn_N 5 we w2) (jn_N 25 ow o2) (jn_N 25 fr f2) (jn_N 25 of x2) oc oa ob os K ys yg yr yd yh w hn hw hw2 (fun k hk => by rw [jn_lo _ _ hk]; have := how k; omega)
    rw [sr_c (fun k hk => jn_lo ow o2 hk), ← tl_tm hn how xb w] at hm
    exact ⟨_, _, hI0, AM.wk (c_bestRing_ok ik rd pl pc ra up f0 su nn wk ki we ow fr of t1 t2 oc oa ob os o1 xw xb bl bt xs xa sd rk w hn how hw) (fun r w' q => by
      obtain ⟨q1, a1, q2⟩ := q
      exact ⟨q1, CW_mk q2 hs0 he0⟩), AM.wk hm (fun r w' q => by
      obtain ⟨q1, a1, q2⟩ := q
      exact ⟨q1, k2, w2, o2, f2, x2, K, _, hk, hk4, hK, q2⟩)⟩
  by_cases h0 : 0 ≤ w ∧ w ≤ 1
  · obtain ⟨w, -, h2, rfl⟩ := rg_ex 0 1 (by decide) (by decide) h0
    exact main w (by omega) (Or.inl h0)
  by_cases h1 : 10 ≤ w ∧ w ≤ 13
  · obtain ⟨w, h2, h3, rfl⟩ := rg_ex 10 13 (by decide) (by decide) h1
    exact main w (by omega) (Or.inr h1)
  exact ag_same hI0 hC0 hM0 (c_bestRing_out ik rd pl pc ra up f0 su nn wk ki we ow fr of t1 t2 oc oa ob os o1 x w (fun e => h0 (by rw [e]; decide)) (fun e => h0 (by rw [e]; decide)) h1) (m_bestRing_out rd pl pc ra up f0 su nn wk k2 (jn_N 5 we w2) (jn_N 25 ow o2) (jn_N 25 fr f2) (jn_N 25 of x2) oc oa ob os K y w h0 h1)
theorem g_offer {S : st_T} {wc wm : List ac_T} (hI : iS S) (hC : CW S wc) (hM : MW S wm) (a b z : Int32) : AG Value.int 8 yX9_offer cX9_offer 4 yX10_offer cX10_offer 4 (some .int) [.int a, .int b, .int z] wc wm := by
  have hI0 := hI
  have hC0 := hC
  have hM0 := hM
  obtain ⟨rd, ⟨pl, pc⟩, ⟨ra, up, f0, su, nn, wk, ki, we, ow, fr, of⟩, ⟨oc, oa, ob, os⟩, ik, t1, o1⟩ := S
  obtain ⟨t2, x, hs0, he0, rfl⟩ := hC
  obtain ⟨k2, w2, o2, f2, x2, K, y, hk, hk4, hK, rfl⟩ := hM
  obtain ⟨hok, hoO, hos, hpl, hpc, zo, zf, zx, hik, hkp⟩ := hI
  have hn : nn ≤ 5 := hok.2.2.2.2.1
  by_cases h : hb_P nn a b
  · by_cases hz : 1 ≤ z ∧ z ≤ 99
    · by_cases hc : oc = 6
      · exact ag_same hI0 hC0 hM0 (c_offer_full ik rd pl pc ra up f0 su nn wk ki we ow fr of t1 t2 oc oa ob os o1 x a b z h hz hc) (m_offer_full rd pl pc ra up f0 su nn wk k2 (jn_N 5 we w2) (jn_N 25 ow o2) (jn_N 25 fr f2) (jn_N 25 of x2) oc oa ob os K y a b z hn h hz hc)
      · obtain ⟨a, b, ha, hb, hab, rfl, rfl⟩ := hb_ex hn h
        obtain ⟨z, z1, z9, rfl⟩ := rg_ex 1 99 (by decide) (by decide) hz
        obtain ⟨o6, g1, g2, g3⟩ := hoO
        exact ⟨_, (rd, (pl, pc), (ra, up, f0, su, nn, wk, ki, we, ow, fr, of), (oc + 1, va_up oa oc a, va_up ob oc b, va_up os oc z), ik, t1, o1), ⟨hok, ⟨by omega, up_le g1 (by omega), up_le g2 (by omega), up_le g3 z9⟩, fun k hk => by
          by_cases e : k = oc
          · subst e; rw [up_at]; exact z1
          · rw [up_ne e]; exact hos k (by omega), hpl, hpc, zo, zf, zx, hik, hkp⟩, AM.wk (c_offer_ok ik rd pl pc ra up f0 su nn wk ki we ow fr of t1 t2 oc oa ob os o1 x a b z h hz (by omega)) (fun r w' q => ⟨q.1, t2, x, hs0, he0, q.2⟩), AM.wk (m_offer_ok rd pl pc ra up f0 su nn wk k2 (jn_N 5 we w2) (jn_N 25 ow o2) (jn_N 25 fr f2) (jn_N 25 of x2) oc oa ob os K y a b z hn h hz (by omega)) (fun r w' q => ⟨q.1, k2, w2, o2, f2, x2, K, y, hk, hk4, hK, q.2⟩)⟩
    · exact ag_same hI0 hC0 hM0 (c_offer_out ik rd pl pc ra up f0 su nn wk ki we ow fr of t1 t2 oc oa ob os o1 x a b z h hz) (m_offer_out rd pl pc ra up f0 su nn wk k2 (jn_N 5 we w2) (jn_N 25 ow o2) (jn_N 25 fr f2) (jn_N 25 of x2) oc oa ob os K y a b z hn h hz)
  · exact ag_same hI0 hC0 hM0 (c_offer_no ik rd pl pc ra up f0 su nn wk ki we ow fr of t1 t2 oc oa ob os o1 x a b z h) (m_offer_no rd pl pc ra up f0 su nn wk k2 (jn_N 5 we w2) (jn_N 25 ow o2) (jn_N 25 fr f2) (jn_N 25 of x2) oc oa ob os K y a b z hn h)
theorem g_forget {S : st_T} {wc wm : List ac_T} (hI : iS S) (hC : CW S wc) (hM : MW S wm) : AG Value.int 8 yX9_forget cX9_forget 2 yX10_forget cX10_forget 2 (some .int) [] wc wm := by
  have hI0 := hI
  have hC0 := hC
  have hM0 := hM
  obtain ⟨rd, ⟨pl, pc⟩, ⟨ra, up, f0, su, nn, wk, ki, we, ow, fr, of⟩, ⟨oc, oa, ob, os⟩, ik, t1, o1⟩ := S
  obtain ⟨t2, x, hs0, he0, rfl⟩ := hC
  obtain ⟨k2, w2, o2, f2, x2, K, y, hk, hk4, hK, rfl⟩ := hM
  obtain ⟨hok, hoO, hos, hpl, hpc, zo, zf, zx, hik, hkp⟩ := hI
  have hn : nn ≤ 5 := hok.2.2.2.2.1
  exact ⟨_, (rd, (pl, pc), (ra, up, f0, su, nn, wk, ki, we, ow, fr, of), (0, oa, ob, os), ik, t1, o1), ⟨hok, ⟨Nat.zero_le _, hoO.2⟩, fun k hk => absurd hk (Nat.not_lt_zero _), hpl, hpc, zo, zf, zx, hik, hkp⟩, AM.wk (c_forget ik rd pl pc ra up f0 su nn wk ki we ow fr of t1 t2 oc oa ob os o1 x) (fun r w' q => ⟨q.1, t2, x, hs0, he0, q.2⟩), AM.wk (m_forget rd pl pc ra up f0 su nn wk k2 (jn_N 5 we w2) (jn_N 25 ow o2) (jn_N 25 fr f2) (jn_N 25 of x2) oc oa ob os K y) (fun r w' q => ⟨q.1, k2, w2, o2, f2, x2, K, y, hk, hk4, hK, q.2⟩)⟩
theorem g_accept {S : st_T} {wc wm : List ac_T} (hI : iS S) (hC : CW S wc) (hM : MW S wm) (a nd ws w : Int32) : AG Value.int 8 yX9_accept cX9_accept 5 yX10_accept cX10_accept 5 (some .int) [.int a, .int nd, .int ws, .int w] wc wm := by
  have hI0 := hI
  have hC0 := hC
  have hM0 := hM
  obtain ⟨rd, ⟨pl, pc⟩, ⟨ra, up, f0, su, nn, wk, ki, we, ow, fr, of⟩, ⟨oc, oa, ob, os⟩, ik, t1, o1⟩ := S
  obtain ⟨t2, x, hs0, he0, rfl⟩ := hC
  obtain ⟨k2, w2, o2, f2, x2, K, y, hk, hk4, hK, rfl⟩ := hM
  obtain ⟨hok, hoO, hos, hpl, hpc, zo, zf, zx, hik, hkp⟩ := hI
  have hn : nn ≤ 5 := hok.2.2.2.2.1
  by_cases h : hs_P nn a
  · by_cases ho : (1 ≤ nd ∧ nd ≤ 500) ∧ (0 ≤ ws ∧ ws ≤ 20) ∧ 0 ≤ w ∧ w ≤ 1
    · obtain ⟨p, hp, rfl⟩ := hs_ex (by omega) h
      obtain ⟨h1, h2, h3⟩ := ho
      obtain ⟨nd, n1, n2, rfl⟩ := rg_ex 1 500 (by decide) (by decide) h1
      obtain ⟨ws, -, n3, rfl⟩ := rg_ex 0 20 (by decide) (by decide) h2
      obtain ⟨w, -, n4, rfl⟩ := rg_ex 0 1 (by decide) (by decide) h3
      obtain ⟨xr, xs, ⟨xb, xo⟩, sd, rk⟩ := x
      have hm := m_accept_ok rd pl pc ra up f0 su nn wk k2 we ow fr of oc oa ob os K y w2 o2 f2 x2 p nd ws w (ok_k2 hok hk4) hoO hp h1 h2 h3 n2 n3 n4
      rw [ac_eq (ok_k2 hok hk4) hoO hos hp, vl_k hk _ _ _ _ hp] at hm
      exact ⟨_, _, hI0, AM.wk (c_accept_ok ik rd pl pc ra up f0 su nn wk ki we ow fr of t1 t2 oc oa ob os o1 xr xs xb xo sd rk p nd ws w hok hoO hp h1 h2 h3 n1 n2 n3 n4) (fun r w' q => ⟨q.1, CW_mk q.2 hs0 he0⟩), AM.wk hm (fun r w' q => by
        obtain ⟨q1, a1, a2, a3, a4, q2⟩ := q
        exact ⟨q1, k2, a1, a2, a3, a4, K, y, hk, hk4, hK, q2⟩)⟩
    · exact ag_same hI0 hC0 hM0 (c_accept_out ik rd pl pc ra up f0 su nn wk ki we ow fr of t1 t2 oc oa ob os o1 x a nd ws w h ho) (m_accept_out rd pl pc ra up f0 su nn wk k2 (jn_N 5 we w2) (jn_N 25 ow o2) (jn_N 25 fr f2) (jn_N 25 of x2) oc oa ob os K y a nd ws w hn h ho)
  · exact ag_same hI0 hC0 hM0 (c_accept_no ik rd pl pc ra up f0 su nn wk ki we ow fr of t1 t2 oc oa ob os o1 x a nd ws w h) (m_accept_no rd pl pc ra up f0 su nn wk k2 (jn_N 5 we w2) (jn_N 25 ow o2) (jn_N 25 fr f2) (jn_N 25 of x2) oc oa ob os K y a nd ws w hn h)
theorem g_grown {S : st_T} {wc wm : List ac_T} (hI : iS S) (hC : CW S wc) (hM : MW S wm) (z ws d c w : Int32) : AG Value.int 8 yX9_grown cX9_grown 10 yX10_grown cX10_grown 6 (some .int) [.int z, .int ws, .int d, .int c, .int w] wc wm := by
  have hI0 := hI
  have hC0 := hC
  have hM0 := hM
  obtain ⟨rd, ⟨pl, pc⟩, ⟨ra, up, f0, su, nn, wk, ki, we, ow, fr, of⟩, ⟨oc, oa, ob, os⟩, ik, t1, o1⟩ := S
  obtain ⟨t2, x, hs0, he0, rfl⟩ := hC
  obtain ⟨k2, w2, o2, f2, x2, K, y, hk, hk4, hK, rfl⟩ := hM
  obtain ⟨hok, hoO, hos, hpl, hpc, zo, zf, zx, hik, hkp⟩ := hI
  have hn : nn ≤ 5 := hok.2.2.2.2.1
  by_cases ho : (0 ≤ z ∧ z ≤ 9999) ∧ (0 ≤ ws ∧ ws ≤ 40) ∧ (0 ≤ d ∧ d ≤ 4) ∧ (0 ≤ c ∧ c ≤ 4) ∧ 0 ≤ w ∧ w ≤ 1
  · obtain ⟨h1, h2, h3, h4, h5⟩ := ho
    obtain ⟨z, -, n1, rfl⟩ := rg_ex 0 9999 (by decide) (by decide) h1
    obtain ⟨ws, -, n2, rfl⟩ := rg_ex 0 40 (by decide) (by decide) h2
    obtain ⟨d, -, n3, rfl⟩ := rg_ex 0 4 (by decide) (by decide) h3
    obtain ⟨c, -, n4, rfl⟩ := rg_ex 0 4 (by decide) (by decide) h4
    obtain ⟨w, -, n5, rfl⟩ := rg_ex 0 1 (by decide) (by decide) h5
    exact ag_same hI0 hC0 hM0 (c_grown_ok ik rd pl pc ra up f0 su nn wk ki we ow fr of t1 t2 oc oa ob os o1 x z ws d c w h1 h2 h3 h4 h5 n1 n2 (by omega) (by omega) n5 hok.1 hok.2.1 hok.2.2.1) (m_grown_ok rd pl pc ra up f0 su nn wk k2 (jn_N 5 we w2) (jn_N 25 ow o2) (jn_N 25 fr f2) (jn_N 25 of x2) oc oa ob os K y z ws d c w h1 h2 h3 h4 h5 n1 n2 (by omega) (by omega) n5 hok.1 hok.2.1 hok.2.2.1)
  · exact ag_same hI0 hC0 hM0 (c_grown_out ik rd pl pc ra up f0 su nn wk ki we ow fr of t1 t2 oc oa ob os o1 x z ws d c w ho) (m_grown_out rd pl pc ra up f0 su nn wk k2 (jn_N 5 we w2) (jn_N 25 ow o2) (jn_N 25 fr f2) (jn_N 25 of x2) oc oa ob os K y z ws d c w ho)
theorem g_years {S : st_T} {wc wm : List ac_T} (hI : iS S) (hC : CW S wc) (hM : MW S wm) (ws s w : Int32) : AG Value.int 8 yX9_years cX9_years 5 yX10_years cX10_years 4 (some .int) [.int ws, .int s, .int w] wc wm := by
  have hI0 := hI
  have hC0 := hC
  have hM0 := hM
  obtain ⟨rd, ⟨pl, pc⟩, ⟨ra, up, f0, su, nn, wk, ki, we, ow, fr, of⟩, ⟨oc, oa, ob, os⟩, ik, t1, o1⟩ := S
  obtain ⟨t2, x, hs0, he0, rfl⟩ := hC
  obtain ⟨k2, w2, o2, f2, x2, K, y, hk, hk4, hK, rfl⟩ := hM
  obtain ⟨hok, hoO, hos, hpl, hpc, zo, zf, zx, hik, hkp⟩ := hI
  have hn : nn ≤ 5 := hok.2.2.2.2.1
  by_cases ho : (1 ≤ ws ∧ ws ≤ 60) ∧ ¬ s < 0 ∧ 0 ≤ w ∧ w ≤ 2
  · by_cases h0 : nn = 0
    · exact ag_same hI0 hC0 hM0 (c_years_st ik rd pl pc ra up f0 su nn wk ki we ow fr of t1 t2 oc oa ob os o1 x ws s w ho h0) (m_years_st rd pl pc ra up f0 su nn wk k2 (jn_N 5 we w2) (jn_N 25 ow o2) (jn_N 25 fr f2) (jn_N 25 of x2) oc oa ob os K y ws s w ho h0)
    · obtain ⟨h1, h2, h3⟩ := ho
      obtain ⟨ws, -, n1, rfl⟩ := rg_ex 1 60 (by decide) (by decide) h1
      have hs : nI 0 ≤ s ∧ s ≤ nI 2147483647 := by
        rw [fa_lt, show (0 : Int32).toInt = 0 from rfl] at h2
        have := Int32.toInt_lt s
        rw [fa_le, fa_le, nI_toInt (by decide), nI_toInt (by decide)]
        constructor <;> omega
      obtain ⟨s, -, n2, rfl⟩ := rg_ex 0 2147483647 (by decide) (by decide) hs
      obtain ⟨w, -, n3, rfl⟩ := rg_ex 0 2 (by decide) (by decide) h3
      obtain ⟨xr, xs, xa, sd, rk⟩ := x
      obtain ⟨ys, yg, yr, yd, yh⟩ := y
      have hm := m_years_ok rd pl pc ra up f0 su nn wk k2 we ow fr of oc oa ob os K w2 o2 f2 x2 ys yg yr yd yh ws s w ⟨h1, h2, h3⟩ n1 (by omega) (by omega) (ok_k2 hok hk4) (by omega)
      rw [ye_k (by omega) hk] at hm
      exact ⟨_, _, hI0, AM.wk (c_years_ok ik rd pl pc ra up f0 su nn wk ki we ow fr of t1 t2 oc oa ob os o1 xr xs xa sd rk ws s w ⟨h1, h2, h3⟩ n1 (by omega) (by omega) hok (by omega)) (fun r w' q => ⟨q.1, CW_mk q.2 hs0 he0⟩), AM.wk hm (fun r w' q => by
        obtain ⟨q1, a1, a2, a3, a4, a5, q2⟩ := q
        exact ⟨q1, k2, a1, a2, a3, a4, K, _, hk, hk4, hK, q2⟩)⟩
  · exact ag_same hI0 hC0 hM0 (c_years_out ik rd pl pc ra up f0 su nn wk ki we ow fr of t1 t2 oc oa ob os o1 x ws s w ho) (m_years_out rd pl pc ra up f0 su nn wk k2 (jn_N 5 we w2) (jn_N 25 ow o2) (jn_N 25 fr f2) (jn_N 25 of x2) oc oa ob os K y ws s w ho)
theorem g_image {S : st_T} {wc wm : List ac_T} (hI : iS S) (hC : CW S wc) (hM : MW S wm) : AG Value.int 8 yX9_image cX9_image 1 yX10_image cX10_image 2 (some .int) [] wc wm := by
  have hI0 := hI
  have hC0 := hC
  have hM0 := hM
  obtain ⟨rd, ⟨pl, pc⟩, ⟨ra, up, f0, su, nn, wk, ki, we, ow, fr, of⟩, ⟨oc, oa, ob, os⟩, ik, t1, o1⟩ := S
  obtain ⟨t2, x, hs0, he0, rfl⟩ := hC
  obtain ⟨k2, w2, o2, f2, x2, K, y, hk, hk4, hK, rfl⟩ := hM
  obtain ⟨hok, hoO, hos, hpl, hpc, zo, zf, zx, hik, hkp⟩ := hI
  have hn : nn ≤ 5 := hok.2.2.2.2.1
  exact ⟨_, (rd, (pl, pc), (ra, up, f0, su, nn, wk, ki, we, ow, fr, of), (oc, oa, ob, os), 1, (ra, up, f0, su, nn, wk, ki, we, ow, fr, of), (oc, oa, ob, os)), ⟨hok, hoO, hos, hpl, hpc, zo, zf, zx, Nat.le_refl _, fun _ => ⟨hok, hoO, hos, zo, zf, zx, Nat.le_refl _⟩⟩, AM.wk (c_image ik rd pl pc ra up f0 su nn wk ki we ow fr of t1 t2 oc oa ob os o1 x hok.2.1) (fun r w' q => ⟨q.1, t2, x, hs0, he0, q.2⟩), AM.wk (m_image rd pl pc ra up f0 su nn wk k2 we ow fr of oc oa ob os K y w2 o2 f2 x2) (fun r w' q => ⟨q.1, k2, w2, o2, f2, x2, _, y, hk, hk4, ⟨rfl, fun _ => ⟨rfl, hk⟩⟩, q.2⟩)⟩
theorem kq_a (oa ob os : Nat → Nat) : (fun k => kq_N oa ob os (3 * k)) = oa ∧ (fun k => kq_N oa ob os (3 * k + 1)) = ob ∧ (fun k => kq_N oa ob os (3 * k + 2)) = os := by
  refine ⟨funext fun k => ?_, funext fun k => ?_, funext fun k => ?_⟩
  · unfold kq_N
    rw [if_pos (by omega), show 3 * k / 3 = k by omega]
  · unfold kq_N
    rw [if_neg (by omega), if_pos (by omega), show (3 * k + 1) / 3 = k by omega]
  · unfold kq_N
    rw [if_neg (by omega), if_neg (by omega), show (3 * k + 2) / 3 = k by omega]
theorem g_restore {S : st_T} {wc wm : List ac_T} (hI : iS S) (hC : CW S wc) (hM : MW S wm) : AG Value.int 8 yX9_restore cX9_restore 1 yX10_restore cX10_restore 2 (some .int) [] wc wm := by
  have hI0 := hI
  have hC0 := hC
  have hM0 := hM
  obtain ⟨rd, ⟨pl, pc⟩, ⟨ra, up, f0, su, nn, wk, ki, we, ow, fr, of⟩, ⟨oc, oa, ob, os⟩, ik, t1, o1⟩ := S
  obtain ⟨t2, x, hs0, he0, rfl⟩ := hC
  obtain ⟨k2, w2, o2, f2, x2, K, y, hk, hk4, hK, rfl⟩ := hM
  obtain ⟨hok, hoO, hos, hpl, hpc, zo, zf, zx, hik, hkp⟩ := hI
  have hn : nn ≤ 5 := hok.2.2.2.2.1
  by_cases h : ik = 0
  · refine ag_same hI0 hC0 hM0 (c_restore_no ik rd pl pc ra up f0 su nn wk ki we ow fr of t1 t2 oc oa ob os o1 x h) (m_restore_no rd pl pc ra up f0 su nn wk k2 (jn_N 5 we w2) (jn_N 25 ow o2) (jn_N 25 fr f2) (jn_N 25 of x2) oc oa ob os K y ?_)
    obtain ⟨kra, kup, kf0, ksu, knn, kwk, kki, kw, ko, kf, kx⟩ := t1
    obtain ⟨koc, koa, kob, kos⟩ := o1
    exact hK.1.trans h
  · obtain rfl : ik = 1 := by omega
    obtain ⟨kra, kup, kf0, ksu, knn, kwk, kki, kw, ko, kf, kx⟩ := t1
    obtain ⟨koc, koa, kob, kos⟩ := o1
    have hK0 := hK
    obtain ⟨K1, K2⟩ := K
    obtain ⟨h1, h2⟩ := hK
    obtain ⟨h2, h3⟩ := h2 rfl
    have h1 : K1 = 1 := h1
    have h2 : K2 = _ := h2
    subst h1 h2
    obtain ⟨g1, g2, g3, g4, g5, g6, g7⟩ := hkp rfl
    have hm := m_restore_ok rd pl pc ra up f0 su nn wk k2 (jn_N 5 we w2) (jn_N 25 ow o2) (jn_N 25 fr f2) (jn_N 25 of x2) oc oa ob os (1, (kra, kup, kf0, ksu, knn, kwk, koc), (kw, ko, kf, kx), kq_N koa kob kos) y kra kup kf0 ksu knn kwk koc kw ko kf kx (kq_N koa kob kos)
    rw [(kq_a koa kob kos).1, (kq_a koa kob kos).2.1, (kq_a koa kob kos).2.2, pb_jn0, pb_jn0, pb_jn0, pb_jn0] at hm
    exact ⟨_, (rd, (pl, pc), (kra, kup, kf0, ksu, knn, kwk, kki, kw, ko, kf, kx), (koc, koa, kob, kos), 1, (kra, kup, kf0, ksu, knn, kwk, kki, kw, ko, kf, kx), (koc, koa, kob, kos)), ⟨g1, g2, g3, hpl, hpc, g4, g5, g6, Nat.le_refl _, fun _ => ⟨g1, g2, g3, g4, g5, g6, Nat.le_refl _⟩⟩, AM.wk (c_restore_ok 1 rd pl pc ra up f0 su nn wk ki we ow fr of (kra, kup, kf0, ksu, knn, kwk, kki, kw, ko, kf, kx) t2 oc oa ob os (koc, koa, kob, kos) x rfl g1.2.1) (fun r w' q => ⟨q.1, t2, x, hs0, he0, q.2⟩), AM.wk hm (fun r w' q => ⟨q.1, k2, w2, o2, f2, x2, _, y, h3, hk4, hK0, q.2⟩)⟩
theorem g_count {S : st_T} {wc wm : List ac_T} (hI : iS S) (hC : CW S wc) (hM : MW S wm) (w : Int32) : AG Value.int 8 yX9_count cX9_count 2 yX10_count cX10_count 2 (some .int) [.int w] wc wm := by
  have hI0 := hI
  have hC0 := hC
  have hM0 := hM
  obtain ⟨rd, ⟨pl, pc⟩, ⟨ra, up, f0, su, nn, wk, ki, we, ow, fr, of⟩, ⟨oc, oa, ob, os⟩, ik, t1, o1⟩ := S
  obtain ⟨t2, x, hs0, he0, rfl⟩ := hC
  obtain ⟨k2, w2, o2, f2, x2, K, y, hk, hk4, hK, rfl⟩ := hM
  obtain ⟨hok, hoO, hos, hpl, hpc, zo, zf, zx, hik, hkp⟩ := hI
  have hn : nn ≤ 5 := hok.2.2.2.2.1
  by_cases h : 0 ≤ w ∧ w ≤ 10
  · obtain ⟨w, -, n1, rfl⟩ := rg_ex 0 10 (by decide) (by decide) h
    have hm := m_count_ok rd pl pc ra up f0 su nn wk k2 (jn_N 5 we w2) (jn_N 25 ow o2) (jn_N 25 fr f2) (jn_N 25 of x2) oc oa ob os K y w hn (by omega)
    rw [ct_c hn rd pl ra up f0 su wk oc (fun k hk => jn_lo we w2 hk) (fun k hk => jn_lo ow o2 hk)] at hm
    exact ag_same hI0 hC0 hM0 (c_count_ok ik rd pl pc ra up f0 su nn wk ki we ow fr of t1 t2 oc oa ob os o1 x w hn hok.2.1 (by omega)) hm
  · exact ag_same hI0 hC0 hM0 (c_count_out ik rd pl pc ra up f0 su nn wk ki we ow fr of t1 t2 oc oa ob os o1 x w (ni_sw (n := 10) (by decide) h)) (m_count_out rd pl pc ra up f0 su nn wk k2 (jn_N 5 we w2) (jn_N 25 ow o2) (jn_N 25 fr f2) (jn_N 25 of x2) oc oa ob os K y w (ni_sw (n := 10) (by decide) h))
theorem g_digest {S : st_T} {wc wm : List ac_T} (hI : iS S) (hC : CW S wc) (hM : MW S wm) : AG Value.long 10 yX9_digest cX9_digest 4 yX10_digest cX10_digest 2 (some .long) [] wc wm := by
  have hI0 := hI
  have hC0 := hC
  have hM0 := hM
  obtain ⟨rd, ⟨pl, pc⟩, ⟨ra, up, f0, su, nn, wk, ki, we, ow, fr, of⟩, ⟨oc, oa, ob, os⟩, ik, t1, o1⟩ := S
  obtain ⟨t2, x, hs0, he0, rfl⟩ := hC
  obtain ⟨k2, w2, o2, f2, x2, K, y, hk, hk4, hK, rfl⟩ := hM
  obtain ⟨hok, hoO, hos, hpl, hpc, zo, zf, zx, hik, hkp⟩ := hI
  have hn : nn ≤ 5 := hok.2.2.2.2.1
  obtain ⟨⟨xw, xb, bl, bt⟩, ⟨sm, ev⟩, xa, sd, rk⟩ := x
  obtain ⟨ys, yg, yr, yd, yh⟩ := y
  have hm := m_digest rd pl pc ra up f0 su nn wk k2 we ow fr of oc oa ob os K w2 o2 f2 x2 ys yg yr yd yh hpl (ok_k2 hok hk4)
  rw [di_dm hok hk oc xb] at hm
  exact ⟨_, _, hI0, AM.wk (c_digest ik rd pl pc ra up f0 su nn wk ki we ow fr of t1 t2 oc oa ob os o1 xw xb bl bt sm ev xa sd rk hpl hok hs0 he0) (fun r w' q => by
    obtain ⟨q1, a1, a2, a3, b1, b2, q2⟩ := q
    exact ⟨q1, CW_mk q2 b1 b2⟩), AM.wk hm (fun r w' q => by
    obtain ⟨q1, a1, a2, a3, a4, a5, a6, a7, a8, q2⟩ := q
    exact ⟨q1, k2, a1, a2, a3, a4, K, _, hk, hk4, hK, q2⟩)⟩
