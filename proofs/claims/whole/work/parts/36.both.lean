/-! ===== both sides, state by state ===== -/
abbrev st_T : Type := Int32 × pg_T × tw_T × of_T × Nat × tw_T × of_T
def zo_P (nn : Nat) (f : Nat → Nat) : Prop := ∀ k, ¬ (k / 5 < nn ∧ k % 5 < nn) → f k = 0
def ks_P : tw_T → of_T → Nat → Prop
  | (kra, kup, kf0, ksu, knn, kwk, kki, kw, ko, kf, kx), (koc, koa, kob, kos), nn => ok_T (kra, kup, kf0, ksu, knn, kwk, kki, kw, ko, kf, kx) ∧ ok_O (koc, koa, kob, kos) ∧ (∀ k, k < koc → 1 ≤ kos k) ∧ zo_P knn ko ∧ zo_P knn kf ∧ zo_P knn kx ∧ knn ≤ nn
def kp_P (ik : Nat) : tw_T → of_T → mk_T → (Nat → Nat) → Prop
  | (kra, kup, kf0, ksu, knn, kwk, kki, kw, ko, kf, kx), (koc, koa, kob, kos), K, k2 => K.1 = ik ∧ (ik = 1 → K.2 = ((kra, kup, kf0, ksu, knn, kwk, koc), (kw, ko, kf, kx), kq_N koa kob kos) ∧ ∀ k, k < knn → k2 k = kki k)
/-- what always holds -/
def iS : st_T → Prop
  | (_, (pl, pc), (ra, up, f0, su, nn, wk, ki, we, ow, fr, of), (oc, oa, ob, os), ik, t1, o1) => ok_T (ra, up, f0, su, nn, wk, ki, we, ow, fr, of) ∧ ok_O (oc, oa, ob, os) ∧ (∀ k, k < oc → 1 ≤ os k) ∧ pl ≤ 6 ∧ (∀ k, pc k ≤ 126) ∧ zo_P nn ow ∧ zo_P nn fr ∧ zo_P nn of ∧ ik ≤ 1 ∧ (ik = 1 → ks_P t1 o1 nn)
/-- the class's cells in a state -/
def CW : st_T → List ac_T → Prop
  | (rd, P, t, o, ik, t1, o1), w => ∃ (t2 : tw_T) (x : sc_T), x.2.1.1 0 = 0 ∧ x.2.1.2 0 = 0 ∧ w = cw_C (ik, rd) P t t1 t2 o o1 x
/-- the reference's cells in a state -/
def MW : st_T → List ac_T → Prop
  | (rd, (pl, pc), (ra, up, f0, su, nn, wk, ki, we, ow, fr, of), o, ik, t1, o1), w => ∃ (k2 w2 o2 f2 x2 : Nat → Nat) (K : mk_T) (y : ms_T), (∀ k, k < nn → k2 k = ki k) ∧ (∀ k, k2 k ≤ 4) ∧ kp_P ik t1 o1 K k2 ∧ w = mw_M (rd, (pl, pc), (ra, up, f0, su, nn, wk), k2, (jn_N 5 we w2, jn_N 25 ow o2, jn_N 25 fr f2, jn_N 25 of x2), o) K y
/-- a call answers alike, and leaves alike -/
def AG {τ : Type} (mk : τ → Value) (d : Nat) (yC : MethodName) (cC : ByteArray) (mC : Nat) (yM : MethodName) (cM : ByteArray) (mM : Nat) (rt : Option FieldType) (as : List Value) (wc wm : List ac_T) : Prop := ∃ (v : τ) (S' : st_T), iS S' ∧ AM d yC cC mC rt (.ref 0 :: as) wc (fun r w' => r = some (mk v) ∧ CW S' w') ∧ AM d yM cM mM rt (.ref 0 :: as) wm (fun r w' => r = some (mk v) ∧ MW S' w')
theorem ag_same {τ : Type} {mk : τ → Value} {d : Nat} {yC : MethodName} {cC : ByteArray} {mC : Nat} {yM : MethodName} {cM : ByteArray} {mM : Nat} {rt : Option FieldType} {as : List Value} {wc wm : List ac_T} {S : st_T} (hI : iS S) (hC : CW S wc) (hM : MW S wm) {v : τ} (h1 : AM d yC cC mC rt (.ref 0 :: as) wc (ac_R (some (mk v)) wc)) (h2 : AM d yM cM mM rt (.ref 0 :: as) wm (ac_R (some (mk v)) wm)) : AG mk d yC cC mC yM cM mM rt as wc wm := ⟨v, S, hI, AM.wk h1 (fun r w' q => ⟨q.1, by rw [q.2]; exact hC⟩), AM.wk h2 (fun r w' q => ⟨q.1, by rw [q.2]; exact hM⟩)⟩
theorem rg_ex (lo hi : Nat) {a : Int32} (hh : hi < 2147483648) (hl : lo < 2147483648) (h : nI lo ≤ a ∧ a ≤ nI hi) : ∃ n, lo ≤ n ∧ n ≤ hi ∧ a = nI n := by
  obtain ⟨h1, h2⟩ := h
  rw [fa_le, nI_toInt hl] at h1
  rw [fa_le, nI_toInt hh] at h2
  refine ⟨a.toInt.toNat, by omega, by omega, ?_⟩
  rw [fa_eq, nI_toInt (by omega)]
  omega
theorem g_letter {S : st_T} {wc wm : List ac_T} (hI : iS S) (hC : CW S wc) (hM : MW S wm) (c : Int32) : AG Value.int 8 yX9_letter cX9_letter 2 yX10_letter cX10_letter 2 (some .int) [.int c] wc wm := by
  have hI0 := hI
  have hC0 := hC
  have hM0 := hM
  obtain ⟨rd, ⟨pl, pc⟩, ⟨ra, up, f0, su, nn, wk, ki, we, ow, fr, of⟩, ⟨oc, oa, ob, os⟩, ik, t1, o1⟩ := S
  obtain ⟨t2, x, hs0, he0, rfl⟩ := hC
  obtain ⟨k2, w2, o2, f2, x2, K, y, hk, hk4, hK, rfl⟩ := hM
  obtain ⟨hok, hoO, hos, hpl, hpc, zo, zf, zx, hik, hkp⟩ := hI
  have hn : nn ≤ 5 := hok.2.2.2.2.1
  by_cases h : 32 ≤ c ∧ c ≤ 126
  · by_cases hp : pl = 6
    · exact ag_same hI0 hC0 hM0 (c_letter_full ik rd pl pc ra up f0 su nn wk ki we ow fr of t1 t2 oc oa ob os o1 x c h hp) (m_letter_full rd pl pc ra up f0 su nn wk k2 (jn_N 5 we w2) (jn_N 25 ow o2) (jn_N 25 fr f2) (jn_N 25 of x2) oc oa ob os K y c h hp)
    · obtain ⟨n, h1, h2, rfl⟩ := rg_ex 32 126 (by decide) (by decide) h
      exact ⟨_, (rd, (pl + 1, va_up pc pl n), (ra, up, f0, su, nn, wk, ki, we, ow, fr, of), (oc, oa, ob, os), ik, t1, o1), ⟨hok, hoO, hos, by omega, up_le hpc h2, zo, zf, zx, hik, hkp⟩, AM.wk (c_letter_ok ik rd pl pc ra up f0 su nn wk ki we ow fr of t1 t2 oc oa ob os o1 x n h (by omega)) (fun r w' q => ⟨q.1, t2, x, hs0, he0, q.2⟩), AM.wk (m_letter_ok rd pl pc ra up f0 su nn wk k2 (jn_N 5 we w2) (jn_N 25 ow o2) (jn_N 25 fr f2) (jn_N 25 of x2) oc oa ob os K y n h (by omega) (by omega)) (fun r w' q => ⟨q.1, k2, w2, o2, f2, x2, K, y, hk, hk4, hK, q.2⟩)⟩
  · exact ag_same hI0 hC0 hM0 (c_letter_out ik rd pl pc ra up f0 su nn wk ki we ow fr of t1 t2 oc oa ob os o1 x c h) (m_letter_out rd pl pc ra up f0 su nn wk k2 (jn_N 5 we w2) (jn_N 25 ow o2) (jn_N 25 fr f2) (jn_N 25 of x2) oc oa ob os K y c h)
theorem g_blank {S : st_T} {wc wm : List ac_T} (hI : iS S) (hC : CW S wc) (hM : MW S wm) : AG Value.int 8 yX9_blank cX9_blank 2 yX10_blank cX10_blank 2 (some .int) [] wc wm := by
  have hI0 := hI
  have hC0 := hC
  have hM0 := hM
  obtain ⟨rd, ⟨pl, pc⟩, ⟨ra, up, f0, su, nn, wk, ki, we, ow, fr, of⟩, ⟨oc, oa, ob, os⟩, ik, t1, o1⟩ := S
  obtain ⟨t2, x, hs0, he0, rfl⟩ := hC
  obtain ⟨k2, w2, o2, f2, x2, K, y, hk, hk4, hK, rfl⟩ := hM
  obtain ⟨hok, hoO, hos, hpl, hpc, zo, zf, zx, hik, hkp⟩ := hI
  have hn : nn ≤ 5 := hok.2.2.2.2.1
  exact ⟨_, (rd, (0, pc), (ra, up, f0, su, nn, wk, ki, we, ow, fr, of), (oc, oa, ob, os), ik, t1, o1), ⟨hok, hoO, hos, Nat.zero_le _, hpc, zo, zf, zx, hik, hkp⟩, AM.wk (c_blank ik rd pl pc ra up f0 su nn wk ki we ow fr of t1 t2 oc oa ob os o1 x) (fun r w' q => ⟨q.1, t2, x, hs0, he0, q.2⟩), AM.wk (m_blank rd pl pc ra up f0 su nn wk k2 (jn_N 5 we w2) (jn_N 25 ow o2) (jn_N 25 fr f2) (jn_N 25 of x2) oc oa ob os K y) (fun r w' q => ⟨q.1, k2, w2, o2, f2, x2, K, y, hk, hk4, hK, q.2⟩)⟩
theorem g_fault {S : st_T} {wc wm : List ac_T} (hI : iS S) (hC : CW S wc) (hM : MW S wm) : AG Value.int 8 yX9_fault cX9_fault 1 yX10_fault cX10_fault 1 (some .int) [] wc wm := by
  have hI0 := hI
  have hC0 := hC
  have hM0 := hM
  obtain ⟨rd, ⟨pl, pc⟩, ⟨ra, up, f0, su, nn, wk, ki, we, ow, fr, of⟩, ⟨oc, oa, ob, os⟩, ik, t1, o1⟩ := S
  obtain ⟨t2, x, hs0, he0, rfl⟩ := hC
  obtain ⟨k2, w2, o2, f2, x2, K, y, hk, hk4, hK, rfl⟩ := hM
  obtain ⟨hok, hoO, hos, hpl, hpc, zo, zf, zx, hik, hkp⟩ := hI
  have hn : nn ≤ 5 := hok.2.2.2.2.1
  exact ag_same hI0 hC0 hM0 (c_fault ik rd pl pc ra up f0 su nn wk ki we ow fr of t1 t2 oc oa ob os o1 x hpl hpc) (m_fault rd pl pc ra up f0 su nn wk k2 (jn_N 5 we w2) (jn_N 25 ow o2) (jn_N 25 fr f2) (jn_N 25 of x2) oc oa ob os K y hpl hpc)
