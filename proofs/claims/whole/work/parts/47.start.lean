/-! ===== what the law finds at its entry ===== -/
theorem ke_l : ∀ i, i < ac_nm.length → Cond.laysStatic "ThanksOwed$Kind" (ac_nm.getD i "") "LThanksOwed$Kind;" ∈ lw_tbl := by decide +kernel
theorem ke_x : ∀ i, i < ac_nm.length → Cond.exactly (.static "ThanksOwed$Kind" (ac_nm.getD i "") "LThanksOwed$Kind;") "ThanksOwed$Kind" ∈ flatC (Jvm.Cond.and given_1 narrow_1) := by decide +kernel
theorem ke_f : ∀ q ∈ ac_F, ∀ i, i < ac_nm.length → Cond.eq (.field (.static "ThanksOwed$Kind" (ac_nm.getD i "") "LThanksOwed$Kind;") q.1 q.2.1 q.2.2.1) (.int (q.2.2.2.getD i 0)) ∈ flatC (Jvm.Cond.and given_1 narrow_1) := by decide +kernel
theorem ke_d : ∀ i, i < ac_nm.length → ∀ j, j < ac_nm.length → i ≠ j → Cond.not (.eq (.static "ThanksOwed$Kind" (ac_nm.getD i "") "LThanksOwed$Kind;") (.static "ThanksOwed$Kind" (ac_nm.getD j "") "LThanksOwed$Kind;")) ∈ flatC (Jvm.Cond.and given_1 narrow_1) ∨ Cond.not (.eq (.static "ThanksOwed$Kind" (ac_nm.getD j "") "LThanksOwed$Kind;") (.static "ThanksOwed$Kind" (ac_nm.getD i "") "LThanksOwed$Kind;")) ∈ flatC (Jvm.Cond.and given_1 narrow_1) := by decide +kernel
theorem ke_e : ∀ j, j < ac_nm.length → Cond.eq (.elem (.static "ThanksOwed" "KINDS" "[LThanksOwed$Kind;") (.int (Int32.ofNat j))) (.static "ThanksOwed$Kind" (ac_nm.getD j "") "LThanksOwed$Kind;") ∈ flatC (Jvm.Cond.and given_1 narrow_1) := by decide +kernel
theorem ks_ent {s : State} {b : Nat} (hgv : (Jvm.Cond.and given_1 narrow_1).before #[Value.ref b] s = true) (hts : ∀ w ∈ lw_tbl, w.before #[Value.ref b] s = true) : ∃ kd : Nat → Nat, ac_K kd (fun q => s.heap.size ≤ q) s s.heap := by
  have hs := flat_of_before _ hgv
  obtain ⟨ad, hE, hst⟩ := va_Enof2 (E := "ThanksOwed$Kind") (d := "LThanksOwed$Kind;") (nm := ac_nm) (F := ac_F) (args := #[Value.ref b]) (s := s) (A := fun q => s.heap.size ≤ q) (fun i hi => hts _ (ke_l i hi)) (hts _ (gw_big gq_55)) (fun i hi => hs _ (ke_x i hi)) (fun q hq i hi => hs _ (ke_f q hq i hi)) (fun i j hi hj hne => (ke_d i hi j hj hne).elim (fun h => Or.inl (hs _ h)) (fun h => Or.inr (hs _ h))) (fun a ha => Nat.not_le.mpr ha)
  have hA : ∀ a : Nat, a < s.heap.size → ¬ (fun q => s.heap.size ≤ q) a := fun a ha => Nat.not_le.mpr ha
  obtain ⟨t, ht, hT⟩ := va_Tof (tm := .static "ThanksOwed" "KINDS" "[LThanksOwed$Kind;") (ty := .object "ThanksOwed$Kind") (N := 5) (f := fun j => .ref (ad j)) (args := #[Value.ref b]) (s := s) (A := fun q => s.heap.size ≤ q) (by decide) (hs _ (by decide +kernel)) (va_eqt (z := Int32.ofNat 5) (hs _ (by decide +kernel))) (fun j hj => va_eqv (hs _ (ke_e j hj)) (hst j hj)) hA
  have hZ := va_Zof (C := "ThanksOwed") (n := "KINDS") (d := "[LThanksOwed$Kind;") (args := #[Value.ref b]) (s := s) (A := fun q => s.heap.size ≤ q) (hts _ (by decide +kernel)) (hts _ (gw_big gq_44)) ht hA
  have e : ∀ i, i < 5 → (if 1000 + i = 1010 then t else ad (1000 + i - 1000)) = ad i := fun i hi => by rw [if_neg (by omega), Nat.add_sub_cancel_left]
  refine ⟨fun k => if k = 1010 then t else ad (k - 1000), ⟨fun i hi => ?_, fun i j hi hj h => ?_⟩, hZ, ?_⟩
  · have := hE.1 i hi
    dsimp only
    rw [e i hi]
    exact this
  · dsimp only at h
    rw [e i hi, e j hj] at h
    exact hE.2 i j hi hj h
  · obtain ⟨cell, h1, h2, h3, h4, h5, h6, h7⟩ := hT
    refine ⟨cell, h1, h2, h3, h4, h5, fun j hj => ?_, h7⟩
    dsimp only
    rw [e j hj]
    exact h6 j hj
