/-! ===== what the law finds at its entry ===== -/
theorem ke_l : ∀ i, i < ac_nm.length → Cond.laysStatic "ThanksOwed$Kind" (ac_nm.getD i "") "LThanksOwed$Kind;" ∈ lw_tbl := by decide +kernel
theorem ke_x : ∀ i, i < ac_nm.length → Cond.exactly (.static "ThanksOwed$Kind" (ac_nm.getD i "") "LThanksOwed$Kind;") "ThanksOwed$Kind" ∈ flatC (Jvm.Cond.and given_1 narrow_1) := by decide +kernel
theorem ke_f : ∀ q ∈ ac_F, ∀ i, i < ac_nm.length → Cond.eq (.field (.static "ThanksOwed$Kind" (ac_nm.getD i "") "LThanksOwed$Kind;") q.1 q.2.1 q.2.2.1) (.int (q.2.2.2.getD i 0)) ∈ flatC (Jvm.Cond.and given_1 narrow_1) := by decide +kernel
theorem ke_d : ∀ i, i < ac_nm.length → ∀ j, j < ac_nm.length → i ≠ j → Cond.not (.eq (.static "ThanksOwed$Kind" (ac_nm.getD i "") "LThanksOwed$Kind;") (.static "ThanksOwed$Kind" (ac_nm.getD j "") "LThanksOwed$Kind;")) ∈ flatC (Jvm.Cond.and given_1 narrow_1) ∨ Cond.not (.eq (.static "ThanksOwed$Kind" (ac_nm.getD j "") "LThanksOwed$Kind;") (.static "ThanksOwed$Kind" (ac_nm.getD i "") "LThanksOwed$Kind;")) ∈ flatC (Jvm.Cond.and given_1 narrow_1) := by decide +kernel
theorem ke_e : ∀ j, j < ac_nm.length → Cond.eq (.elem (.static "ThanksOwed" "KINDS" "[LThanksOwed$Kind;") (.int (Int32.ofNat j))) (.static "ThanksOwed$Kind" (ac_nm.getD j "") "LThanksOwed$Kind;") ∈ flatC (Jvm.Cond.and given_1 narrow_1) := by decide +kernel
theorem ks_ent {s : State} {b : Nat} (hgv : (Jvm.Cond.and given_1 narrow_1).before #[Value.ref b] s = true) (hts : ∀ w ∈ lw_tbl, w.before #[Value.ref b] s = true) : ∃ kd : Nat → Nat, ac_K kd (fun q => s.heap.size ≤ q) s s.heap := by
  have hs := flat_of_before _ hgv
  obtain ⟨ad, hE, hst⟩ := va_Enof2 (E := "ThanksOwed$Kind") (d := "LThanksOwed$Kind;") (nm := ac_nm) (F := ac_F) (args := #[Value.ref b]) (s := s) (A := fun q => s.heap.size ≤ q) (fun i hi => hts _ (ke_l i hi)) (hts _ (gw_big gq_55)) (fun i hi => hs _ (ke_x i hi)) (fun q hq i hi => hs _ (ke_f q hq i hi)) (fun i j hi hj hne => (ke_d i hi j hj hne).elim (fun h => Or.inl (hs _ h)) (fun h => Or.inr (hs _ h))) (fun a ha => Nat.not_le.mpr ha)
  have hA : ∀ a : Nat, a < s.heap.size → ¬ (fun q => s.heap.size ≤ q) a := fun a ha => Nat.not_le.mpr ha
  obtain ⟨t, ht, hT⟩ := va_Tof (tm := .static "ThanksOwed" "KINDS" "[LThanksOwed$Kind;") (ty := .object "ThanksOwed$Kind") (N := 5) (f := fun j => .ref (ad j)) (args := #[Value.ref b]) (s := s) (A := fun q => s.heap.size ≤ q) (by decide) (hs _ (by decide +kernel)) (va_eqt (z := Int32.ofNat 5) (hs _ (by decide +kernel))) (fun j hj => va_eqv (hs _ (ke_e j hj)) (hst j hj)) hA
  have hZ := va_Zof (C := "ThanksOwed") (n := "KINDS") (d := "[LThanksOwed$Kind;") (args := #[Value.ref b]) (s := s) (A := fun q => s.heap.size ≤ q) (hts _ (by decide +kernel)) (hts _ (gw_big gq_44)) ht hA
  have e : ∀ i, i < 5 → (if 1000 + i = 1010 then t else ad (1000 + i - 1000)) = ad i := fun i hi => by rw [if_neg (by omega), Nat.add_sub_cancel_left]
  refine ⟨fun k => if k = 1010 then t else ad (k - 1000), ⟨fun i hi => ?_, fun i j hi hj h => ?_⟩, hZ, ?_⟩
  · have := hE.1 i hi
    dsimp only
    rw [e i hi]
    exact this
  · dsimp only at h
    rw [e i hi, e j hj] at h
    exact hE.2 i j hi hj h
  · obtain ⟨cell, h1, h2, h3, h4, h5, h6, h7⟩ := hT
    refine ⟨cell, h1, h2, h3, h4, h5, fun j hj => ?_, h7⟩
    dsimp only
    rw [e j hj]
    exact h6 j hj
theorem kn_ent {s : State} {b : Nat} (hts : ∀ w ∈ gw_L, w.before #[Value.ref b] s = true) : ∃ (D : va_G) (cI cB : ClassId), va_K D vwCl (ac_ty cI cB) s := by
  obtain ⟨c0, i0, h0⟩ := u_known (C := RX0) (T := TX0) (N := 2) (n := 2) hts gu_X0 (hts _ gq_209)
  obtain ⟨c1, i1, h1⟩ := u_known (C := RX1) (T := TX1) (N := 1) (n := 1) hts gu_X1 (hts _ gq_224)
  obtain ⟨c2, i2, h2⟩ := u_known (C := RX3) (T := TX3) (N := 4) (n := 4) hts gu_X3 (hts _ gq_91)
  obtain ⟨c3, i3, h3⟩ := u_known (C := RX4) (T := TX4) (N := 4) (n := 4) hts gu_X4 (hts _ gq_157)
  obtain ⟨c4, i4, h4⟩ := u_known (C := RX5) (T := TX5) (N := 2) (n := 2) hts gu_X5 (hts _ gq_68)
  obtain ⟨c5, i5, h5⟩ := u_known (C := RX6) (T := TX6) (N := 4) (n := 4) hts gu_X6 (hts _ gq_177)
  obtain ⟨c6, i6, h6⟩ := u_known (C := RX7) (T := TX7) (N := 2) (n := 2) hts gu_X7 (hts _ gq_196)
  obtain ⟨c7, i7, h7⟩ := u_known (C := RX8) (T := TX8) (N := 8) (n := 8) hts gu_X8 (hts _ gq_85)
  obtain ⟨c8, i8, h8⟩ := u_known (C := RX9) (T := TX9) (N := 13) (n := 13) hts gu_X9 (hts _ gq_60)
  obtain ⟨c9, i9, h9⟩ := u_known (C := RX10) (T := TX10) (N := 36) (n := 36) hts gu_X10 (hts _ gq_664)
  obtain ⟨cI, kI, pI, a1, a2, a3⟩ := Cond.arrayClass_spec (hts _ gq_83)
  obtain ⟨cB, kB, pB, b1, b2, b3⟩ := Cond.arrayClass_spec (hts _ gq_778)
  refine ⟨(fun k => ([c0, c1, c2, c3, c4, c5, c6, c7, c8, c9] : List ClassId).getD k c0, fun k => ([i0, i1, i2, i3, i4, i5, i6, i7, i8, i9] : List (Nat → Nat)).getD k i0), cI, cB, fun k q hq => ?_, fun k q hq => ?_⟩
  · match k, hq with
    | 0, hq => cases hq; exact h0
    | 1, hq => cases hq; exact h1
    | 2, hq => cases hq; exact h2
    | 3, hq => cases hq; exact h3
    | 4, hq => cases hq; exact h4
    | 5, hq => cases hq; exact h5
    | 6, hq => cases hq; exact h6
    | 7, hq => cases hq; exact h7
    | 8, hq => cases hq; exact h8
    | 9, hq => cases hq; exact h9
    | k + 10, hq => simp [vwCl] at hq
  · match k, hq with
    | 0, hq => cases hq; exact ⟨fun n z => ⟨fun k h => (by cases h), kI, a2, pI, a3⟩, a1⟩
    | 1, hq => cases hq; exact ⟨fun n z => ⟨fun k h => (by cases h), kB, b2, pB, b3⟩, b1⟩
    | k + 2, hq => simp at hq
theorem an_ent {s : State} {b : Nat} (hts : ∀ w ∈ lw_tbl, w.before #[Value.ref b] s = true) : ac_N s := ⟨fun q hq => va_Nw.of rfl (hts _ (gn_in q hq)), va_Nw.of rfl (hts _ gn_f)⟩
