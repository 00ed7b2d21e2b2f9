set_option maxHeartbeats 4000000 in
/-- THE LAW, from its entry -/
theorem whole_start {p : Program} {e : Env} {s : State} {m : MethodId} {below : List Frame} {meth : Method} {c : Code} (l : Launch) (hflags : l.flags = flags0) {b L : Nat} {xs : Nat → Int32} (hL : L ≤ 3072) (C0 : lw_At p s m meth c b L xs) : W p l e room_1 s m #[Value.ref b] below meth c s.heap [] 0 0 (lw_Z below #[Value.ref b] s) (entryFrame m ([Value.ref b] : List Value).toArray 4) := by
  obtain ⟨hx, hb, hr, hml, hown, hts0, hX, hbl, hlocks, hgv⟩ := id C0
  have hown : s.vm.findClass RL = some m.cls := hown
  have hts : ∀ w ∈ gw_L, w.before #[Value.ref b] s = true := fun w hw => hts0 w (gw_big hw)
  obtain ⟨kd, hkd⟩ := ks_ent hgv hts0
  obtain ⟨D, cI, cB, hK⟩ := kn_ent hts
  have hN := an_ent hts0
  have hS : va_S (fun q : Nat => s.heap.size ≤ q) s.heap s.heap [] := va_S.rf
  have hP : va_P D vwCl [] s.heap := fun k q h => by simp at h
  have hD : va_D (fun q : Nat => s.heap.size ≤ q) [] := ⟨fun i j p q h => by simp at h, fun k q h => by simp at h⟩
  have hl := lv_entry ([.ref b]) (n := 4) (Nat.le_of_ble_eq_true rfl)
  rw [lg_entry_eq]
  generalize (lg_sl ([.ref b]) ++ List.replicate (4 - (lg_sl ([.ref b])).length) Slot.unset).toArray = ls at hl ⊢
  have hl : lv_has ls 4 [(0, .ref b)] := hl
  refine st_mk (pc := 0) (wC := []) hx hb hml hown hts hK hN mk_C gu_X9 tyX9 tyX9_ok gq_59 gq_60 gq_44 rfl (by decide) gq_63 gq_61 gq_62 rfl rfl (by decide +kernel) ⟨Nat.le_of_ble_eq_true rfl, Nat.le_of_ble_eq_true rfl⟩ (Nat.le_of_ble_eq_true rfl) (Nat.le_of_ble_eq_true rfl) dL_law_0 dL_law_3 dL_law_4 hP hD hS hl.1 (fun ad H1 locs1 _ hP1 hD1 hS1 => ?_)
  rw [List.nil_append] at hD1
  have hkC : ac_K (fun k => if k < 1000 then ad k else kd k) (fun q => s.heap.size ≤ q) s s.heap := ak_eq (fun i => (if_neg (by omega)).symm) hkd
  rw [eq_C cI cB ad kd] at hP1 hD1
  refine lv_astore_n (lv' := [(1, .ref (ad 0)), (0, .ref b)]) hx hb dL_law_7 rfl hl (by decide) rfl (fun ls hl => ?_)
  exact st_two (aC := fun k => if k < 1000 then ad k else kd k) hx hb hr hml hown hts hX hbl hlocks hK hN hkC kd hkd hL hP1 hD1 hS1 hl
