/-! ===== the law, from its entry ===== -/
section Entry2
variable {p : Program} {l : Launch} {e : Env} {s : State} {m : MethodId} {below : List Frame} {meth : Method} {c : Code} {b L : Nat} {xs : Nat → Int32} {D : va_G} {cI cB : ClassId} {aC aM : Nat → Nat}
/-- both are made -/
theorem st_three (C : lc_C p s m meth c b L xs D cI cB aC aM) (hL : L ≤ 3072) {H : Heap} {locs : List Loc} {ls : Array Slot} (hPC : va_P D vwCl (ac_W cI cB aC 0 fC_L) H) (hPM : va_P D vwCl (ac_W cI cB aM 0 fM_L) H) (hD : va_D (fun q => s.heap.size ≤ q) (ac_W cI cB aC 0 fC_L ++ ac_W cI cB aM 0 fM_L)) (hS : va_S (fun q => s.heap.size ≤ q) s.heap H locs) (hl : lv_has ls 4 [(1, .ref (aC 0)), (0, .ref b)]) :
    W p l e room_1 s m #[Value.ref b] below meth c H locs 59 833 (lw_Z below #[Value.ref b] s) (F0 m 15 ls [.ref (aM 0)]) := by
  refine lv_astore_n (lv' := [(2, .ref (aM 0)), (1, .ref (aC 0)), (0, .ref b)]) C.1 C.2.1 dL_law_15 rfl hl (by decide) rfl (fun ls hl => ?_)
  refine lv_iconst (v := 0) C.1 C.2.1 dL_law_16 (by decide) ?_
  refine lv_istore_n (lv' := [(3, .int 0), (2, .ref (aM 0)), (1, .ref (aC 0)), (0, .ref b)]) C.1 C.2.1 dL_law_17 rfl hl (by decide) rfl (fun ls hl => ?_)
  exact law_loop C hL (L + 1) 0 (by omega) (by omega) S0_T fC_L fM_L iS_0 cw_S0 mw_S0 H _ ls hPC hPM hD hS (lv_sub hl [3, 2, 1, 0] rfl)
/-- the class is made -/
theorem st_two (hx : p.tables.exec = Jvm.exec) (hb : c.code = code) (hr : meth.sig.returnType = ret) (hml : c.maxLocals = 4) (hown : s.vm.findClass RL = some m.cls) (hts : ∀ w ∈ gw_L, w.before #[Value.ref b] s = true) (hX : va_X b L xs s s.heap) (hbl : b < s.heap.size) (hlocks : meth.locks = false) (hK : va_K D vwCl (ac_ty cI cB) s) (hN : ac_N s) (hkC : ac_K aC (fun q => s.heap.size ≤ q) s s.heap) (kd : Nat → Nat) (hkd : ac_K kd (fun q => s.heap.size ≤ q) s s.heap) (hL : L ≤ 3072) {H : Heap} {locs : List Loc} {ls : Array Slot} (hP : va_P D vwCl (ac_W cI cB aC 0 fC_L) H) (hD : va_D (fun q => s.heap.size ≤ q) (ac_W cI cB aC 0 fC_L)) (hS : va_S (fun q => s.heap.size ≤ q) s.heap H locs) (hl : lv_has ls 4 [(1, .ref (aC 0)), (0, .ref b)]) :
    W p l e room_1 s m #[Value.ref b] below meth c H locs 41 442 (lw_Z below #[Value.ref b] s) (F0 m 8 ls []) := by
  refine st_mk (pc := 8) hx hb hml hown hts hK hN mk_M gu_X10 tyX10 tyX10_ok gq_663 gq_664 gq_53 rfl (by decide) gq_667 gq_665 gq_666 rfl rfl (by decide +kernel) ⟨Nat.le_of_ble_eq_true rfl, Nat.le_of_ble_eq_true rfl⟩ (Nat.le_of_ble_eq_true rfl) (Nat.le_of_ble_eq_true rfl) dL_law_8 dL_law_11 dL_law_12 hP hD hS hl.1 (fun ad H3 locs3 hPC hPM hD3 hS3 => ?_)
  have hkM : ac_K (fun k => if k < 1000 then ad k else kd k) (fun q => s.heap.size ≤ q) s s.heap := ak_eq (fun i => (if_neg (by omega)).symm) hkd
  rw [eq_M cI cB ad kd] at hPM hD3
  exact st_three (aM := fun k => if k < 1000 then ad k else kd k) ⟨hx, hb, hr, hml, hown, hts, hX, hbl, hlocks, hK, hN, hkC, hkM⟩ hL hPC hPM hD3 hS3 hl
end Entry2
