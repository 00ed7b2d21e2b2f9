/-! ===== the law, from its entry ===== -/
def t0_T : tw_T := (1, 1, 0, 0, 0, 0, fun _ => 0, fun _ => 0, fun _ => 0, fun _ => 0, fun _ => 0)
def o0_T : of_T := (0, fun _ => 0, fun _ => 0, fun _ => 0)
def S0_T : st_T := (0, (0, fun _ => 0), t0_T, o0_T, 0, t0_T, o0_T)
theorem jn_z (m : Nat) : jn_N m (fun _ => 0) (fun _ => 0) = fun _ => 0 := funext fun k => by
  unfold jn_N
  split <;> rfl
theorem iS_0 : iS S0_T := by
  refine ⟨⟨by decide, by decide, by decide, by decide, by decide, fun _ => Nat.zero_le _, fun _ => Nat.zero_le _, fun _ => Nat.zero_le _, fun _ => Nat.zero_le _, fun _ => Nat.zero_le _⟩, ⟨by decide, fun _ => Nat.zero_le _, fun _ => Nat.zero_le _, fun _ => Nat.zero_le _⟩, fun k hk => absurd hk (Nat.not_lt_zero _), by decide, fun _ => Nat.zero_le _, fun _ _ => rfl, fun _ _ => rfl, fun _ _ => rfl, by decide, fun h => absurd h (by decide)⟩
theorem CW_S0 : CW S0_T [.inr (8, [.ref 1, .ref 3, .ref 10, .ref 14, .ref 21, .ref 25, .ref 32, .ref 35, .ref 38, .ref 39, .ref 40, .int 0, .int 0]), .inr (4, [.ref 2, .int 0]), .inl (0, 6, fun _ => 0), .inr (7, [.ref 4, .ref 5, .ref 6, .ref 7, .ref 8, .ref 9, .int 0, .int 0]), .inr (2, [.int 1, .int 1, .int 0, .int 0]), .inl (0, 5, fun _ => 0), .inl (0, 5, fun _ => 0), .inl (0, 25, fun _ => 0), .inl (0, 25, fun _ => 0), .inl (0, 25, fun _ => 0), .inr (3, [.ref 11, .ref 12, .ref 13, .int 0]), .inl (0, 6, fun _ => 0), .inl (0, 6, fun _ => 0), .inl (0, 6, fun _ => 0), .inr (7, [.ref 15, .ref 16, .ref 17, .ref 18, .ref 19, .ref 20, .int 0, .int 0]), .inr (2, [.int 1, .int 1, .int 0, .int 0]), .inl (0, 5, fun _ => 0), .inl (0, 5, fun _ => 0), .inl (0, 25, fun _ => 0), .inl (0, 25, fun _ => 0), .inl (0, 25, fun _ => 0), .inr (3, [.ref 22, .ref 23, .ref 24, .int 0]), .inl (0, 6, fun _ => 0), .inl (0, 6, fun _ => 0), .inl (0, 6, fun _ => 0), .inr (7, [.ref 26, .ref 27, .ref 28, .ref 29, .ref 30, .ref 31, .int 0, .int 0]), .inr (2, [.int 1, .int 1, .int 0, .int 0]), .inl (0, 5, fun _ => 0), .inl (0, 5, fun _ => 0), .inl (0, 25, fun _ => 0), .inl (0, 25, fun _ => 0), .inl (0, 25, fun _ => 0), .inr (5, [.ref 33, .ref 34, .int 0, .int 0]), .inl (0, 4, fun _ => 0), .inl (0, 4, fun _ => 0), .inr (6, [.ref 36, .ref 37]), .inl (0, 32, fun _ => 0), .inl (0, 32, fun _ => 0), .inr (0, [.int 0, .int 0]), .inr (1, [.int 0]), .inl (0, 5, fun _ => 0)] := ⟨t0_T, ((fun _ => 0, fun _ => 0, 0, 0), (fun _ => 0, fun _ => 0), (0, 0), 0, fun _ => 0), rfl, rfl, rfl⟩
theorem MW_S0 : MW S0_T [.inr (9, [.int 0, .int 1, .int 1, .int 0, .int 0, .int 0, .ref 1, .ref 2, .ref 3, .ref 4, .ref 5, .int 0, .int 0, .ref 6, .ref 7, .ref 8, .int 0, .ref 9, .ref 10, .ref 11, .ref 12, .long 0, .int 0, .int 0, .int 0, .int 0, .int 0, .int 0, .int 0, .int 0, .ref 13, .ref 14, .ref 15, .ref 16, .ref 17, .long 0]), .inl (0, 5, fun _ => 0), .inl (0, 10, fun _ => 0), .inl (0, 50, fun _ => 0), .inl (0, 50, fun _ => 0), .inl (0, 50, fun _ => 0), .inl (0, 6, fun _ => 0), .inl (0, 6, fun _ => 0), .inl (0, 6, fun _ => 0), .inl (1, 6, fun _ => 0), .inl (0, 32, fun _ => 0), .inl (0, 32, fun _ => 0), .inl (0, 4, fun _ => 0), .inl (0, 5, fun _ => 0), .inl (0, 25, fun _ => 0), .inl (0, 25, fun _ => 0), .inl (0, 25, fun _ => 0), .inl (0, 18, fun _ => 0)] := ⟨fun _ => 0, fun _ => 0, fun _ => 0, fun _ => 0, fun _ => 0, (0, (0, 0, 0, 0, 0, 0, 0), (fun _ => 0, fun _ => 0, fun _ => 0, fun _ => 0), fun _ => 0), (fun _ => 0, fun _ => 0, fun _ => 0, 0, 0), fun _ _ => rfl, fun _ => Nat.zero_le _, ⟨rfl, fun h => absurd h (by decide)⟩, by rw [jn_z, jn_z]; rfl⟩
theorem ak_eq {a a2 : Nat → Nat} {A : Nat → Prop} {U : State} {H : Heap} (e : ∀ i, a (1000 + i) = a2 (1000 + i)) (h : ac_K a A U H) : ac_K a2 A U H := by
  have e1 : (fun i => a (1000 + i)) = fun i => a2 (1000 + i) := funext e
  have e2 : a 1010 = a2 1010 := e 10
  have e3 : (fun j => Value.ref (a (1000 + j))) = fun j => Value.ref (a2 (1000 + j)) := funext fun j => by rw [e j]
  unfold ac_K at h ⊢
  rw [e1, e2, e3] at h
  exact h
def fC_L : List ac_T := [.inr (8, [.ref 1, .ref 3, .ref 10, .ref 14, .ref 21, .ref 25, .ref 32, .ref 35, .ref 38, .ref 39, .ref 40, .int 0, .int 0]), .inr (4, [.ref 2, .int 0]), .inl (0, 6, fun _ => 0), .inr (7, [.ref 4, .ref 5, .ref 6, .ref 7, .ref 8, .ref 9, .int 0, .int 0]), .inr (2, [.int 1, .int 1, .int 0, .int 0]), .inl (0, 5, fun _ => 0), .inl (0, 5, fun _ => 0), .inl (0, 25, fun _ => 0), .inl (0, 25, fun _ => 0), .inl (0, 25, fun _ => 0), .inr (3, [.ref 11, .ref 12, .ref 13, .int 0]), .inl (0, 6, fun _ => 0), .inl (0, 6, fun _ => 0), .inl (0, 6, fun _ => 0), .inr (7, [.ref 15, .ref 16, .ref 17, .ref 18, .ref 19, .ref 20, .int 0, .int 0]), .inr (2, [.int 1, .int 1, .int 0, .int 0]), .inl (0, 5, fun _ => 0), .inl (0, 5, fun _ => 0), .inl (0, 25, fun _ => 0), .inl (0, 25, fun _ => 0), .inl (0, 25, fun _ => 0), .inr (3, [.ref 22, .ref 23, .ref 24, .int 0]), .inl (0, 6, fun _ => 0), .inl (0, 6, fun _ => 0), .inl (0, 6, fun _ => 0), .inr (7, [.ref 26, .ref 27, .ref 28, .ref 29, .ref 30, .ref 31, .int 0, .int 0]), .inr (2, [.int 1, .int 1, .int 0, .int 0]), .inl (0, 5, fun _ => 0), .inl (0, 5, fun _ => 0), .inl (0, 25, fun _ => 0), .inl (0, 25, fun _ => 0), .inl (0, 25, fun _ => 0), .inr (5, [.ref 33, .ref 34, .int 0, .int 0]), .inl (0, 4, fun _ => 0), .inl (0, 4, fun _ => 0), .inr (6, [.ref 36, .ref 37]), .inl (0, 32, fun _ => 0), .inl (0, 32, fun _ => 0), .inr (0, [.int 0, .int 0]), .inr (1, [.int 0]), .inl (0, 5, fun _ => 0)]
def fM_L : List ac_T := [.inr (9, [.int 0, .int 1, .int 1, .int 0, .int 0, .int 0, .ref 1, .ref 2, .ref 3, .ref 4, .ref 5, .int 0, .int 0, .ref 6, .ref 7, .ref 8, .int 0, .ref 9, .ref 10, .ref 11, .ref 12, .long 0, .int 0, .int 0, .int 0, .int 0, .int 0, .int 0, .int 0, .int 0, .ref 13, .ref 14, .ref 15, .ref 16, .ref 17, .long 0]), .inl (0, 5, fun _ => 0), .inl (0, 10, fun _ => 0), .inl (0, 50, fun _ => 0), .inl (0, 50, fun _ => 0), .inl (0, 50, fun _ => 0), .inl (0, 6, fun _ => 0), .inl (0, 6, fun _ => 0), .inl (0, 6, fun _ => 0), .inl (1, 6, fun _ => 0), .inl (0, 32, fun _ => 0), .inl (0, 32, fun _ => 0), .inl (0, 4, fun _ => 0), .inl (0, 5, fun _ => 0), .inl (0, 25, fun _ => 0), .inl (0, 25, fun _ => 0), .inl (0, 25, fun _ => 0), .inl (0, 18, fun _ => 0)]
theorem lm_pre {s : State} {D : va_G} {cI cB : ClassId} {H : Heap} {q ci : Nat} {fs : List Value} (hK : va_K D vwCl (ac_ty cI cB) s) (hN : ac_N s) (hP : va_P D vwCl [(q, .inr (ci, fs))] H) : PreS s H (va_Pc [.ref q] (fun U => U.heap.size = H.size ∧ va_P D vwCl [(q, .inr (ci, fs))] U.heap ∧ va_K D vwCl (ac_ty cI cB) U ∧ va_D (fun _ => True) [(q, .inr (ci, fs))] ∧ ac_N U)) (.ref q :: []) := by
  have hDc : va_D (fun _ => True) [(q, (Sum.inr (ci, fs) : va_E))] := ⟨fun i j a b h1 h2 _ => by
    have z1 := (List.getElem?_eq_some_iff.mp h1).1
    have z2 := (List.getElem?_eq_some_iff.mp h2).1
    simp at z1 z2
    omega, fun _ _ _ => trivial⟩
  exact ⟨fun a U g mk z => by obtain ⟨z0, z1, zP, zK, zD, zN⟩ := z; exact ⟨z0, z1, zP, va_K.moved (u := U) (U := U.calling g mk a) (Vm.Alike.refl U.vm) zK, zD, zN.same rfl⟩, fun U hU hW => ⟨rfl, by rw [hU], by rw [hU]; exact hP, va_K.moved hW.alike hK, hDc, hN.warm hW⟩⟩
set_option maxHeartbeats 4000000 in
set_option maxRecDepth 100000 in
/-- THE LAW, from its entry -/
theorem whole_start {p : Program} {e : Env} {s : State} {m : MethodId} {below : List Frame} {meth : Method} {c : Code} (l : Launch) (hflags : l.flags = flags0) {b L : Nat} {xs : Nat → Int32} (hL : L ≤ 3072) (C0 : lw_At p s m meth c b L xs) : W p l e room_1 s m #[Value.ref b] below meth c s.heap [] 0 0 (lw_Z below #[Value.ref b] s) (entryFrame m ([Value.ref b] : List Value).toArray 4) := by
  obtain ⟨hx, hb, hr, hml, hown, hts0, hX, hbl, hlocks, hgv⟩ := id C0
  have hown : s.vm.findClass RL = some m.cls := hown
  have hts : ∀ w ∈ gw_L, w.before #[Value.ref b] s = true := fun w hw => hts0 w (gw_big hw)
  have hA : ∀ q : Nat, s.heap.size ≤ q → (fun q : Nat => s.heap.size ≤ q) q := fun _ h => h
  obtain ⟨kd, hkd⟩ := ks_ent hgv hts0
  obtain ⟨D, cI, cB, hK⟩ := kn_ent hts
  have hN := an_ent hts0
  have hS : va_S (fun q : Nat => s.heap.size ≤ q) s.heap s.heap [] := va_S.rf
  have hP : va_P D vwCl [] s.heap := fun k q h => by simp at h
  have hD : va_D (fun q : Nat => s.heap.size ≤ q) [] := ⟨fun i j p q h => by simp at h, fun k q h => by simp at h⟩
  have hl := lv_entry ([.ref b]) (n := 4) (Nat.le_of_ble_eq_true rfl)
  rw [lg_entry_eq]
  generalize (lg_sl ([.ref b]) ++ List.replicate (4 - (lg_sl ([.ref b])).length) Slot.unset).toArray = ls at hl ⊢
  have hl : lv_has ls 4 [(0, .ref b)] := hl
  refine va_new (ci := 8) (fs := [.null, .null, .null, .null, .null, .null, .null, .null, .null, .null, .null, .int 0, .int 0]) (C := RX9) (T := TX9) (N := 13) hx hb hts gu_X9 tyX9 tyX9_ok hown (hts _ gq_59) (hts _ gq_60) (hts _ gq_44) hK hP hD hS hA rfl (by decide) (Nat.le_of_ble_eq_true rfl) (Nat.le_of_ble_eq_true rfl) dL_law_0 (fun q0 H hP hD hS => ?_)
  have hP : va_P D vwCl [(q0, .inr (8, [.null, .null, .null, .null, .null, .null, .null, .null, .null, .null, .null, .int 0, .int 0]))] H := hP
  have hD : va_D (fun q : Nat => s.heap.size ≤ q) [(q0, .inr (8, [.null, .null, .null, .null, .null, .null, .null, .null, .null, .null, .null, .int 0, .int 0]))] := hD
  refine W.widen (k := 1) (n := 13) (by omega) (by omega) ?_
  refine lv_dup hx hb dL_law_3 rfl ?_
  have hFc := va_free (wc := [(q0, .inr (8, [.null, .null, .null, .null, .null, .null, .null, .null, .null, .null, .null, .int 0, .int 0]))]) hD hS hA [0] rfl
  refine va_callv (va_runI (As := []) (rest := [.ref q0]) ⟨hx, hb, hml, hown, hts⟩ (mk_X9 l D cI cB q0 H.size) (cwI 0 hts (gw_ok (fun x hx => by rcases List.mem_cons.mp hx with h | h; exact h ▸ gq_63; exact h)) rfl rfl rfl (hts _ gq_44) (hts _ gq_61) (hts _ gq_62) rfl (by decide +kernel) ⟨Nat.le_of_ble_eq_true rfl, Nat.le_of_ble_eq_true rfl⟩) (lm_pre hK hN hP) rfl rfl hl.1 rfl (lv_room (Nat.le_of_ble_eq_true rfl)) dL_law_4 ⟨Nat.le_of_ble_eq_true rfl, Nat.le_of_ble_eq_true rfl⟩) hS (fun q _ h => hFc q h) hFc (fun u t H1 locs ht hvm hp hB hz1 hk1 hS => ?_)
  obtain ⟨ad, rfl, rfl⟩ := hp
  obtain ⟨hP1, hD1⟩ := hB
  rw [ht] at hP1
  have hD1 := hD1.weaken (fun _ _ _ h => hFc _ h)
  obtain ⟨aC, haC⟩ : ∃ aC : Nat → Nat, aC = fun k => if k < 1000 then ad k else kd k := ⟨_, rfl⟩
  have eC : ac_W cI cB ad 0 fC_L = ac_W cI cB aC 0 fC_L := by rw [haC]; rfl
  have e0 : ad 0 = aC 0 := by rw [haC]; rfl
  have hP : va_P D vwCl (ac_W cI cB aC 0 fC_L) H1 := eC ▸ hP1
  have hD : va_D (fun q : Nat => s.heap.size ≤ q) (ac_W cI cB aC 0 fC_L) := eC ▸ hD1
  have hkC : ac_K aC (fun q => s.heap.size ≤ q) s s.heap := by rw [haC]; exact ak_eq (fun i => by rw [if_neg (by omega)]) hkd
  rw [e0]
  clear hP1 hD1 eC haC
  refine W.widen (k := 41) (n := 442) (by omega) (by omega) ?_
  refine lv_astore_n (lv' := [(1, .ref (aC 0)), (0, .ref b)]) hx hb dL_law_7 rfl hl (by decide) rfl (fun ls hl => ?_)
  refine va_new (ci := 9) (fs := [.int 0, .int 0, .int 0, .int 0, .int 0, .int 0, .null, .null, .null, .null, .null, .int 0, .int 0, .null, .null, .null, .int 0, .null, .null, .null, .null, .long 0, .int 0, .int 0, .int 0, .int 0, .int 0, .int 0, .int 0, .int 0, .null, .null, .null, .null, .null, .long 0]) (C := RX10) (T := TX10) (N := 36) hx hb hts gu_X10 tyX10 tyX10_ok hown (hts _ gq_663) (hts _ gq_664) (hts _ gq_53) hK hP hD hS hA rfl (by decide) (Nat.le_of_ble_eq_true rfl) (Nat.le_of_ble_eq_true rfl) dL_law_8 (fun q1 H hP2 hD2 hS => ?_)
  refine W.widen (k := 42) (n := 478) (by omega) (by omega) ?_
  refine lv_dup hx hb dL_law_11 rfl ?_
  have hmC : [41].map (fun i => (ac_W cI cB aC 0 fC_L ++ [(q1, (Sum.inr (9, [.int 0, .int 0, .int 0, .int 0, .int 0, .int 0, .null, .null, .null, .null, .null, .int 0, .int 0, .null, .null, .null, .int 0, .null, .null, .null, .null, .long 0, .int 0, .int 0, .int 0, .int 0, .int 0, .int 0, .int 0, .int 0, .null, .null, .null, .null, .null, .long 0]) : va_E))])[i]?) = [(q1, (Sum.inr (9, [.int 0, .int 0, .int 0, .int 0, .int 0, .int 0, .null, .null, .null, .null, .null, .int 0, .int 0, .null, .null, .null, .int 0, .null, .null, .null, .null, .long 0, .int 0, .int 0, .int 0, .int 0, .int 0, .int 0, .int 0, .int 0, .null, .null, .null, .null, .null, .long 0]) : va_E))].map some := rfl
  have hmR : (List.range 41).map (fun i => (ac_W cI cB aC 0 fC_L ++ [(q1, (Sum.inr (9, [.int 0, .int 0, .int 0, .int 0, .int 0, .int 0, .null, .null, .null, .null, .null, .int 0, .int 0, .null, .null, .null, .int 0, .null, .null, .null, .null, .long 0, .int 0, .int 0, .int 0, .int 0, .int 0, .int 0, .int 0, .int 0, .null, .null, .null, .null, .null, .long 0]) : va_E))])[i]?) = (ac_W cI cB aC 0 fC_L).map some := rfl
  have hPc : va_P D vwCl [(q1, .inr (9, [.int 0, .int 0, .int 0, .int 0, .int 0, .int 0, .null, .null, .null, .null, .null, .int 0, .int 0, .null, .null, .null, .int 0, .null, .null, .null, .null, .long 0, .int 0, .int 0, .int 0, .int 0, .int 0, .int 0, .int 0, .int 0, .null, .null, .null, .null, .null, .long 0]))] H := fun j x hx => by
    match j, hx with
    | 0, hx => cases hx; exact hP2 41 _ rfl
  have hFc := va_free (wc := [(q1, .inr (9, [.int 0, .int 0, .int 0, .int 0, .int 0, .int 0, .null, .null, .null, .null, .null, .int 0, .int 0, .null, .null, .null, .int 0, .null, .null, .null, .null, .long 0, .int 0, .int 0, .int 0, .int 0, .int 0, .int 0, .int 0, .int 0, .null, .null, .null, .null, .null, .long 0]))]) hD2 hS hA [41] hmC
  refine va_callv (va_runI (As := []) (rest := [.ref q1]) ⟨hx, hb, hml, hown, hts⟩ (mk_X10 l D cI cB q1 H.size) (cwI 0 hts (gw_ok (fun x hx => by rcases List.mem_cons.mp hx with h | h; exact h ▸ gq_667; exact h)) rfl rfl rfl (hts _ gq_53) (hts _ gq_665) (hts _ gq_666) rfl (by decide +kernel) ⟨Nat.le_of_ble_eq_true rfl, Nat.le_of_ble_eq_true rfl⟩) (lm_pre hK hN hPc) rfl rfl hl.1 rfl (lv_room (Nat.le_of_ble_eq_true rfl)) dL_law_12 ⟨Nat.le_of_ble_eq_true rfl, Nat.le_of_ble_eq_true rfl⟩) hS (fun q _ h => hFc q h) hFc (fun u t H3 locs ht hvm hp hB hz1 hk1 hS => ?_)
  obtain ⟨ad, rfl, rfl⟩ := hp
  obtain ⟨hP1, hD1⟩ := hB
  rw [ht] at hP1
  obtain ⟨aM, haM⟩ : ∃ aM : Nat → Nat, aM = fun k => if k < 1000 then ad k else kd k := ⟨_, rfl⟩
  have eM : ac_W cI cB ad 0 fM_L = ac_W cI cB aM 0 fM_L := by rw [haM]; rfl
  have e1 : ad 0 = aM 0 := by rw [haM]; rfl
  obtain ⟨hP4, hD4⟩ := va_join (wr := ac_W cI cB aC 0 fC_L) (w1 := ac_W cI cB ad 0 fM_L) hP2 hD2 [41] (List.range 41) hmC hmR (nd_range _) (by decide) hk1 hFc hP1 hD1
  have hPC : va_P D vwCl (ac_W cI cB aC 0 fC_L) H3 := fun k x hx => hP4 k x (by rw [List.getElem?_append_left (List.getElem?_eq_some_iff.mp hx).1]; exact hx)
  have hPM : va_P D vwCl (ac_W cI cB aM 0 fM_L) H3 := eM ▸ hP1
  have hD5 : va_D (fun q : Nat => s.heap.size ≤ q) (ac_W cI cB aC 0 fC_L ++ ac_W cI cB aM 0 fM_L) := eM ▸ hD4
  have hkM : ac_K aM (fun q => s.heap.size ≤ q) s s.heap := by rw [haM]; exact ak_eq (fun i => by rw [if_neg (by omega)]) hkd
  rw [e1]
  refine W.widen (k := 59) (n := 833) (by omega) (by omega) ?_
  refine lv_astore_n (lv' := [(2, .ref (aM 0)), (1, .ref (aC 0)), (0, .ref b)]) hx hb dL_law_15 rfl hl (by decide) rfl (fun ls hl => ?_)
  refine lv_iconst (v := 0) hx hb dL_law_16 (by decide) ?_
  refine lv_istore_n (lv' := [(3, .int 0), (2, .ref (aM 0)), (1, .ref (aC 0)), (0, .ref b)]) hx hb dL_law_17 rfl hl (by decide) rfl (fun ls hl => ?_)
  exact law_loop (l := l) (e := e) (below := below) ⟨hx, hb, hr, hml, hown, hts, hX, hbl, hlocks, hK, hN, hkC, hkM⟩ hL (L + 1) 0 (by omega) (by omega) S0_T fC_L fM_L iS_0 CW_S0 MW_S0 H3 _ ls hPC hPM hD5 hS (lv_sub hl [3, 2, 1, 0] rfl)
