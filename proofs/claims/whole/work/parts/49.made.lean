/-! ===== a maker's call in the law ===== -/
theorem mp_l (w z : va_W) : (List.range w.length).map (fun i => (w ++ z)[i]?) = w.map some := by
  apply List.ext_getElem?
  intro k
  rw [List.getElem?_map, List.getElem?_map]
  by_cases h : k < w.length
  · rw [List.getElem?_range h, Option.map_some, List.getElem?_append_left h, List.getElem?_eq_getElem h]
    rfl
  · rw [List.getElem?_eq_none (by rw [List.length_range]; omega), List.getElem?_eq_none (by omega)]
    rfl
theorem mp_r (w : va_W) (x : Nat × va_E) : [w.length].map (fun i => (w ++ [x])[i]?) = [x].map some := by simp
theorem mp_d (n : Nat) : ∀ i ∈ List.range n, i ∉ [n] := by
  intro i hi
  rw [List.mem_range] at hi
  simp
  omega
section Entry
variable {p : Program} {l : Launch} {e : Env} {s : State} {m : MethodId} {below : List Frame} {meth : Method} {c : Code} {b : Nat} {D : va_G} {cI cB : ClassId} {Z : State → Prop}
set_option maxHeartbeats 4000000 in
theorem st_mk {d cn sn ci N i1 i2 pc cells slots : Nat} {y : MethodName} {cY : ByteArray} {fs : List Value} {fin : List ac_T} {C : String} {T : u_T} {wC : va_W} {H : Heap} {locs : List Loc} {ls : Array Slot}
    (hx : p.tables.exec = Jvm.exec) (hb : c.code = code) (hml : c.maxLocals = 4) (hown : s.vm.findClass RL = some m.cls) (hts : ∀ w ∈ gw_L, w.before #[Value.ref b] s = true) (hK : va_K D vwCl (ac_ty cI cB) s) (hN : ac_N s)
    (hM : GI d cn sn y cY ci fs fin) (gu : ∀ w ∈ u_ws C T N, w ∈ gw_L) (ty : Nat → FieldType) (hty : ∀ k, k < N → parseFieldDescriptor (T k).2.2.1 = some (ty k))
    (q1 : Cond.classLink RL i1 C ∈ gw_L) (q2 : Cond.instantiable C N ∈ gw_L) (q3 : Cond.initialized C ∈ gw_L) (hc : vwCl[ci]? = some (C, T, N)) (hfs : ∀ j, j < N → defaultValue (ty j) = vp_V fs j)
    (q4 : Cond.code y cY 1 none ∈ gw_L) (q5 : Cond.methodLink RL i2 y ∈ gw_L) (q6 : Cond.instanceMethod y ∈ gw_L) (hy : y.cls = C) (hyn : y.name = "<init>") (hyd : y.cls ≠ "java/lang/invoke/MethodHandle" ∧ y.cls ≠ "java/lang/invoke/VarHandle" ∧ (parseMethodDescriptor y.desc).map (fun d => d.parameters.length) = some 0)
    (hR : d + 1 ≤ room_1.frames ∧ 8 + (1 + 11) + 40 * d ≤ room_1.locals) (hcs : cells + 1 + cn ≤ room_1.cells) (hss : slots + N + sn ≤ room_1.slots)
    (d0 : decode code pc = .ok (.new i1, 3)) (d1 : decode code (pc + 3) = .ok (.dup, 1)) (d2 : decode code (pc + 4) = .ok (.invokespecial i2, 3))
    (hP : va_P D vwCl wC H) (hD : va_D (fun q : Nat => s.heap.size ≤ q) wC) (hS : va_S (fun q : Nat => s.heap.size ≤ q) s.heap H locs) (hls : ls.size = 4)
    (k : ∀ (ad : Nat → Nat) (H3 : Heap) (locs3 : List Loc), va_P D vwCl wC H3 → va_P D vwCl (ac_W cI cB ad 0 fin) H3 → va_D (fun q : Nat => s.heap.size ≤ q) (wC ++ ac_W cI cB ad 0 fin) → va_S (fun q : Nat => s.heap.size ≤ q) s.heap H3 locs3 → W p l e room_1 s m #[Value.ref b] below meth c H3 locs3 (cells + 1 + cn) (slots + N + sn) Z (F0 m (pc + 7) ls [.ref (ad 0)])) :
    W p l e room_1 s m #[Value.ref b] below meth c H locs cells slots Z (F0 m pc ls []) := by
  have hA : ∀ q : Nat, s.heap.size ≤ q → (fun q : Nat => s.heap.size ≤ q) q := fun _ h => h
  have hini : (Cond.initialized y.cls).before #[Value.ref b] s = true := by rw [hy]; exact hts _ q3
  refine va_new (ci := ci) (fs := fs) (C := C) (T := T) (N := N) hx hb hts gu ty hty hown (hts _ q1) (hts _ q2) (hts _ q3) hK hP hD hS hA hc hfs (by omega) (by omega) d0 (fun q0 H2 hP2 hD2 hS2 => ?_)
  refine lv_dup hx hb d1 rfl ?_
  have hPc : va_P D vwCl [(q0, .inr (ci, fs))] H2 := fun j x hx => by
    match j, hx with
    | 0, hx => cases hx; exact hP2 wC.length _ (by simp)
  have hFc := va_free (wc := [(q0, .inr (ci, fs))]) hD2 hS2 hA [wC.length] (mp_r wC _)
  refine va_callv (va_runI (As := []) (rest := [.ref q0]) ⟨hx, hb, hml, hown, hts⟩ (hM l D cI cB q0 H2.size) (cwI 0 hts (gw_ok (fun x hx => by rcases List.mem_cons.mp hx with h | h; exact h ▸ q4; exact h)) rfl rfl rfl hini (hts _ q5) (hts _ q6) hyn hyd hR) (lm_pre hK hN hPc) rfl rfl hls rfl (lv_room (Nat.le_of_ble_eq_true rfl)) d2 ⟨hcs, hss⟩) hS2 (fun q _ h => hFc q h) hFc (fun u t H1 locs1 ht hvm hp hB hz1 hk1 hS1 => ?_)
  obtain ⟨ad, rfl, rfl⟩ := hp
  obtain ⟨hP1, hD1⟩ := hB
  rw [ht] at hP1
  obtain ⟨hP4, hD4⟩ := va_join (wr := wC) (w1 := ac_W cI cB ad 0 fin) hP2 hD2 [wC.length] (List.range wC.length) (mp_r wC _) (mp_l wC _) (nd_range _) (mp_d _) hk1 hFc hP1 hD1
  exact k ad H1 locs1 (fun j x hj => hP4 j x (by rw [List.getElem?_append_left (List.getElem?_eq_some_iff.mp hj).1]; exact hj)) hP1 hD4 hS1
end Entry
