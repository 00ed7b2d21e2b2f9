/-! ===== the law: calls on two worlds side by side ===== -/
theorem ld_l {A : Nat → Prop} {a b : va_W} (h : va_D A (a ++ b)) : va_D A a := ⟨fun i j p q h1 h2 e => h.1 i j p q (by rw [List.getElem?_append_left (List.getElem?_eq_some_iff.mp h1).1]; exact h1) (by rw [List.getElem?_append_left (List.getElem?_eq_some_iff.mp h2).1]; exact h2) e, fun k q h1 => h.2 k q (by rw [List.getElem?_append_left (List.getElem?_eq_some_iff.mp h1).1]; exact h1)⟩
theorem ap_r {α : Type} {a b : List α} {i : Nat} {x : α} (h : b[i]? = some x) : (a ++ b)[a.length + i]? = some x := by
  rw [List.getElem?_append_right (by omega), Nat.add_sub_cancel_left]
  exact h
theorem ld_r {A : Nat → Prop} {a b : va_W} (h : va_D A (a ++ b)) : va_D A b := ⟨fun i j p q h1 h2 e => by
  have := h.1 _ _ p q (ap_r (a := a) h1) (ap_r (a := a) h2) e
  omega, fun k q h1 => h.2 _ q (ap_r (a := a) h1)⟩
theorem ld_x {A : Nat → Prop} {a b : va_W} (h : va_D A (a ++ b)) {i j : Nat} {p q : Nat × va_E} (h1 : a[i]? = some p) (h2 : b[j]? = some q) : p.1 ≠ q.1 := fun e => by
  have hi := (List.getElem?_eq_some_iff.mp h1).1
  have := h.1 _ _ p q (show (a ++ b)[i]? = some p by rw [List.getElem?_append_left hi]; exact h1) (ap_r (a := a) h2) e
  omega
/-- the same addresses -/
theorem ld_c {A : Nat → Prop} {a b : va_W} (he : a.map Prod.fst = b.map Prod.fst) (h : va_D A a) : va_D A b := by
  have g : ∀ (k : Nat) (q : Nat × va_E), b[k]? = some q → ∃ p, a[k]? = some p ∧ p.1 = q.1 := fun k q hq => by
    have h1 : (b.map Prod.fst)[k]? = some q.1 := by rw [List.getElem?_map, hq]; rfl
    rw [← he, List.getElem?_map] at h1
    match hk : a[k]?, h1 with
    | some p, h1 => exact ⟨p, rfl, Option.some.inj h1⟩
  refine ⟨fun i j p q h1 h2 e => ?_, fun k q h1 => ?_⟩
  · obtain ⟨p', a1, a2⟩ := g i p h1
    obtain ⟨q', b1, b2⟩ := g j q h2
    exact h.1 i j p' q' a1 b1 (by rw [a2, b2, e])
  · obtain ⟨p', a1, a2⟩ := g k q h1
    rw [← a2]
    exact h.2 k p' a1
theorem ac_fst (cI cB : ClassId) (ad : Nat → Nat) : ∀ (w : List ac_T) (k : Nat), (ac_W cI cB ad k w).map Prod.fst = (List.range w.length).map (fun i => ad (k + i))
  | [], k => rfl
  | c :: t, k => by
    rw [ac_W, List.map_cons, ac_fst cI cB ad t (k + 1), List.length_cons, List.range_succ_eq_map, List.map_cons, List.map_map]
    congr 1
    refine List.map_congr_left (fun i _ => ?_)
    show ad (k + 1 + i) = ad (k + (i + 1))
    rw [show k + 1 + i = k + (i + 1) by omega]
theorem ac_D2 {A : Nat → Prop} {cI cB : ClassId} {a1 a2 : Nat → Nat} {w1 w2 v1 v2 : List ac_T} (h1 : v1.length = w1.length) (h2 : v2.length = w2.length) (h : va_D A (ac_W cI cB a1 0 w1 ++ ac_W cI cB a2 0 w2)) : va_D A (ac_W cI cB a1 0 v1 ++ ac_W cI cB a2 0 v2) := ld_c (by rw [List.map_append, List.map_append, ac_fst, ac_fst, ac_fst, ac_fst, h1, h2]) h
/-- where the law stands: both objects made, Kind's constants known -/
def lc_C (p : Program) (s : State) (m : MethodId) (meth : Method) (c : Code) (b L : Nat) (xs : Nat → Int32) (D : va_G) (cI cB : ClassId) (aC aM : Nat → Nat) : Prop :=
  p.tables.exec = Jvm.exec ∧ c.code = code ∧ meth.sig.returnType = ret ∧ c.maxLocals = 4 ∧ s.vm.findClass RL = some m.cls ∧ (∀ w ∈ gw_L, w.before #[Value.ref b] s = true) ∧ va_X b L xs s s.heap ∧ b < s.heap.size ∧ meth.locks = false ∧ va_K D vwCl (ac_ty cI cB) s ∧ ac_N s ∧ ac_K aC (fun q => s.heap.size ≤ q) s s.heap ∧ ac_K aM (fun q => s.heap.size ≤ q) s s.heap
def LW (p : Program) (l : Launch) (e : Env) (s : State) (m : MethodId) (below : List Frame) (meth : Method) (c : Code) (b : Nat) (D : va_G) (cI cB : ClassId) (aC aM : Nat → Nat) (Z : State → Prop) (i : Nat) (pc : Nat) (st : List Value) (wc wm : List ac_T) : Prop :=
  ∀ (H : Heap) (locs : List Loc) (ls : Array Slot), va_P D vwCl (ac_W cI cB aC 0 wc) H → va_P D vwCl (ac_W cI cB aM 0 wm) H → va_D (fun q => s.heap.size ≤ q) (ac_W cI cB aC 0 wc ++ ac_W cI cB aM 0 wm) → va_S (fun q => s.heap.size ≤ q) s.heap H locs → lv_has ls 4 [(0, .ref b), (1, .ref (aC 0)), (2, .ref (aM 0)), (3, .int (nI i))] →
  W p l e room_1 s m #[Value.ref b] below meth c H locs 59 833 Z (F0 m pc ls st)
theorem lc_after {p : Program} {l : Launch} {e : Env} {R : Room} {s : State} {m : MethodId} {args : Array Value} {below : List Frame} {meth : Method} {c : Code} {H : Heap} {locs : List Loc} {cells slots n pc : Nat} {Q : State → Prop} {ls : Array Slot} {st0 rest : List Value} {D : va_G} {cI cB : ClassId} {ad : Nat → Nat} {A A1 : Nat → Prop} {P1 : Option Value → List ac_T → Prop} {a0 : Array Value}
    (hr : va_Run p l e R s m args below meth c H locs cells slots 0 0 (F0 m pc ls st0) rest (ac_Q D cI cB ad A1 n P1 a0) A1) (hS : va_S A s.heap H locs) (hf : ∀ q, A1 q → A q)
    (kk : ∀ (r : Option Value) (w' : List ac_T) (H1 : Heap) (locs1 : List Loc), P1 r w' → w'.length = n → va_P D vwCl (ac_W cI cB ad 0 w') H1 → (∀ q, q < H.size → ¬ A1 q → H1[q]? = H[q]?) → va_S A s.heap H1 locs1 → W p l e R s m args below meth c H1 locs1 cells slots Q (F0 m (pc + 3) ls ((r.map (ac_v ad)).toList ++ rest))) : W p l e R s m args below meth c H locs cells slots Q (F0 m pc ls st0) := by
  intro T hT X
  obtain ⟨v, st₀, t, T', L, h0, X', hL, e1, e2, ⟨r, w', hv, hp, hlen, hP', hz, hk⟩, stp⟩ := hr T hT X
  cases hv
  rw [h0] at hz hk
  obtain ⟨t2, a1, b1⟩ := kk r w' T'.heap (locs ++ L) hp hlen (by rw [e1]; exact hP') (fun q h1 h2 => by rw [e1]; exact hk q h1 h2)
    ⟨Nat.le_trans hS.1 (by rw [e1]; exact hz), fun q h1 h2 => by rw [e1, hk q (Nat.lt_of_lt_of_le h1 hS.1) (fun z => h2 (hf q z))]; exact hS.2.1 q h1 h2, fun q hq => by
      rcases List.mem_append.mp hq with h | h
      · exact hS.2.2 q h
      · exact hf _ (hL q h)⟩ T' rfl X'
  exact ⟨t2, stp t2 a1, b1⟩
theorem lc_kept {D : va_G} {ws wo : va_W} {H H1 : Heap} {A : Nat → Prop} (hP : va_P D vwCl wo H) (hx : ∀ (i j : Nat) (a b : Nat × va_E), ws[i]? = some a → wo[j]? = some b → a.1 ≠ b.1) (hk : ∀ q, q < H.size → ¬ va_A ws H.size q → H1[q]? = H[q]?) : va_P D vwCl wo H1 := hP.kept (fun k x hx1 => by
  have hlt := (hP k x hx1).lt
  refine hk x.1 hlt (fun z => ?_)
  rcases z with ⟨j, e, h⟩ | h
  · exact hx j k _ x h hx1 rfl
  · omega)
section Law
variable {p : Program} {l : Launch} {e : Env} {s : State} {m : MethodId} {below : List Frame} {meth : Method} {c : Code} {b L : Nat} {xs : Nat → Int32} {D : va_G} {cI cB : ClassId} {aC aM : Nat → Nat} {Z : State → Prop} {i pc : Nat} {st : List Value} {wc wm : List ac_T}
variable {d1 : Nat} {y : MethodName} {c1 : ByteArray} {m1 : Nat} {r1 : Option FieldType} {as : List Value} {P1 : Option Value → List ac_T → Prop}
theorem lc_pre {ad : Nat → Nat} {w : List ac_T} {H : Heap} {locs : List Loc} (C : lc_C p s m meth c b L xs D cI cB aC aM) (hF : ac_K ad (fun q => s.heap.size ≤ q) s s.heap) (hP : va_P D vwCl (ac_W cI cB ad 0 w) H) (hD : va_D (fun q => s.heap.size ≤ q) (ac_W cI cB ad 0 w)) (hS : va_S (fun q => s.heap.size ≤ q) s.heap H locs) (as : List Value) (U : State) (hU : U.heap = H) (hW : s.WarmedH U.vm) :
    va_Pc (as.map (ac_v ad)) (fun U => U.heap.size = H.size ∧ va_P D vwCl (ac_W cI cB ad 0 w) U.heap ∧ va_K D vwCl (ac_ty cI cB) U ∧ va_D (fun _ => True) (ac_W cI cB ad 0 w) ∧ ac_N U ∧ ac_K ad (va_A (ac_W cI cB ad 0 w) H.size) U U.heap) (as.map (ac_v ad)).toArray U := by
  obtain ⟨-, -, -, -, -, -, -, -, -, hK, hN, -, -⟩ := C
  refine ⟨rfl, by rw [hU], by rw [hU]; exact hP, va_K.moved hW.alike hK, hD.weaken (fun _ _ _ _ => trivial), hN.warm hW, ?_⟩
  rw [hU]
  exact ((hF.kept hS.2.1).moved hW.alike).narrow (ac_sub hD hS (fun _ h => h))
set_option maxHeartbeats 4000000 in
theorem lc_callC {idx : Nat} {fs : List Value} (C : lc_C p s m meth c b L xs D cI cB aC aM) (hw : wc[0]? = some (.inr (8, fs))) (hc : vwCl[8]? = some (y.cls, TX9, 13)) (hM : AM d1 y c1 m1 r1 (.ref 0 :: as) wc P1) (q1 : Cond.methodLink RL idx y ∈ gw_L) (q2 : Cond.instanceMethod y ∈ gw_L) (q3 : Cond.selects y.cls y y ∈ gw_L) (q4 : Cond.initialized y.cls ∈ gw_L) (q5 : Cond.code y c1 m1 r1 ∈ gw_L) (hy : y.cls ≠ "java/lang/invoke/MethodHandle" ∧ y.cls ≠ "java/lang/invoke/VarHandle" ∧ (parseMethodDescriptor y.desc).map (fun d => d.parameters.length) = some as.length) (hd : decode code pc = .ok (.invokevirtual idx, 3)) (hdd : d1 ≤ 10) (hm : m1 ≤ 20) (hs : (st.map fun v => v.category).sum ≤ 8) (has : as.map (ac_v aC) = as)
    (k : ∀ (r : Option Value) (w' : List ac_T), P1 r w' → LW p l e s m below meth c b D cI cB aC aM Z i (pc + 3) ((r.map (ac_v aC)).toList ++ st) w' wm) : LW p l e s m below meth c b D cI cB aC aM Z i pc (as.reverse ++ .ref (aC 0) :: st) wc wm := by
  intro H locs ls hPC hPM hD hS hl
  have C0 := C
  obtain ⟨hx, hb, hr, hml, hown, hts, hX, hbl, hlk, hK, hN, hkC, hkM⟩ := C
  have hDC := ld_l hD
  have hf := ac_sub hDC hS (fun _ h => h)
  have hg : ∀ x ∈ [Cond.methodLink RL idx y, Cond.instanceMethod y, Cond.selects y.cls y y, Cond.initialized y.cls], x ∈ gw_L := by
    intro x hx
    simp only [List.mem_cons, List.not_mem_nil, or_false] at hx
    rcases hx with rfl | rfl | rfl | rfl
    · exact q1
    · exact q2
    · exact q3
    · exact q4
  have hrun := va_runV (p := p) (l := l) (e := e) (R := room_1) (s := s) (m := m) (args := #[Value.ref b]) (below := below) (meth := meth) (c := c) (H := H) (locs := locs) (cells := 59) (slots := 833) (As := as.map (ac_v aC)) (b := aC 0) (C := y.cls) (rest := st) (g := F0 m pc ls (as.reverse ++ .ref (aC 0) :: st)) (bytes := c1) (maxL := m1) (ret := r1) (n := as.length) (index := idx) (own := RL) (Ts := gw_L) (nL := 4) (cc := code) ⟨hx, hb, hml, hown, hts⟩ (hM l D cI cB aC H.size)
    (cwV as.length hts (ac_good q5 hg) rfl rfl rfl ⟨rfl, hy⟩ ⟨by show d1 + 1 ≤ 2048; omega, by show 8 + (m1 + 11) + 40 * d1 ≤ 84000; omega⟩) ⟨ac_blind, va_recv hK hPC hc (ac_W_at hw), lc_pre C0 hkC hPC hDC hS (.ref 0 :: as)⟩ rfl (by rw [List.length_map]) hl.1 (by rw [has]) (lv_room hs) hd ⟨Nat.le_of_ble_eq_true rfl, Nat.le_of_ble_eq_true rfl⟩
  refine lc_after (n := wc.length) hrun hS hf (fun r w' H1 locs1 hp hlen hP1 hk1 hS1 => ?_)
  exact k r w' hp H1 locs1 ls hP1 (lc_kept (A := fun _ => True) hPM (fun i j a b h1 h2 => ld_x hD h1 h2) hk1) (ac_D2 hlen rfl hD) hS1 hl
set_option maxHeartbeats 4000000 in
theorem lc_callM {idx : Nat} {fs : List Value} (C : lc_C p s m meth c b L xs D cI cB aC aM) (hw : wm[0]? = some (.inr (9, fs))) (hc : vwCl[9]? = some (y.cls, TX10, 36)) (hM : AM d1 y c1 m1 r1 (.ref 0 :: as) wm P1) (q1 : Cond.methodLink RL idx y ∈ gw_L) (q2 : Cond.instanceMethod y ∈ gw_L) (q3 : Cond.selects y.cls y y ∈ gw_L) (q4 : Cond.initialized y.cls ∈ gw_L) (q5 : Cond.code y c1 m1 r1 ∈ gw_L) (hy : y.cls ≠ "java/lang/invoke/MethodHandle" ∧ y.cls ≠ "java/lang/invoke/VarHandle" ∧ (parseMethodDescriptor y.desc).map (fun d => d.parameters.length) = some as.length) (hd : decode code pc = .ok (.invokevirtual idx, 3)) (hdd : d1 ≤ 10) (hm : m1 ≤ 20) (hs : (st.map fun v => v.category).sum ≤ 8) (has : as.map (ac_v aM) = as)
    (k : ∀ (r : Option Value) (w' : List ac_T), P1 r w' → LW p l e s m below meth c b D cI cB aC aM Z i (pc + 3) ((r.map (ac_v aM)).toList ++ st) wc w') : LW p l e s m below meth c b D cI cB aC aM Z i pc (as.reverse ++ .ref (aM 0) :: st) wc wm := by
  intro H locs ls hPC hPM hD hS hl
  have C0 := C
  obtain ⟨hx, hb, hr, hml, hown, hts, hX, hbl, hlk, hK, hN, hkC, hkM⟩ := C
  have hDC := ld_r hD
  have hf := ac_sub hDC hS (fun _ h => h)
  have hg : ∀ x ∈ [Cond.methodLink RL idx y, Cond.instanceMethod y, Cond.selects y.cls y y, Cond.initialized y.cls], x ∈ gw_L := by
    intro x hx
    simp only [List.mem_cons, List.not_mem_nil, or_false] at hx
    rcases hx with rfl | rfl | rfl | rfl
    · exact q1
    · exact q2
    · exact q3
    · exact q4
  have hrun := va_runV (p := p) (l := l) (e := e) (R := room_1) (s := s) (m := m) (args := #[Value.ref b]) (below := below) (meth := meth) (c := c) (H := H) (locs := locs) (cells := 59) (slots := 833) (As := as.map (ac_v aM)) (b := aM 0) (C := y.cls) (rest := st) (g := F0 m pc ls (as.reverse ++ .ref (aM 0) :: st)) (bytes := c1) (maxL := m1) (ret := r1) (n := as.length) (index := idx) (own := RL) (Ts := gw_L) (nL := 4) (cc := code) ⟨hx, hb, hml, hown, hts⟩ (hM l D cI cB aM H.size)
    (cwV as.length hts (ac_good q5 hg) rfl rfl rfl ⟨rfl, hy⟩ ⟨by show d1 + 1 ≤ 2048; omega, by show 8 + (m1 + 11) + 40 * d1 ≤ 84000; omega⟩) ⟨ac_blind, va_recv hK hPM hc (ac_W_at hw), lc_pre C0 hkM hPM hDC hS (.ref 0 :: as)⟩ rfl (by rw [List.length_map]) hl.1 (by rw [has]) (lv_room hs) hd ⟨Nat.le_of_ble_eq_true rfl, Nat.le_of_ble_eq_true rfl⟩
  refine lc_after (n := wm.length) hrun hS hf (fun r w' H1 locs1 hp hlen hP1 hk1 hS1 => ?_)
  exact k r w' hp H1 locs1 ls (lc_kept (A := fun _ => True) hPC (fun i j a b h1 h2 e => ld_x hD h2 h1 e.symm) hk1) hP1 (ac_D2 rfl hlen hD) hS1 hl
end Law
