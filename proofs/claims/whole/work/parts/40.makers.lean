/-! ===== makers: straight code that makes cells ===== -/
def ic_C (own : String) (cc : ByteArray) (p : Program) (s : State) (m : MethodId) (args : Array Value) (meth : Method) (c : Code) (D : va_G) (cI cB : ClassId) (A : Nat → Prop) : Prop :=
  p.tables.exec = Jvm.exec ∧ c.code = cc ∧ meth.sig.returnType = none ∧ c.maxLocals = 1 ∧ s.vm.findClass own = some m.cls ∧ meth.locks = false ∧ (∀ w ∈ gw_L, w.before args s = true) ∧ va_K D vwCl (ac_ty cI cB) s ∧ ac_N s ∧ meth.name = "<init>" ∧ ∀ q, s.heap.size ≤ q → A q
abbrev ic_rm (d cn sn : Nat) : Room := { frames := d, cells := cn, slots := sn, locals := 40 * d }
abbrev ic_Q (D : va_G) (A : Nat → Prop) (Po : va_W → Prop) : Array Value → State → Outcome → State → Prop := va_Qv Po (fun u t => va_P D vwCl u t.heap ∧ va_D A u) A
def IW (D : va_G) (cI cB : ClassId) (h0 : Nat) (A : Nat → Prop) (d cn sn : Nat) (own : String) (cc : ByteArray) (Po : va_W → Prop) (pc : Nat) (st : List Value) (ws : va_W) (cells slots : Nat) : Prop :=
  ∀ (p : Program) (l : Launch) (e : Env) (s : State) (m : MethodId) (args : Array Value) (below : List Frame) (meth : Method) (c : Code), ic_C own cc p s m args meth c D cI cB A →
  ∀ (H : Heap) (locs : List Loc) (ls : Array Slot), va_P D vwCl ws H → va_D A ws → va_S A s.heap H locs → lv_has ls 1 [(0, .ref h0)] →
  W p l e (ic_rm d cn sn) s m args below meth c H locs cells slots (MQ below (ic_Q D A Po) args s cn sn A) (F0 m pc ls st)
/-- a maker's contract: its own cell comes first -/
def GI (d cn sn : Nat) (y : MethodName) (cc : ByteArray) (ci : Nat) (fs : List Value) (fin : List ac_T) : Prop :=
  ∀ (l : Launch) (D : va_G) (cI cB : ClassId) (h0 sz : Nat), Met l y (Cond.code y cc 1 none :: gw_L) (ic_rm d cn sn) (va_Pc [.ref h0] (fun U => U.heap.size = sz ∧ va_P D vwCl [(h0, .inr (ci, fs))] U.heap ∧ va_K D vwCl (ac_ty cI cB) U ∧ va_D (fun _ => True) [(h0, .inr (ci, fs))] ∧ ac_N U))
    (ic_Q D (va_A [(h0, .inr (ci, fs))] sz) (fun ws => ∃ ad : Nat → Nat, ad 0 = h0 ∧ ws = ac_W cI cB ad 0 fin)) cn sn (va_A [(h0, .inr (ci, fs))] sz)
theorem nd_of : ∀ l : List Nat, l.Nodup → va_nd l = true
  | [], _ => rfl
  | a :: l, h => by
    have h2 := List.nodup_cons.mp h
    show (decide (a ∉ l) && va_nd l) = true
    rw [decide_eq_true h2.1, nd_of l h2.2]
    rfl
theorem nd_range (n : Nat) : va_nd (List.range n) = true := nd_of _ List.nodup_range
section Makers
variable {D : va_G} {cI cB : ClassId} {h0 : Nat} {A : Nat → Prop} {d cn sn : Nat} {own : String} {cc : ByteArray} {Po : va_W → Prop} {pc : Nat} {st : List Value} {ws : va_W} {cells slots : Nat}
theorem iw_aload (hd : decode cc pc = .ok (.aload_n 0, 1)) (k : IW D cI cB h0 A d cn sn own cc Po (pc + 1) (.ref h0 :: st) ws cells slots) : IW D cI cB h0 A d cn sn own cc Po pc st ws cells slots := by
  intro p l e s m args below meth c C H locs ls hP hD hS hl
  exact lv_aload_n C.1 C.2.1 hd rfl (lv_at hl 0 rfl) (k p l e s m args below meth c C H locs ls hP hD hS hl)
theorem iw_iconst {n : Int} {v : Int32} (hd : decode cc pc = .ok (.iconst n, 1)) (hv : Int32.ofInt n = v) (k : IW D cI cB h0 A d cn sn own cc Po (pc + 1) (.int v :: st) ws cells slots) : IW D cI cB h0 A d cn sn own cc Po pc st ws cells slots := by
  intro p l e s m args below meth c C H locs ls hP hD hS hl
  exact lv_iconst C.1 C.2.1 hd hv (k p l e s m args below meth c C H locs ls hP hD hS hl)
theorem iw_bipush {n : Int} {v : Int32} (hd : decode cc pc = .ok (.bipush n, 2)) (hv : (Int8.ofInt n).toInt32 = v) (k : IW D cI cB h0 A d cn sn own cc Po (pc + 2) (.int v :: st) ws cells slots) : IW D cI cB h0 A d cn sn own cc Po pc st ws cells slots := by
  intro p l e s m args below meth c C H locs ls hP hD hS hl
  exact lv_bipush C.1 C.2.1 hd hv (k p l e s m args below meth c C H locs ls hP hD hS hl)
theorem iw_dup {v : Value} (hd : decode cc pc = .ok (.dup, 1)) (hv : v.category = 1) (k : IW D cI cB h0 A d cn sn own cc Po (pc + 1) (v :: v :: st) ws cells slots) : IW D cI cB h0 A d cn sn own cc Po pc (v :: st) ws cells slots := by
  intro p l e s m args below meth c C H locs ls hP hD hS hl
  exact lv_dup C.1 C.2.1 hd hv (k p l e s m args below meth c C H locs ls hP hD hS hl)
theorem iw_obj {idx q : Nat} (hlk : Cond.methodLink own idx objectInit ∈ gw_L) (hd : decode cc pc = .ok (.invokespecial idx, 3)) (hdd : 0 < d) (k : IW D cI cB h0 A d cn sn own cc Po (pc + 3) [] ws cells slots) : IW D cI cB h0 A d cn sn own cc Po pc [.ref q] ws cells slots := by
  intro p l e s m args below meth c C H locs ls hP hD hS hl
  have hts := C.2.2.2.2.2.2.1
  refine W.objInit C.1 C.2.1 C.2.2.2.2.1 (hts _ hlk) (hts _ gq_65) (hts _ gq_66) rfl (by rw [C.2.2.2.1]; exact hl.1) rfl hd (by show 1 ≤ d; omega) (by show _ ≤ 40 * d; simp; omega) ?_
  exact k p l e s m args below meth c C H locs ls hP hD hS hl
theorem iw_ret (hd : decode cc pc = .ok (.return_, 1)) (hc : cells ≤ cn) (hs : slots ≤ sn) (h : Po ws) : IW D cI cB h0 A d cn sn own cc Po pc [] ws cells slots := by
  intro p l e s m args below meth c C H locs ls hP hD hS hl
  refine W.widen (k := cn) (n := sn) hc hs ?_
  exact W.vret C.1 C.2.1 C.2.2.1 (fun t ht hW => ⟨⟨ws, rfl, h, by rw [ht]; exact hP, hD⟩, hS.F ht⟩) hS.2.2 hd C.2.2.2.2.2.1
theorem iw_newaI {n : Int32} {N : Nat} (hd : decode cc pc = .ok (.newarray .int, 2)) (hn : ¬ n < 0) (hN : n.toNatClampNeg = N) (hb : N ≤ 1000) (hc : cells + 1 ≤ cn) (hs : slots + N ≤ sn) (k : ∀ q : Nat, IW D cI cB h0 A d cn sn own cc Po (pc + 2) (.ref q :: st) (ws ++ [(q, .inl (cI, N, .inl (fun _ => 0)))]) (cells + 1) (slots + N)) : IW D cI cB h0 A d cn sn own cc Po pc (.int n :: st) ws cells slots := by
  intro p l e s m args below meth c C H locs ls hP hD hS hl
  have hK := C.2.2.2.2.2.2.2.1
  refine va_newa (atype := .int) (a0 := (N, .inl (fun _ => 0))) C.1 C.2.1 (C.2.2.2.2.2.2.1 _ gq_83) (ty := .int) rfl hK hP hD hS C.2.2.2.2.2.2.2.2.2.2 (fun cA => rfl) hn hN (by show N * 4 ≤ 536870912; omega) hc hs hd (fun q cA H1 hK1 hP1 hD1 hS1 => ?_)
  have e : cA = cI := by
    have h1 : s.vm.findClass _ = some cA := (hK1.2 2 (cA, .int) rfl).2
    have h2 : s.vm.findClass _ = some cI := (hK.2 0 (cI, .int) rfl).2
    exact Option.some.inj (h1.symm.trans h2)
  subst e
  exact k q p l e s m args below meth c C H1 locs ls hP1 hD1 hS1 hl
theorem iw_newaB {n : Int32} {N : Nat} (hd : decode cc pc = .ok (.newarray .byte, 2)) (hn : ¬ n < 0) (hN : n.toNatClampNeg = N) (hb : N ≤ 1000) (hc : cells + 1 ≤ cn) (hs : slots + N ≤ sn) (k : ∀ q : Nat, IW D cI cB h0 A d cn sn own cc Po (pc + 2) (.ref q :: st) (ws ++ [(q, .inl (cB, N, .inl (fun _ => 0)))]) (cells + 1) (slots + N)) : IW D cI cB h0 A d cn sn own cc Po pc (.int n :: st) ws cells slots := by
  intro p l e s m args below meth c C H locs ls hP hD hS hl
  have hK := C.2.2.2.2.2.2.2.1
  refine va_newa (atype := .byte) (a0 := (N, .inl (fun _ => 0))) C.1 C.2.1 (C.2.2.2.2.2.2.1 _ gq_778) (ty := .byte) rfl hK hP hD hS C.2.2.2.2.2.2.2.2.2.2 (fun cA => rfl) hn hN (by show N * 1 ≤ 536870912; omega) hc hs hd (fun q cA H1 hK1 hP1 hD1 hS1 => ?_)
  have e : cA = cB := by
    have h1 : s.vm.findClass _ = some cA := (hK1.2 2 (cA, .byte) rfl).2
    have h2 : s.vm.findClass _ = some cB := (hK.2 1 (cB, .byte) rfl).2
    exact Option.some.inj (h1.symm.trans h2)
  subst e
  exact k q p l e s m args below meth c C H1 locs ls hP1 hD1 hS1 hl
theorem iw_new {idx ci N : Nat} {R : String} {T : u_T} {fs : List Value} (hcl : Cond.classLink own idx R ∈ gw_L) (hinst : Cond.instantiable R N ∈ gw_L) (hini : Cond.initialized R ∈ gw_L) (hws : ∀ x ∈ u_ws R T N, x ∈ gw_L) (ty0 : Nat → FieldType) (hty : ∀ k, k < N → parseFieldDescriptor (T k).2.2.1 = some (ty0 k)) (hv : vwCl[ci]? = some (R, T, N)) (hfs : ∀ j, j < N → defaultValue (ty0 j) = vp_V fs j) (hd : decode cc pc = .ok (.new idx, 3)) (hc : cells + 1 ≤ cn) (hs : slots + N ≤ sn) (k : ∀ q : Nat, IW D cI cB h0 A d cn sn own cc Po (pc + 3) (.ref q :: st) (ws ++ [(q, .inr (ci, fs))]) (cells + 1) (slots + N)) : IW D cI cB h0 A d cn sn own cc Po pc st ws cells slots := by
  intro p l e s m args below meth c C H locs ls hP hD hS hl
  have hts := C.2.2.2.2.2.2.1
  exact va_new C.1 C.2.1 hts hws ty0 hty C.2.2.2.2.1 (hts _ hcl) (hts _ hinst) (hts _ hini) C.2.2.2.2.2.2.2.1 hP hD hS C.2.2.2.2.2.2.2.2.2.2 hv hfs hc hs hd (fun q H1 hP1 hD1 hS1 => k q p l e s m args below meth c C H1 locs ls hP1 hD1 hS1 hl)
theorem iw_put {idx ci i N q0 a : Nat} {R : String} {T : u_T} (hlk : Cond.fieldLink own idx (T i).1 (T i).2.1 (T i).2.2.1 ∈ gw_L) (hws : ∀ x ∈ u_ws R T N, x ∈ gw_L) (ty0 : Nat → FieldType) (hty : ∀ k, k < N → parseFieldDescriptor (T k).2.2.1 = some (ty0 k)) (hnm : ∀ a, a < N → ∀ b, b < N → a ≠ b → (T a).2.1 ≠ (T b).2.1) (hc : vwCl[ci]? = some (R, T, N)) (hi : i < N) (hfin : (T i).2.2.2 = false ∨ ((T i).2.2.2 = true ∧ (T i).1 = own)) {ty : FieldType} (hdesc : parseFieldDescriptor (T i).2.2.1 = some ty)
    (hd : decode cc pc = .ok (.putfield idx, 3)) {fs : List Value} {v : Value} (he : ws[q0]? = some (a, .inr (ci, fs))) (hir : i < fs.length) (hnar : narrow ty v = v) (hfit : fits ty v = true)
    (k : IW D cI cB h0 A d cn sn own cc Po (pc + 3) st (ws.set q0 (a, .inr (ci, fs.set i v))) cells slots) : IW D cI cB h0 A d cn sn own cc Po pc (v :: .ref a :: st) ws cells slots := by
  intro p l e s m args below meth c C H locs ls hP hD hS hl
  have hts := C.2.2.2.2.2.2.1
  rcases hfin with hf | ⟨hf, ho⟩
  · exact va_put (D := D) C.1 C.2.1 hts hws ty0 hty hnm C.2.2.2.2.1 C.2.2.2.2.2.2.2.1 hP hD hS q0 he hc i hi (hts _ hlk) (fun _ h9 => h9) hf hdesc hnar hfit hir hd (fun H1 locs1 hP1 hD1 hS1 => k p l e s m args below meth c C H1 locs1 ls hP1 hD1 hS1 hl)
  · exact va_putF (D := D) C.1 C.2.1 hts hws ty0 hty hnm C.2.2.2.2.1 C.2.2.2.2.2.2.2.1 hP hD hS q0 he hc i hi (hts _ hlk) (fun _ h9 => h9) hf C.2.2.2.2.2.2.2.2.2.1 ho hdesc hnar hfit hir hd (fun H1 locs1 hP1 hD1 hS1 => k p l e s m args below meth c C H1 locs1 ls hP1 hD1 hS1 hl)
/-- a maker's call of a nest mate's maker, on the newest cell -/
theorem iw_init {idx ci q d1 c1 s1 : Nat} {y : MethodName} {b1 : ByteArray} {host : String} {fs : List Value} {fin : List ac_T} {wr : va_W} (hM : GI d1 c1 s1 y b1 ci fs fin) (q1 : (own, idx, y, host) ∈ gn_L) (q2 : Cond.instanceMethod y ∈ gw_L) (q4 : Cond.initialized y.cls ∈ gw_L) (q5 : Cond.code y b1 1 none ∈ gw_L) (hy0 : y.name = "<init>") (hy : y.cls ≠ "java/lang/invoke/MethodHandle" ∧ y.cls ≠ "java/lang/invoke/VarHandle" ∧ (parseMethodDescriptor y.desc).map (fun d => d.parameters.length) = some 0) (hd : decode cc pc = .ok (.invokespecial idx, 3)) (hdd : d1 < d) (hs : (st.map fun v => v.category).sum ≤ 8) (hc : cells + c1 ≤ cn) (hsl : slots + s1 ≤ sn)
    (k : ∀ ad : Nat → Nat, ad 0 = q → IW D cI cB h0 A d cn sn own cc Po (pc + 3) st (wr ++ ac_W cI cB ad 0 fin) (cells + c1) (slots + s1)) : IW D cI cB h0 A d cn sn own cc Po pc (.ref q :: st) (wr ++ [(q, .inr (ci, fs))]) cells slots := by
  intro p l e s m args below meth c C H locs ls hP hD hS hl
  have hts := C.2.2.2.2.2.2.1
  have hK := C.2.2.2.2.2.2.2.1
  have hA := C.2.2.2.2.2.2.2.2.2.2
  have hidx : (wr ++ [(q, (Sum.inr (ci, fs) : va_E))])[wr.length]? = some (q, .inr (ci, fs)) := by simp
  have hmC : [wr.length].map (fun i => (wr ++ [(q, (Sum.inr (ci, fs) : va_E))])[i]?) = [(q, (Sum.inr (ci, fs) : va_E))].map some := by simp
  have hmR : (List.range wr.length).map (fun i => (wr ++ [(q, (Sum.inr (ci, fs) : va_E))])[i]?) = wr.map some := by
    apply List.ext_getElem (by simp)
    intro i h1 h2
    have hi : i < wr.length := by simpa using h1
    simp [List.getElem?_append_left hi, hi]
  have hPc : va_P D vwCl [(q, .inr (ci, fs))] H := fun j x hx => by
    match j, hx with
    | 0, hx => cases hx; exact hP _ _ hidx
  have hDc : va_D (fun _ => True) [(q, (Sum.inr (ci, fs) : va_E))] := ⟨fun i j a b h1 h2 _ => by
    have z1 := (List.getElem?_eq_some_iff.mp h1).1
    have z2 := (List.getElem?_eq_some_iff.mp h2).1
    simp at z1 z2
    omega, fun _ _ _ => trivial⟩
  have hFc := va_free (wc := [(q, .inr (ci, fs))]) hD hS hA [wr.length] hmC
  refine va_callv (va_runIN (p := p) (l := l) (e := e) (R := ic_rm d cn sn) (s := s) (m := m) (args := args) (below := below) (meth := meth) (c := c) (H := H) (locs := locs) (As := []) (rest := st) (g := F0 m pc ls (.ref q :: st)) (bytes := b1) (maxL := 1) (n := 0) (index := idx) (own := own) (host := host) (Ts := gw_L) (nL := 1) (cc := cc) ⟨C.1, C.2.1, C.2.2.2.1, C.2.2.2.2.1, hts⟩ (hM l D cI cB q H.size)
    ⟨va_cnB 0 hts (ac_good (ws := []) q5 (fun _ h => by cases h)) rfl rfl rfl (C.2.2.2.2.2.2.2.2.1.1 _ q1) (hts _ q4) hy ⟨by show d1 + 1 ≤ d; omega, by show 8 + (1 + 11) + 40 * d1 ≤ 40 * d; omega⟩, hy0, hts _ q2⟩ ⟨fun a U g mk z => by obtain ⟨z0, z1, zP, zK, zD, zN⟩ := z; exact ⟨z0, z1, zP, va_K.moved (u := U) (U := U.calling g mk a) (Vm.Alike.refl U.vm) zK, zD, zN.same rfl⟩, fun U hU hW => ⟨rfl, by rw [hU], by rw [hU]; exact hPc, va_K.moved hW.alike hK, hDc, C.2.2.2.2.2.2.2.2.1.warm hW⟩⟩ rfl rfl hl.1 rfl (lv_room hs) hd ⟨hc, hsl⟩) hS (fun q _ h => hFc q h) hFc (fun u t H1 locs1 ht hvm hp hB hz1 hk1 hS1 => ?_)
  obtain ⟨ad, had, rfl⟩ := hp
  obtain ⟨hP1, hD1⟩ := hB
  rw [ht] at hP1
  obtain ⟨hP2, hD2⟩ := va_join (wr := wr) (w1 := ac_W cI cB ad 0 fin) hP hD [wr.length] (List.range wr.length) hmC hmR (nd_range _) (fun i hi hj => by
    have := List.mem_range.mp hi
    simp at hj
    omega) hk1 hFc hP1 hD1
  exact k ad had p l e s m args below meth c C H1 locs1 ls hP2 hD2 hS1 hl
end Makers
/-- a maker's contract by its walk -/
theorem GI.of {d cn sn : Nat} {y : MethodName} {cc : ByteArray} {ci : Nat} {fs : List Value} {fin : List ac_T} (own : String) (ho : y.cls = own) (hn : y.name = "<init>") (hy : plainName own = true)
    (h : ∀ (D : va_G) (cI cB : ClassId) (h0 : Nat) (A : Nat → Prop), IW D cI cB h0 A d cn sn own cc (fun ws => ∃ ad : Nat → Nat, ad 0 = h0 ∧ ws = ac_W cI cB ad 0 fin) 0 [] [(h0, .inr (ci, fs))] 0 0) : GI d cn sn y cc ci fs fin := by
  subst ho
  intro l D cI cB h0 sz
  refine Met.ofW (cc := cc) (maxL := 1) (ret := none) hy rfl ?_
  intro p e s m args below meth c s₁ B hml hv
  obtain ⟨rfl, hsz, hP, hK, hD0, hN⟩ := hv
  have hts := atoms_spec (ws := Cond.code y cc 1 none :: gw_L) B.pre
  have hown : s.vm.findClass y.cls = some m.cls := findClass_of_methodNamed B.named
  have hin : meth.name = "<init>" := (name_of_methodNamed B.named B.method).1.trans hn
  subst hsz
  have hD := hD0.self (sz := s.heap.size)
  have hl := lv_entry ([.ref h0]) (n := 1) (Nat.le_of_ble_eq_true rfl)
  rw [lg_entry_eq]
  exact h D cI cB h0 (va_A [(h0, .inr (ci, fs))] s.heap.size) p l e s m _ below meth c ⟨B.exec, B.bytes, B.returns, hml, hown, B.notSynchronized, fun w hw => hts w (List.mem_cons_of_mem _ hw), hK, hN, hin, fun q hq => Or.inr hq⟩ s.heap [] _ hP hD va_S.rf hl
