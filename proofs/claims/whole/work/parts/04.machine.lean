/-! ===== THE PURE MACHINE: a world is a list of cells, a reference is a cell's number (1000 + i: the constant i of Kind, 1010: KINDS) ===== -/
abbrev ac_T : Type := (Nat × Nat × (Nat → Int32)) ⊕ (Nat × List Value)
def ac_v (ad : Nat → Nat) : Value → Value
  | .ref k => .ref (ad k)
  | v => v
def ac_E (cI cB : ClassId) (ad : Nat → Nat) : ac_T → va_E
  | .inl (t, n, f) => .inl ((if t = 0 then cI else cB), n, .inl f)
  | .inr (ci, fs) => .inr (ci, fs.map (ac_v ad))
def ac_W (cI cB : ClassId) (ad : Nat → Nat) : Nat → List ac_T → va_W
  | _, [] => []
  | k, c :: t => (ad k, ac_E cI cB ad c) :: ac_W cI cB ad (k + 1) t
theorem ac_W_get (cI cB : ClassId) (ad : Nat → Nat) : ∀ (w : List ac_T) (k i : Nat), (ac_W cI cB ad k w)[i]? = (w[i]?).map (fun c => (ad (k + i), ac_E cI cB ad c))
  | [], k, i => by simp [ac_W]
  | c :: t, k, 0 => by simp [ac_W]
  | c :: t, k, i + 1 => by
    simp only [ac_W, List.getElem?_cons_succ]
    rw [ac_W_get cI cB ad t (k + 1) i, show k + 1 + i = k + (i + 1) by omega]
theorem ac_W_at {cI cB : ClassId} {ad : Nat → Nat} {w : List ac_T} {i : Nat} {c : ac_T} (h : w[i]? = some c) : (ac_W cI cB ad 0 w)[i]? = some (ad i, ac_E cI cB ad c) := by
  rw [ac_W_get, h, Nat.zero_add]; rfl
theorem ac_W_setk (cI cB : ClassId) (ad : Nat → Nat) : ∀ (w : List ac_T) (k i : Nat) (c : ac_T), (ac_W cI cB ad k w).set i (ad (k + i), ac_E cI cB ad c) = ac_W cI cB ad k (w.set i c)
  | [], k, i, c => by simp [ac_W]
  | b :: t, k, 0, c => by simp [ac_W]
  | b :: t, k, i + 1, c => by
    simp only [ac_W, List.set_cons_succ]
    rw [← ac_W_setk cI cB ad t (k + 1) i c, show k + 1 + i = k + (i + 1) by omega]
theorem ac_W_set (cI cB : ClassId) (ad : Nat → Nat) (w : List ac_T) (i : Nat) (c : ac_T) : (ac_W cI cB ad 0 w).set i (ad i, ac_E cI cB ad c) = ac_W cI cB ad 0 (w.set i c) := by
  have h := ac_W_setk cI cB ad w 0 i c
  rwa [Nat.zero_add] at h
theorem ac_W_of {cI cB : ClassId} {ad : Nat → Nat} {w : List ac_T} {i : Nat} {q : Nat × va_E} (h : (ac_W cI cB ad 0 w)[i]? = some q) : ∃ c, w[i]? = some c ∧ q = (ad i, ac_E cI cB ad c) := by
  rw [ac_W_get, Nat.zero_add] at h
  cases hc : w[i]? with
  | none => rw [hc] at h; cases h
  | some c => rw [hc] at h; exact ⟨c, rfl, (Option.some.inj h).symm⟩
theorem ac_D {cI cB : ClassId} {ad : Nat → Nat} {A : Nat → Prop} {w w' : List ac_T} (h : va_D A (ac_W cI cB ad 0 w)) (hn : w'.length = w.length) : va_D A (ac_W cI cB ad 0 w') := by
  have key : ∀ (i : Nat) (q : Nat × va_E), (ac_W cI cB ad 0 w')[i]? = some q → ∃ q' : Nat × va_E, (ac_W cI cB ad 0 w)[i]? = some q' ∧ q'.1 = q.1 := by
    intro i q hq
    obtain ⟨c, hc, rfl⟩ := ac_W_of hq
    have hi : i < w.length := by
      have := (List.getElem?_eq_some_iff.mp hc).1
      omega
    exact ⟨_, ac_W_at (List.getElem?_eq_getElem hi), rfl⟩
  refine ⟨fun i j p q hp hq hpq => ?_, fun k q hk => ?_⟩
  · obtain ⟨p', h1, e1⟩ := key i p hp
    obtain ⟨q', h2, e2⟩ := key j q hq
    exact h.1 i j p' q' h1 h2 (by rw [e1, e2, hpq])
  · obtain ⟨q', h1, e1⟩ := key k q hk
    rw [← e1]
    exact h.2 k q' h1
-- locals: a list by place, null: nothing known there
def ac_l (ad : Nat → Nat) : Nat → List Value → List (Nat × Value)
  | _, [] => []
  | k, v :: t => match v with
    | .null => ac_l ad (k + 1) t
    | .int x => (k, .int x) :: ac_l ad (k + 1) t
    | .long x => (k, .long x) :: ac_l ad (k + 1) t
    | .float x => (k, .float x) :: ac_l ad (k + 1) t
    | .double x => (k, .double x) :: ac_l ad (k + 1) t
    | .ref x => (k, .ref (ad x)) :: ac_l ad (k + 1) t
    | .retAddr x => (k, .retAddr x) :: ac_l ad (k + 1) t
theorem ac_l_mem (ad : Nat → Nat) : ∀ (loc : List Value) (k : Nat) (q : Nat × Value), q ∈ ac_l ad k loc ↔ ∃ (j : Nat) (v : Value), loc[j]? = some v ∧ v ≠ .null ∧ q = (k + j, ac_v ad v)
  | [], k, q => by simp [ac_l]
  | v :: t, k, q => by
    have ih := ac_l_mem ad t (k + 1) q
    have key : (∃ (j : Nat) (u : Value), (v :: t)[j]? = some u ∧ u ≠ .null ∧ q = (k + j, ac_v ad u)) ↔ (v ≠ .null ∧ q = (k, ac_v ad v)) ∨ q ∈ ac_l ad (k + 1) t := by
      rw [ih]
      constructor
      · rintro ⟨j, u, h1, h2, h3⟩
        cases j with
        | zero => simp at h1; subst h1; exact Or.inl ⟨h2, h3⟩
        | succ j => exact Or.inr ⟨j, u, by simpa using h1, h2, by rw [h3, show k + 1 + j = k + (j + 1) by omega]⟩
      · rintro (⟨h1, h2⟩ | ⟨j, u, h1, h2, h3⟩)
        · exact ⟨0, v, by simp, h1, by simpa using h2⟩
        · exact ⟨j + 1, u, by simpa using h1, h2, by rw [h3, show k + 1 + j = k + (j + 1) by omega]⟩
    rw [key]
    cases v <;> simp [ac_l, ac_v]
def ac_L (ad : Nat → Nat) (ls : Array Slot) (nL : Nat) (loc : List Value) : Prop := lv_has ls nL (ac_l ad 0 loc)
theorem ac_L.at {ad : Nat → Nat} {ls : Array Slot} {nL : Nat} {loc : List Value} (h : ac_L ad ls nL loc) {j : Nat} {v : Value} (hj : loc[j]? = some v) (hv : v ≠ .null) : ls[j]? = some (.val (ac_v ad v)) := by
  have := h.2.2 (j, ac_v ad v) ((ac_l_mem ad loc 0 _).mpr ⟨j, v, hj, hv, by rw [Nat.zero_add]⟩)
  exact this
theorem ac_v_cat (ad : Nat → Nat) (v : Value) : (ac_v ad v).category = v.category := by cases v <;> rfl
theorem ac_L.st1 {ad : Nat → Nat} {ls ls' : Array Slot} {nL : Nat} {loc : List Value} {i : Nat} {v : Value} (hp : ∀ (k : Nat) (u : Value), k + 1 = i → loc[k]? = some u → u.category = 1)
    (h : lv_has ls' nL ((i, ac_v ad v) :: (ac_l ad 0 loc).filter (fun q => !(q.1 == i) && !(q.1 + 1 == i && q.2.category == 2)))) : ac_L ad ls' nL (loc.set i v) := by
  refine ⟨h.1, h.2.1, fun q hq => h.2.2 q ?_⟩
  obtain ⟨j, u, h1, h2, rfl⟩ := (ac_l_mem ad _ 0 q).mp hq
  rw [Nat.zero_add]
  by_cases hj : j = i
  · subst hj
    rw [List.getElem?_set_self' ] at h1
    cases hl : loc[j]? with
    | none => rw [hl] at h1; cases h1
    | some z => rw [hl] at h1; cases h1; exact List.mem_cons_self
  · rw [List.getElem?_set_ne (fun e => hj e.symm)] at h1
    refine List.mem_cons_of_mem _ (List.mem_filter.mpr ⟨(ac_l_mem ad loc 0 _).mpr ⟨j, u, h1, h2, by rw [Nat.zero_add]⟩, ?_⟩)
    have e1 : (j == i) = false := by simpa using hj
    simp only [e1, Bool.not_false, Bool.true_and, Bool.not_eq_true', Bool.and_eq_false_iff, ac_v_cat]
    by_cases hk : j + 1 = i
    · right
      rw [hp j u hk h1]; rfl
    · left
      simpa using hk
theorem ac_L.st2 {ad : Nat → Nat} {ls' : Array Slot} {nL : Nat} {loc : List Value} {i : Nat} {v : Value} (hp : ∀ (k : Nat) (u : Value), k + 1 = i → loc[k]? = some u → u.category = 1)
    (h : lv_has ls' nL ((i, ac_v ad v) :: (ac_l ad 0 loc).filter (fun q => !(q.1 == i) && (!(q.1 == i + 1) && !(q.1 + 1 == i && q.2.category == 2))))) : ac_L ad ls' nL ((loc.set i v).set (i + 1) .null) := by
  refine ⟨h.1, h.2.1, fun q hq => h.2.2 q ?_⟩
  obtain ⟨j, u, h1, h2, rfl⟩ := (ac_l_mem ad _ 0 q).mp hq
  rw [Nat.zero_add]
  by_cases hj1 : j = i + 1
  · subst hj1
    rw [List.getElem?_set_self'] at h1
    cases hl : (loc.set i v)[i + 1]? with
    | none => rw [hl] at h1; cases h1
    | some z => rw [hl] at h1; cases h1; exact absurd rfl h2
  rw [List.getElem?_set_ne (fun e => hj1 e.symm)] at h1
  by_cases hj : j = i
  · subst hj
    rw [List.getElem?_set_self'] at h1
    cases hl : loc[j]? with
    | none => rw [hl] at h1; cases h1
    | some z => rw [hl] at h1; cases h1; exact List.mem_cons_self
  · rw [List.getElem?_set_ne (fun e => hj e.symm)] at h1
    refine List.mem_cons_of_mem _ (List.mem_filter.mpr ⟨(ac_l_mem ad loc 0 _).mpr ⟨j, u, h1, h2, by rw [Nat.zero_add]⟩, ?_⟩)
    have e1 : (j == i) = false := by simpa using hj
    have e2 : (j == i + 1) = false := by simpa using hj1
    simp only [e1, e2, Bool.not_false, Bool.true_and, Bool.not_eq_true', Bool.and_eq_false_iff, ac_v_cat]
    by_cases hk : j + 1 = i
    · right
      rw [hp j u hk h1]; rfl
    · left
      simpa using hk
-- the constants of Kind
def ac_nm : List String := ["PERSON", "CHILD", "WIDOW", "GRUNTER", "SAINT"]
def ac_F : List (String × String × String × List Int32) := [("ThanksOwed$Kind", "timesAsDebtor", "I", [1, 0, 1, 1, 1]), ("ThanksOwed$Kind", "timesAsCreditor", "I", [1, 1, 2, 1, 0]), ("ThanksOwed$Kind", "thanks", "Z", [1, 1, 1, 0, 0]), ("ThanksOwed$Kind", "sulks", "Z", [1, 1, 1, 1, 0])]
def ac_K (ad : Nat → Nat) (A : Nat → Prop) (U : State) (H : Heap) : Prop := va_En "ThanksOwed$Kind" "LThanksOwed$Kind;" ac_nm ac_F (fun i => ad (1000 + i)) A U H ∧ va_Z "ThanksOwed" "KINDS" "[LThanksOwed$Kind;" (.ref (ad 1010)) A U H ∧ va_T (.object "ThanksOwed$Kind") (ad 1010) 5 (fun j => .ref (ad (1000 + j))) A U H
theorem ac_K.moved {ad : Nat → Nat} {A : Nat → Prop} {u U : State} {H : Heap} (hvm : u.vm.Alike U.vm) (h : ac_K ad A u H) : ac_K ad A U H := ⟨h.1.moved hvm, h.2.1.moved hvm, h.2.2.moved hvm⟩
theorem ac_K.kept {ad : Nat → Nat} {A : Nat → Prop} {U : State} {H H1 : Heap} (h : ac_K ad A U H) (hq : ∀ a : Nat, a < H.size → ¬ A a → H1[a]? = H[a]?) : ac_K ad A U H1 := ⟨h.1.kept hq, h.2.1.kept hq, h.2.2.kept hq⟩
theorem ac_K.narrow {ad : Nat → Nat} {A B : Nat → Prop} {U : State} {H : Heap} (h : ac_K ad A U H) (hAB : ∀ q, B q → A q) : ac_K ad B U H := ⟨h.1.narrow hAB, h.2.1.narrow hAB, h.2.2.narrow hAB⟩
-- the links to nest mates
def ac_N (U : State) : Prop := (∀ q ∈ gn_L, va_Nw (.methodLinkNest q.1 q.2.1 q.2.2.1 q.2.2.2) U) ∧ va_Nw (.fieldLinkNest RX8 55 "ThanksOwed" "KINDS" "[LThanksOwed$Kind;" "ThanksOwed") U
theorem ac_N.warm {s U : State} (hW : s.WarmedH U.vm) (h : ac_N s) : ac_N U := ⟨fun q hq => va_Nw.warmM hW (h.1 q hq), va_Nw.warmF hW h.2⟩
theorem ac_N.same {s U : State} (e : s.vm = U.vm) (h : ac_N s) : ac_N U := ⟨fun q hq => va_Nw.same rfl e (h.1 q hq), va_Nw.same rfl e h.2⟩
abbrev ac_ty (cI cB : ClassId) : List (ClassId × FieldType) := [(cI, .int), (cB, .byte)]
abbrev ac_rm (d : Nat) : Room := { frames := d, cells := 0, slots := 0, locals := 40 * d }
/-- where a method of the worlds stands: what stays the same along its body -/
def ac_C (own : String) (cc : ByteArray) (mL : Nat) (rt : Option FieldType) (p : Program) (s : State) (m : MethodId) (args : Array Value) (meth : Method) (c : Code) (D : va_G) (cI cB : ClassId) (ad : Nat → Nat) (A : Nat → Prop) : Prop :=
  p.tables.exec = Jvm.exec ∧ c.code = cc ∧ meth.sig.returnType = rt ∧ c.maxLocals = mL ∧ s.vm.findClass own = some m.cls ∧ meth.locks = false ∧ (∀ w ∈ gw_L, w.before args s = true) ∧ va_K D vwCl (ac_ty cI cB) s ∧ ac_N s ∧ ac_K ad A s s.heap ∧ ∀ q, s.heap.size ≤ q → A q
/-- how a method of the worlds ends -/
def ac_Q (D : va_G) (cI cB : ClassId) (ad : Nat → Nat) (A : Nat → Prop) (n : Nat) (Po : Option Value → List ac_T → Prop) : Array Value → State → Outcome → State → Prop := fun _ st o t => ∃ (r : Option Value) (w' : List ac_T), o = .returned (r.map (ac_v ad)) ∧ Po r w' ∧ w'.length = n ∧ va_P D vwCl (ac_W cI cB ad 0 w') t.heap ∧ va_F A st t
/-- the pure machine at pc, with locals, stack and world, comes to a return with Po -/
def AW (d : Nat) (own : String) (cc : ByteArray) (mL : Nat) (rt : Option FieldType) (n : Nat) (Po : Option Value → List ac_T → Prop) (pc : Nat) (loc st : List Value) (w : List ac_T) : Prop :=
  ∀ (p : Program) (l : Launch) (e : Env) (s : State) (m : MethodId) (args : Array Value) (below : List Frame) (meth : Method) (c : Code) (D : va_G) (cI cB : ClassId) (ad : Nat → Nat) (A : Nat → Prop), ac_C own cc mL rt p s m args meth c D cI cB ad A →
  ∀ (H : Heap) (locs : List Loc) (ls : Array Slot), w.length = n → va_P D vwCl (ac_W cI cB ad 0 w) H → va_D A (ac_W cI cB ad 0 w) → va_S A s.heap H locs → ac_L ad ls mL loc →
  W p l e (ac_rm d) s m args below meth c H locs 0 0 (MQ below (ac_Q D cI cB ad A n Po) args s 0 0 A) (F0 m pc ls (st.map (ac_v ad)))
/-- a contract of the worlds -/
def AM (d : Nat) (y : MethodName) (cc : ByteArray) (mL : Nat) (rt : Option FieldType) (as : List Value) (w : List ac_T) (Po : Option Value → List ac_T → Prop) : Prop :=
  ∀ (l : Launch) (D : va_G) (cI cB : ClassId) (ad : Nat → Nat) (sz : Nat), Met l y (Cond.code y cc mL rt :: gw_L) (ac_rm d) (va_Pc (as.map (ac_v ad)) (fun U => U.heap.size = sz ∧ va_P D vwCl (ac_W cI cB ad 0 w) U.heap ∧ va_K D vwCl (ac_ty cI cB) U ∧ va_D (fun _ => True) (ac_W cI cB ad 0 w) ∧ ac_N U ∧ ac_K ad (va_A (ac_W cI cB ad 0 w) sz) U U.heap))
    (ac_Q D cI cB ad (va_A (ac_W cI cB ad 0 w) sz) w.length Po) 0 0 (va_A (ac_W cI cB ad 0 w) sz)
def ac_el : List Value → List Value
  | [] => []
  | v :: t => if v.category = 2 then v :: .null :: ac_el t else v :: ac_el t
theorem ac_el_len (ad : Nat → Nat) : ∀ as : List Value, (lg_sl (as.map (ac_v ad))).length = (ac_el as).length
  | [] => rfl
  | v :: t => by
    have ih := ac_el_len ad t
    simp only [lg_sl, List.map_cons, List.flatMap_cons, List.length_append, ac_v_cat, ac_el] at ih ⊢
    by_cases h : v.category = 2
    · simp only [h, if_true, List.length_cons, List.length_nil]; omega
    · simp only [h, if_false, List.length_cons, List.length_nil]; omega
theorem ac_el_args (ad : Nat → Nat) : ∀ (as : List Value) (k : Nat) (q : Nat × Value), (∃ (j : Nat) (v : Value), (ac_el as)[j]? = some v ∧ v ≠ .null ∧ q = (k + j, ac_v ad v)) → q ∈ lv_args k (as.map (ac_v ad))
  | [], k, q => by simp [ac_el]
  | v :: t, k, q => by
    rintro ⟨j, u, h1, h2, rfl⟩
    simp only [List.map_cons, lv_args, ac_v_cat]
    by_cases h : v.category = 2
    · simp only [ac_el, h, if_true] at h1 ⊢
      match j, h1 with
      | 0, h1 => simp at h1; subst h1; exact List.mem_cons_self
      | 1, h1 => simp at h1; exact absurd h1.symm h2
      | j + 2, h1 => exact List.mem_cons_of_mem _ (ac_el_args ad t (k + 2) _ ⟨j, u, by simpa using h1, h2, by rw [show k + 2 + j = k + (j + 2) by omega]⟩)
    · simp only [ac_el, h, if_false] at h1 ⊢
      match j, h1 with
      | 0, h1 => simp at h1; subst h1; exact List.mem_cons_self
      | j + 1, h1 => exact List.mem_cons_of_mem _ (ac_el_args ad t (k + 1) _ ⟨j, u, by simpa using h1, h2, by rw [show k + 1 + j = k + (j + 1) by omega]⟩)
set_option maxHeartbeats 4000000 in
theorem AM.of {d : Nat} {y : MethodName} {cc : ByteArray} {mL : Nat} {rt : Option FieldType} {as : List Value} {w : List ac_T} {Po : Option Value → List ac_T → Prop} {loc : List Value} (own : String) (ho : y.cls = own) (hy : plainName own = true) (hlen : (ac_el as).length ≤ mL) (hloc : ac_el as ++ List.replicate (mL - (ac_el as).length) .null = loc)
    (h : AW d own cc mL rt w.length Po 0 loc [] w) : AM d y cc mL rt as w Po := by
  subst ho
  intro l D cI cB ad sz
  refine Met.ofW (cc := cc) (maxL := mL) (ret := rt) hy rfl ?_
  intro p e s m args below meth c s₁ B hml hv
  obtain ⟨rfl, hsz, hP, hK, hD0, hN, hF⟩ := hv
  have hts := atoms_spec (ws := Cond.code y cc mL rt :: gw_L) B.pre
  have hown : s.vm.findClass y.cls = some m.cls := findClass_of_methodNamed B.named
  subst hsz
  have hD := hD0.self (sz := s.heap.size)
  have hl := lv_entry (as.map (ac_v ad)) (n := mL) (by rw [ac_el_len]; exact hlen)
  rw [lg_entry_eq]
  refine h p l e s m _ below meth c D cI cB ad (va_A (ac_W cI cB ad 0 w) s.heap.size) ⟨B.exec, B.bytes, B.returns, hml, hown, B.notSynchronized, fun w hw => hts w (List.mem_cons_of_mem _ hw), hK, hN, hF, fun q hq => Or.inr hq⟩ s.heap [] _ rfl hP hD va_S.rf ⟨hl.1, hl.2.1, fun q hq => hl.2.2 q ?_⟩
  obtain ⟨j, v, h1, h2, rfl⟩ := (ac_l_mem ad loc 0 q).mp hq
  refine ac_el_args ad as 0 _ ⟨j, v, ?_, h2, rfl⟩
  subst hloc
  rw [List.getElem?_append] at h1
  split at h1
  · exact h1
  · rw [List.getElem?_replicate] at h1
    split at h1
    · cases h1; exact absurd rfl h2
    · cases h1
theorem ac_blind {as : List Value} {D : va_G} {cI cB : ClassId} {ad : Nat → Nat} {sz : Nat} {w : List ac_T} : FrameBlind (va_Pc (as.map (ac_v ad)) (fun U => U.heap.size = sz ∧ va_P D vwCl (ac_W cI cB ad 0 w) U.heap ∧ va_K D vwCl (ac_ty cI cB) U ∧ va_D (fun _ => True) (ac_W cI cB ad 0 w) ∧ ac_N U ∧ ac_K ad (va_A (ac_W cI cB ad 0 w) sz) U U.heap)) := by
  intro a U g mk q
  obtain ⟨q0, q1, qP, qK, qD, qN, qF⟩ := q
  exact ⟨q0, q1, qP, va_K.moved (u := U) (U := U.calling g mk a) (Vm.Alike.refl U.vm) qK, qD, qN.same rfl, ac_K.moved (u := U) (U := U.calling g mk a) (Vm.Alike.refl U.vm) qF⟩
/-- a contract that says just what comes out -/
def ac_R (r : Option Value) (w2 : List ac_T) : Option Value → List ac_T → Prop := fun r' w' => r' = r ∧ w' = w2
section Rows
variable {d : Nat} {own : String} {cc : ByteArray} {mL : Nat} {rt : Option FieldType} {n : Nat} {Po : Option Value → List ac_T → Prop} {pc : Nat} {loc st : List Value} {w : List ac_T}
theorem aw_w {w' : List ac_T} (e : w = w') (k : AW d own cc mL rt n Po pc loc st w') : AW d own cc mL rt n Po pc loc st w := e ▸ k
theorem aw_st {loc' st' : List Value} {w' : List ac_T} (e1 : loc = loc') (e2 : st = st') (e3 : w = w') (k : AW d own cc mL rt n Po pc loc' st' w') : AW d own cc mL rt n Po pc loc st w := by subst e1; subst e2; subst e3; exact k
theorem aw_pc {pc' : Nat} (e : pc = pc') (k : AW d own cc mL rt n Po pc' loc st w) : AW d own cc mL rt n Po pc loc st w := e ▸ k
theorem aw_wk {Po' : Option Value → List ac_T → Prop} (k : AW d own cc mL rt n Po pc loc st w) (h : ∀ r w', Po r w' → Po' r w') : AW d own cc mL rt n Po' pc loc st w := by
  intro p l e s m args below meth c D cI cB ad A C H locs ls hn hP hD hS hl T hT X
  obtain ⟨t, h1, o, h2, h3, ⟨r, w', h4, h5, h6⟩, h7⟩ := k p l e s m args below meth c D cI cB ad A C H locs ls hn hP hD hS hl T hT X
  exact ⟨t, h1, o, h2, h3, ⟨r, w', h4, h _ _ h5, h6⟩, h7⟩
/-- what an array holds behind its end doesn't matter -/
theorem aw_arr {id t N : Nat} {f g : Nat → Int32} (hw : w[id]? = some (.inl (t, N, f))) (hfg : ∀ k, k < N → f k = g k) (k : AW d own cc mL rt n Po pc loc st (w.set id (.inl (t, N, g)))) : AW d own cc mL rt n Po pc loc st w := by
  intro p l e s m args below meth c D cI cB ad A C H locs ls hn hP hD hS hl
  refine k p l e s m args below meth c D cI cB ad A C H locs ls (by rw [List.length_set]; exact hn) ?_ (ac_D hD (by rw [List.length_set])) hS hl
  intro i q hq
  by_cases hi : i = id
  · subst hi
    obtain ⟨c', h1, rfl⟩ := ac_W_of hq
    have hlt : i < w.length := (List.getElem?_eq_some_iff.mp hw).1
    rw [List.getElem?_set_self hlt] at h1
    cases h1
    have h2 : H[ad i]? = some (vp_cell _ (N, .inl f)) := hP i _ (ac_W_at hw)
    show H[ad i]? = some (vp_cell _ (N, .inl g))
    have e9 : (Array.ofFn (n := N) fun j => Value.int (f j.val)) = Array.ofFn (n := N) fun j => Value.int (g j.val) := by
      congr 1
      funext j
      rw [hfg j.val j.isLt]
    rw [h2, vp_cell_i, vp_cell_i]
    unfold arrV
    rw [e9]
  · refine hP i q ?_
    rw [← hq, ac_W_get, ac_W_get, List.getElem?_set_ne (fun e => hi e.symm)]
theorem aw_iconst {z : Int} {v : Int32} (hd : decode cc pc = .ok (.iconst z, 1)) (hv : Int32.ofInt z = v) (k : AW d own cc mL rt n Po (pc + 1) loc (.int v :: st) w) : AW d own cc mL rt n Po (pc) loc (st) w := by
  intro p l e s m args below meth c D cI cB ad A C H locs ls hn hP hD hS hl
  exact lv_iconst C.1 C.2.1  hd hv (k p l e s m args below meth c D cI cB ad A C H locs ls hn hP hD hS hl)
theorem aw_bipush {z : Int} {v : Int32} (hd : decode cc pc = .ok (.bipush z, 2)) (hv : (Int8.ofInt z).toInt32 = v) (k : AW d own cc mL rt n Po (pc + 2) loc (.int v :: st) w) : AW d own cc mL rt n Po (pc) loc (st) w := by
  intro p l e s m args below meth c D cI cB ad A C H locs ls hn hP hD hS hl
  exact lv_bipush C.1 C.2.1  hd hv (k p l e s m args below meth c D cI cB ad A C H locs ls hn hP hD hS hl)
theorem aw_sipush {z : Int} {v : Int32} (hd : decode cc pc = .ok (.sipush z, 3)) (hv : (Int16.ofInt z).toInt32 = v) (k : AW d own cc mL rt n Po (pc + 3) loc (.int v :: st) w) : AW d own cc mL rt n Po (pc) loc (st) w := by
  intro p l e s m args below meth c D cI cB ad A C H locs ls hn hP hD hS hl
  exact lv_sipush C.1 C.2.1  hd hv (k p l e s m args below meth c D cI cB ad A C H locs ls hn hP hD hS hl)
theorem aw_ldc {i : Nat} {v : Int32} (hc : Cond.constant own i v ∈ gw_L) (hd : decode cc pc = .ok (.ldc i, 2)) (k : AW d own cc mL rt n Po (pc + 2) loc (.int v :: st) w) : AW d own cc mL rt n Po (pc) loc (st) w := by
  intro p l e s m args below meth c D cI cB ad A C H locs ls hn hP hD hS hl
  exact lv_ldc C.1 C.2.1 C.2.2.2.2.1 (C.2.2.2.2.2.2.1 _ hc) hd (k p l e s m args below meth c D cI cB ad A C H locs ls hn hP hD hS hl)
theorem aw_ldcw {i : Nat} {v : Int32} (hc : Cond.constant own i v ∈ gw_L) (hd : decode cc pc = .ok (.ldc_w i, 3)) (k : AW d own cc mL rt n Po (pc + 3) loc (.int v :: st) w) : AW d own cc mL rt n Po (pc) loc (st) w := by
  intro p l e s m args below meth c D cI cB ad A C H locs ls hn hP hD hS hl
  exact lv_ldcw C.1 C.2.1 C.2.2.2.2.1 (C.2.2.2.2.2.2.1 _ hc) hd (k p l e s m args below meth c D cI cB ad A C H locs ls hn hP hD hS hl)
theorem aw_ldc2 {i : Nat} {v : Int64} (hc : Cond.constantLong own i v ∈ gw_L) (hd : decode cc pc = .ok (.ldc2_w i, 3)) (k : AW d own cc mL rt n Po (pc + 3) loc (.long v :: st) w) : AW d own cc mL rt n Po (pc) loc (st) w := by
  intro p l e s m args below meth c D cI cB ad A C H locs ls hn hP hD hS hl
  exact lv_ldc2 C.1 C.2.1 C.2.2.2.2.1 (C.2.2.2.2.2.2.1 _ hc) hd (k p l e s m args below meth c D cI cB ad A C H locs ls hn hP hD hS hl)
theorem aw_iadd {x y : Int32} (hd : decode cc pc = .ok (.iadd, 1))  (k : AW d own cc mL rt n Po (pc + 1) loc (.int (x + y) :: st) w) : AW d own cc mL rt n Po (pc) loc (.int y :: .int x :: st) w := by
  intro p l e s m args below meth c D cI cB ad A C H locs ls hn hP hD hS hl
  exact lv_iadd C.1 C.2.1  hd  (k p l e s m args below meth c D cI cB ad A C H locs ls hn hP hD hS hl)
theorem aw_isub {x y : Int32} (hd : decode cc pc = .ok (.isub, 1))  (k : AW d own cc mL rt n Po (pc + 1) loc (.int (x - y) :: st) w) : AW d own cc mL rt n Po (pc) loc (.int y :: .int x :: st) w := by
  intro p l e s m args below meth c D cI cB ad A C H locs ls hn hP hD hS hl
  exact lv_isub C.1 C.2.1  hd  (k p l e s m args below meth c D cI cB ad A C H locs ls hn hP hD hS hl)
theorem aw_imul {x y : Int32} (hd : decode cc pc = .ok (.imul, 1))  (k : AW d own cc mL rt n Po (pc + 1) loc (.int (x * y) :: st) w) : AW d own cc mL rt n Po (pc) loc (.int y :: .int x :: st) w := by
  intro p l e s m args below meth c D cI cB ad A C H locs ls hn hP hD hS hl
  exact lv_imul C.1 C.2.1  hd  (k p l e s m args below meth c D cI cB ad A C H locs ls hn hP hD hS hl)
theorem aw_iand {x y : Int32} (hd : decode cc pc = .ok (.iand, 1))  (k : AW d own cc mL rt n Po (pc + 1) loc (.int (x &&& y) :: st) w) : AW d own cc mL rt n Po (pc) loc (.int y :: .int x :: st) w := by
  intro p l e s m args below meth c D cI cB ad A C H locs ls hn hP hD hS hl
  exact lv_iand C.1 C.2.1  hd  (k p l e s m args below meth c D cI cB ad A C H locs ls hn hP hD hS hl)
theorem aw_ior {x y : Int32} (hd : decode cc pc = .ok (.ior, 1))  (k : AW d own cc mL rt n Po (pc + 1) loc (.int (x ||| y) :: st) w) : AW d own cc mL rt n Po (pc) loc (.int y :: .int x :: st) w := by
  intro p l e s m args below meth c D cI cB ad A C H locs ls hn hP hD hS hl
  exact lv_ior C.1 C.2.1  hd  (k p l e s m args below meth c D cI cB ad A C H locs ls hn hP hD hS hl)
theorem aw_ixor {x y : Int32} (hd : decode cc pc = .ok (.ixor, 1))  (k : AW d own cc mL rt n Po (pc + 1) loc (.int (x ^^^ y) :: st) w) : AW d own cc mL rt n Po (pc) loc (.int y :: .int x :: st) w := by
  intro p l e s m args below meth c D cI cB ad A C H locs ls hn hP hD hS hl
  exact lv_ixor C.1 C.2.1  hd  (k p l e s m args below meth c D cI cB ad A C H locs ls hn hP hD hS hl)
theorem aw_ishl {x y : Int32} (hd : decode cc pc = .ok (.ishl, 1))  (k : AW d own cc mL rt n Po (pc + 1) loc (.int (x <<< (y &&& 31)) :: st) w) : AW d own cc mL rt n Po (pc) loc (.int y :: .int x :: st) w := by
  intro p l e s m args below meth c D cI cB ad A C H locs ls hn hP hD hS hl
  exact lv_ishl C.1 C.2.1  hd  (k p l e s m args below meth c D cI cB ad A C H locs ls hn hP hD hS hl)
theorem aw_ishr {x y : Int32} (hd : decode cc pc = .ok (.ishr, 1))  (k : AW d own cc mL rt n Po (pc + 1) loc (.int (x >>> (y &&& 31)) :: st) w) : AW d own cc mL rt n Po (pc) loc (.int y :: .int x :: st) w := by
  intro p l e s m args below meth c D cI cB ad A C H locs ls hn hP hD hS hl
  exact lv_ishr C.1 C.2.1  hd  (k p l e s m args below meth c D cI cB ad A C H locs ls hn hP hD hS hl)
theorem aw_iushr {x y : Int32} (hd : decode cc pc = .ok (.iushr, 1))  (k : AW d own cc mL rt n Po (pc + 1) loc (.int ((x.toUInt32 >>> (y.toUInt32 &&& Int32.toUInt32 31)).toInt32) :: st) w) : AW d own cc mL rt n Po (pc) loc (.int y :: .int x :: st) w := by
  intro p l e s m args below meth c D cI cB ad A C H locs ls hn hP hD hS hl
  exact lv_iushr C.1 C.2.1  hd rfl (k p l e s m args below meth c D cI cB ad A C H locs ls hn hP hD hS hl)
theorem aw_idiv {x y : Int32} (hd : decode cc pc = .ok (.idiv, 1)) (hne : ¬ y = 0) (k : AW d own cc mL rt n Po (pc + 1) loc (.int (x / y) :: st) w) : AW d own cc mL rt n Po (pc) loc (.int y :: .int x :: st) w := by
  intro p l e s m args below meth c D cI cB ad A C H locs ls hn hP hD hS hl
  exact lv_idiv C.1 C.2.1  hd hne (k p l e s m args below meth c D cI cB ad A C H locs ls hn hP hD hS hl)
theorem aw_irem {x y : Int32} (hd : decode cc pc = .ok (.irem, 1)) (hne : ¬ y = 0) (k : AW d own cc mL rt n Po (pc + 1) loc (.int (x - x / y * y) :: st) w) : AW d own cc mL rt n Po (pc) loc (.int y :: .int x :: st) w := by
  intro p l e s m args below meth c D cI cB ad A C H locs ls hn hP hD hS hl
  exact lv_irem C.1 C.2.1  hd hne (k p l e s m args below meth c D cI cB ad A C H locs ls hn hP hD hS hl)
theorem aw_ladd {x y : Int64} (hd : decode cc pc = .ok (.ladd, 1))  (k : AW d own cc mL rt n Po (pc + 1) loc (.long (x + y) :: st) w) : AW d own cc mL rt n Po (pc) loc (.long y :: .long x :: st) w := by
  intro p l e s m args below meth c D cI cB ad A C H locs ls hn hP hD hS hl
  exact lv_ladd C.1 C.2.1  hd  (k p l e s m args below meth c D cI cB ad A C H locs ls hn hP hD hS hl)
theorem aw_lmul {x y : Int64} (hd : decode cc pc = .ok (.lmul, 1))  (k : AW d own cc mL rt n Po (pc + 1) loc (.long (x * y) :: st) w) : AW d own cc mL rt n Po (pc) loc (.long y :: .long x :: st) w := by
  intro p l e s m args below meth c D cI cB ad A C H locs ls hn hP hD hS hl
  exact lv_lmul C.1 C.2.1  hd  (k p l e s m args below meth c D cI cB ad A C H locs ls hn hP hD hS hl)
theorem aw_land {x y : Int64} (hd : decode cc pc = .ok (.land, 1))  (k : AW d own cc mL rt n Po (pc + 1) loc (.long (x &&& y) :: st) w) : AW d own cc mL rt n Po (pc) loc (.long y :: .long x :: st) w := by
  intro p l e s m args below meth c D cI cB ad A C H locs ls hn hP hD hS hl
  exact lv_land C.1 C.2.1  hd  (k p l e s m args below meth c D cI cB ad A C H locs ls hn hP hD hS hl)
theorem aw_ldiv {x y : Int64} (hd : decode cc pc = .ok (.ldiv, 1)) (hne : ¬ y = 0) (k : AW d own cc mL rt n Po (pc + 1) loc (.long (x / y) :: st) w) : AW d own cc mL rt n Po (pc) loc (.long y :: .long x :: st) w := by
  intro p l e s m args below meth c D cI cB ad A C H locs ls hn hP hD hS hl
  exact lv_ldiv C.1 C.2.1  hd hne (k p l e s m args below meth c D cI cB ad A C H locs ls hn hP hD hS hl)
theorem aw_lrem {x y : Int64} (hd : decode cc pc = .ok (.lrem, 1)) (hne : ¬ y = 0) (k : AW d own cc mL rt n Po (pc + 1) loc (.long (x - x / y * y) :: st) w) : AW d own cc mL rt n Po (pc) loc (.long y :: .long x :: st) w := by
  intro p l e s m args below meth c D cI cB ad A C H locs ls hn hP hD hS hl
  exact lv_lrem C.1 C.2.1  hd hne (k p l e s m args below meth c D cI cB ad A C H locs ls hn hP hD hS hl)
theorem aw_i2l {x : Int32} (hd : decode cc pc = .ok (.i2l, 1))  (k : AW d own cc mL rt n Po (pc + 1) loc (.long x.toInt64 :: st) w) : AW d own cc mL rt n Po (pc) loc (.int x :: st) w := by
  intro p l e s m args below meth c D cI cB ad A C H locs ls hn hP hD hS hl
  exact lv_i2l C.1 C.2.1  hd rfl (k p l e s m args below meth c D cI cB ad A C H locs ls hn hP hD hS hl)
theorem aw_l2i {x : Int64} (hd : decode cc pc = .ok (.l2i, 1))  (k : AW d own cc mL rt n Po (pc + 1) loc (.int x.toInt32 :: st) w) : AW d own cc mL rt n Po (pc) loc (.long x :: st) w := by
  intro p l e s m args below meth c D cI cB ad A C H locs ls hn hP hD hS hl
  exact lv_l2i C.1 C.2.1  hd rfl (k p l e s m args below meth c D cI cB ad A C H locs ls hn hP hD hS hl)
theorem aw_i2b {x : Int32} (hd : decode cc pc = .ok (.i2b, 1))  (k : AW d own cc mL rt n Po (pc + 1) loc (.int x.toInt8.toInt32 :: st) w) : AW d own cc mL rt n Po (pc) loc (.int x :: st) w := by
  intro p l e s m args below meth c D cI cB ad A C H locs ls hn hP hD hS hl
  exact lv_i2b C.1 C.2.1  hd rfl (k p l e s m args below meth c D cI cB ad A C H locs ls hn hP hD hS hl)
theorem aw_dup {v : Value} (hd : decode cc pc = .ok (.dup, 1)) (hv : v.category = 1) (k : AW d own cc mL rt n Po (pc + 1) loc (v :: v :: st) w) : AW d own cc mL rt n Po (pc) loc (v :: st) w := by
  intro p l e s m args below meth c D cI cB ad A C H locs ls hn hP hD hS hl
  exact lv_dup C.1 C.2.1  hd ((ac_v_cat ad v).trans hv) (k p l e s m args below meth c D cI cB ad A C H locs ls hn hP hD hS hl)
theorem aw_pop {v : Value} (hd : decode cc pc = .ok (.pop, 1)) (hv : v.category = 1) (k : AW d own cc mL rt n Po (pc + 1) loc (st) w) : AW d own cc mL rt n Po (pc) loc (v :: st) w := by
  intro p l e s m args below meth c D cI cB ad A C H locs ls hn hP hD hS hl
  exact lv_pop C.1 C.2.1  hd ((ac_v_cat ad v).trans hv) (k p l e s m args below meth c D cI cB ad A C H locs ls hn hP hD hS hl)
theorem aw_dup2 {v u : Value} (hd : decode cc pc = .ok (.dup2, 1)) (hv : v.category = 1) (hu : u.category = 1) (k : AW d own cc mL rt n Po (pc + 1) loc (v :: u :: v :: u :: st) w) : AW d own cc mL rt n Po (pc) loc (v :: u :: st) w := by
  intro p l e s m args below meth c D cI cB ad A C H locs ls hn hP hD hS hl
  exact lv_dup2_11 C.1 C.2.1  hd ((ac_v_cat ad v).trans hv) ((ac_v_cat ad u).trans hu) (k p l e s m args below meth c D cI cB ad A C H locs ls hn hP hD hS hl)
theorem aw_goto {off : Int} (tgt : Nat) (hd : decode cc pc = .ok (.goto off, 3)) (ht : (pc : Int) + off = (tgt : Int)) (k : AW d own cc mL rt n Po (tgt) loc (st) w) : AW d own cc mL rt n Po (pc) loc (st) w := by
  intro p l e s m args below meth c D cI cB ad A C H locs ls hn hP hD hS hl
  exact lv_goto C.1 C.2.1 hd ht (k p l e s m args below meth c D cI cB ad A C H locs ls hn hP hD hS hl)
theorem aw_icmp_eq {off : Int} {x y : Int32} (tgt : Nat) (hd : decode cc pc = .ok (.if_icmp .eq off, 3)) (ht : (pc : Int) + off = (tgt : Int)) (kt : x = y → AW d own cc mL rt n Po (tgt) loc (st) w) (kf : ¬ x = y → AW d own cc mL rt n Po (pc + 3) loc (st) w) : AW d own cc mL rt n Po (pc) loc (.int y :: .int x :: st) w := by
  intro p l e s m args below meth c D cI cB ad A C H locs ls hn hP hD hS hl
  exact lv_icmp_eq C.1 C.2.1 hd ht (fun h => kt h p l e s m args below meth c D cI cB ad A C H locs ls hn hP hD hS hl) (fun h => kf h p l e s m args below meth c D cI cB ad A C H locs ls hn hP hD hS hl)
theorem aw_if_eq {off : Int} {x : Int32} (tgt : Nat) (hd : decode cc pc = .ok (.ifCond .eq off, 3)) (ht : (pc : Int) + off = (tgt : Int)) (kt : x = 0 → AW d own cc mL rt n Po (tgt) loc (st) w) (kf : ¬ x = 0 → AW d own cc mL rt n Po (pc + 3) loc (st) w) : AW d own cc mL rt n Po (pc) loc (.int x :: st) w := by
  intro p l e s m args below meth c D cI cB ad A C H locs ls hn hP hD hS hl
  exact lv_if_eq C.1 C.2.1 hd ht (fun h => kt h p l e s m args below meth c D cI cB ad A C H locs ls hn hP hD hS hl) (fun h => kf h p l e s m args below meth c D cI cB ad A C H locs ls hn hP hD hS hl)
theorem aw_icmp_ne {off : Int} {x y : Int32} (tgt : Nat) (hd : decode cc pc = .ok (.if_icmp .ne off, 3)) (ht : (pc : Int) + off = (tgt : Int)) (kt : ¬ x = y → AW d own cc mL rt n Po (tgt) loc (st) w) (kf : x = y → AW d own cc mL rt n Po (pc + 3) loc (st) w) : AW d own cc mL rt n Po (pc) loc (.int y :: .int x :: st) w := by
  intro p l e s m args below meth c D cI cB ad A C H locs ls hn hP hD hS hl
  exact lv_icmp_ne C.1 C.2.1 hd ht (fun h => kt h p l e s m args below meth c D cI cB ad A C H locs ls hn hP hD hS hl) (fun h => kf h p l e s m args below meth c D cI cB ad A C H locs ls hn hP hD hS hl)
theorem aw_if_ne {off : Int} {x : Int32} (tgt : Nat) (hd : decode cc pc = .ok (.ifCond .ne off, 3)) (ht : (pc : Int) + off = (tgt : Int)) (kt : ¬ x = 0 → AW d own cc mL rt n Po (tgt) loc (st) w) (kf : x = 0 → AW d own cc mL rt n Po (pc + 3) loc (st) w) : AW d own cc mL rt n Po (pc) loc (.int x :: st) w := by
  intro p l e s m args below meth c D cI cB ad A C H locs ls hn hP hD hS hl
  exact lv_if_ne C.1 C.2.1 hd ht (fun h => kt h p l e s m args below meth c D cI cB ad A C H locs ls hn hP hD hS hl) (fun h => kf h p l e s m args below meth c D cI cB ad A C H locs ls hn hP hD hS hl)
theorem aw_icmp_lt {off : Int} {x y : Int32} (tgt : Nat) (hd : decode cc pc = .ok (.if_icmp .lt off, 3)) (ht : (pc : Int) + off = (tgt : Int)) (kt : x < y → AW d own cc mL rt n Po (tgt) loc (st) w) (kf : ¬ x < y → AW d own cc mL rt n Po (pc + 3) loc (st) w) : AW d own cc mL rt n Po (pc) loc (.int y :: .int x :: st) w := by
  intro p l e s m args below meth c D cI cB ad A C H locs ls hn hP hD hS hl
  exact lv_icmp_lt C.1 C.2.1 hd ht (fun h => kt h p l e s m args below meth c D cI cB ad A C H locs ls hn hP hD hS hl) (fun h => kf h p l e s m args below meth c D cI cB ad A C H locs ls hn hP hD hS hl)
theorem aw_if_lt {off : Int} {x : Int32} (tgt : Nat) (hd : decode cc pc = .ok (.ifCond .lt off, 3)) (ht : (pc : Int) + off = (tgt : Int)) (kt : x < 0 → AW d own cc mL rt n Po (tgt) loc (st) w) (kf : ¬ x < 0 → AW d own cc mL rt n Po (pc + 3) loc (st) w) : AW d own cc mL rt n Po (pc) loc (.int x :: st) w := by
  intro p l e s m args below meth c D cI cB ad A C H locs ls hn hP hD hS hl
  exact lv_if_lt C.1 C.2.1 hd ht (fun h => kt h p l e s m args below meth c D cI cB ad A C H locs ls hn hP hD hS hl) (fun h => kf h p l e s m args below meth c D cI cB ad A C H locs ls hn hP hD hS hl)
theorem aw_icmp_ge {off : Int} {x y : Int32} (tgt : Nat) (hd : decode cc pc = .ok (.if_icmp .ge off, 3)) (ht : (pc : Int) + off = (tgt : Int)) (kt : y ≤ x → AW d own cc mL rt n Po (tgt) loc (st) w) (kf : ¬ y ≤ x → AW d own cc mL rt n Po (pc + 3) loc (st) w) : AW d own cc mL rt n Po (pc) loc (.int y :: .int x :: st) w := by
  intro p l e s m args below meth c D cI cB ad A C H locs ls hn hP hD hS hl
  exact lv_icmp_ge C.1 C.2.1 hd ht (fun h => kt h p l e s m args below meth c D cI cB ad A C H locs ls hn hP hD hS hl) (fun h => kf h p l e s m args below meth c D cI cB ad A C H locs ls hn hP hD hS hl)
theorem aw_if_ge {off : Int} {x : Int32} (tgt : Nat) (hd : decode cc pc = .ok (.ifCond .ge off, 3)) (ht : (pc : Int) + off = (tgt : Int)) (kt : 0 ≤ x → AW d own cc mL rt n Po (tgt) loc (st) w) (kf : ¬ 0 ≤ x → AW d own cc mL rt n Po (pc + 3) loc (st) w) : AW d own cc mL rt n Po (pc) loc (.int x :: st) w := by
  intro p l e s m args below meth c D cI cB ad A C H locs ls hn hP hD hS hl
  exact lv_if_ge C.1 C.2.1 hd ht (fun h => kt h p l e s m args below meth c D cI cB ad A C H locs ls hn hP hD hS hl) (fun h => kf h p l e s m args below meth c D cI cB ad A C H locs ls hn hP hD hS hl)
theorem aw_icmp_gt {off : Int} {x y : Int32} (tgt : Nat) (hd : decode cc pc = .ok (.if_icmp .gt off, 3)) (ht : (pc : Int) + off = (tgt : Int)) (kt : y < x → AW d own cc mL rt n Po (tgt) loc (st) w) (kf : ¬ y < x → AW d own cc mL rt n Po (pc + 3) loc (st) w) : AW d own cc mL rt n Po (pc) loc (.int y :: .int x :: st) w := by
  intro p l e s m args below meth c D cI cB ad A C H locs ls hn hP hD hS hl
  exact lv_icmp_gt C.1 C.2.1 hd ht (fun h => kt h p l e s m args below meth c D cI cB ad A C H locs ls hn hP hD hS hl) (fun h => kf h p l e s m args below meth c D cI cB ad A C H locs ls hn hP hD hS hl)
theorem aw_if_gt {off : Int} {x : Int32} (tgt : Nat) (hd : decode cc pc = .ok (.ifCond .gt off, 3)) (ht : (pc : Int) + off = (tgt : Int)) (kt : 0 < x → AW d own cc mL rt n Po (tgt) loc (st) w) (kf : ¬ 0 < x → AW d own cc mL rt n Po (pc + 3) loc (st) w) : AW d own cc mL rt n Po (pc) loc (.int x :: st) w := by
  intro p l e s m args below meth c D cI cB ad A C H locs ls hn hP hD hS hl
  exact lv_if_gt C.1 C.2.1 hd ht (fun h => kt h p l e s m args below meth c D cI cB ad A C H locs ls hn hP hD hS hl) (fun h => kf h p l e s m args below meth c D cI cB ad A C H locs ls hn hP hD hS hl)
theorem aw_icmp_le {off : Int} {x y : Int32} (tgt : Nat) (hd : decode cc pc = .ok (.if_icmp .le off, 3)) (ht : (pc : Int) + off = (tgt : Int)) (kt : x ≤ y → AW d own cc mL rt n Po (tgt) loc (st) w) (kf : ¬ x ≤ y → AW d own cc mL rt n Po (pc + 3) loc (st) w) : AW d own cc mL rt n Po (pc) loc (.int y :: .int x :: st) w := by
  intro p l e s m args below meth c D cI cB ad A C H locs ls hn hP hD hS hl
  exact lv_icmp_le C.1 C.2.1 hd ht (fun h => kt h p l e s m args below meth c D cI cB ad A C H locs ls hn hP hD hS hl) (fun h => kf h p l e s m args below meth c D cI cB ad A C H locs ls hn hP hD hS hl)
theorem aw_if_le {off : Int} {x : Int32} (tgt : Nat) (hd : decode cc pc = .ok (.ifCond .le off, 3)) (ht : (pc : Int) + off = (tgt : Int)) (kt : x ≤ 0 → AW d own cc mL rt n Po (tgt) loc (st) w) (kf : ¬ x ≤ 0 → AW d own cc mL rt n Po (pc + 3) loc (st) w) : AW d own cc mL rt n Po (pc) loc (.int x :: st) w := by
  intro p l e s m args below meth c D cI cB ad A C H locs ls hn hP hD hS hl
  exact lv_if_le C.1 C.2.1 hd ht (fun h => kt h p l e s m args below meth c D cI cB ad A C H locs ls hn hP hD hS hl) (fun h => kf h p l e s m args below meth c D cI cB ad A C H locs ls hn hP hD hS hl)
theorem aw_iload_0 {lx : List Value} {x : Int32} (hd : decode cc pc = .ok (.iload_n 0, 1)) (k : AW d own cc mL rt n Po (pc + 1) (.int x :: lx) (.int x :: st) w) : AW d own cc mL rt n Po (pc) (.int x :: lx) (st) w := by
  intro p l e s m args below meth c D cI cB ad A C H locs ls hn hP hD hS hl
  exact lv_iload_n C.1 C.2.1 hd rfl (hl.at (j := 0) rfl (fun h => by cases h)) (k p l e s m args below meth c D cI cB ad A C H locs ls hn hP hD hS hl)
theorem aw_aload_0 {lx : List Value} {x : Nat} (hd : decode cc pc = .ok (.aload_n 0, 1)) (k : AW d own cc mL rt n Po (pc + 1) (.ref x :: lx) (.ref x :: st) w) : AW d own cc mL rt n Po (pc) (.ref x :: lx) (st) w := by
  intro p l e s m args below meth c D cI cB ad A C H locs ls hn hP hD hS hl
  exact lv_aload_n C.1 C.2.1 hd rfl (hl.at (j := 0) rfl (fun h => by cases h)) (k p l e s m args below meth c D cI cB ad A C H locs ls hn hP hD hS hl)
theorem aw_lload_0 {lx : List Value} {x : Int64} (hd : decode cc pc = .ok (.lload_n 0, 1)) (k : AW d own cc mL rt n Po (pc + 1) (.long x :: lx) (.long x :: st) w) : AW d own cc mL rt n Po (pc) (.long x :: lx) (st) w := by
  intro p l e s m args below meth c D cI cB ad A C H locs ls hn hP hD hS hl
  exact lv_lload_n C.1 C.2.1 hd rfl (hl.at (j := 0) rfl (fun h => by cases h)) (k p l e s m args below meth c D cI cB ad A C H locs ls hn hP hD hS hl)
theorem aw_istore_0 {lx : List Value} {lz : Value} {x : Int32} (hd : decode cc pc = .ok (.istore_n 0, 1)) (hm : 0 < mL) (k : AW d own cc mL rt n Po (pc + 1) (.int x :: lx) (st) w) : AW d own cc mL rt n Po (pc) (lz :: lx) (.int x :: st) w := by
  intro p l e s m args below meth c D cI cB ad A C H locs ls hn hP hD hS hl
  refine lv_istore_n C.1 C.2.1 hd rfl hl hm rfl (fun ls hl2 => ?_)
  have hl3 := ac_L.st1 (ls := ls) (v := .int x) (i := 0) (loc := lz :: lx) ?_ hl2
  · exact k p l e s m args below meth c D cI cB ad A C H locs ls hn hP hD hS hl3
  · intro j u hj hu; omega
theorem aw_astore_0 {lx : List Value} {lz : Value} {x : Nat} (hd : decode cc pc = .ok (.astore_n 0, 1)) (hm : 0 < mL) (k : AW d own cc mL rt n Po (pc + 1) (.ref x :: lx) (st) w) : AW d own cc mL rt n Po (pc) (lz :: lx) (.ref x :: st) w := by
  intro p l e s m args below meth c D cI cB ad A C H locs ls hn hP hD hS hl
  refine lv_astore_n C.1 C.2.1 hd rfl hl hm rfl (fun ls hl2 => ?_)
  have hl3 := ac_L.st1 (ls := ls) (v := .ref x) (i := 0) (loc := lz :: lx) ?_ hl2
  · exact k p l e s m args below meth c D cI cB ad A C H locs ls hn hP hD hS hl3
  · intro j u hj hu; omega
theorem aw_lstore_0 {lx : List Value} {lz ly : Value} {x : Int64} (hd : decode cc pc = .ok (.lstore_n 0, 1)) (hm : 1 < mL) (k : AW d own cc mL rt n Po (pc + 1) (.long x :: .null :: lx) (st) w) : AW d own cc mL rt n Po (pc) (lz :: ly :: lx) (.long x :: st) w := by
  intro p l e s m args below meth c D cI cB ad A C H locs ls hn hP hD hS hl
  refine lv_lstore_n C.1 C.2.1 hd rfl hl hm rfl (fun ls hl2 => ?_)
  have hl3 := ac_L.st2 (v := .long x) (i := 0) (loc := lz :: ly :: lx) ?_ hl2
  · exact k p l e s m args below meth c D cI cB ad A C H locs ls hn hP hD hS hl3
  · intro j u hj hu; omega
theorem aw_iinc_0 {lx : List Value} {x v : Int32} {z : Int} (hd : decode cc pc = .ok (.iinc 0 z, 3)) (hv : x + Int32.ofInt z = v) (hm : 0 < mL) (k : AW d own cc mL rt n Po (pc + 3) (.int v :: lx) (st) w) : AW d own cc mL rt n Po (pc) (.int x :: lx) (st) w := by
  intro p l e s m args below meth c D cI cB ad A C H locs ls hn hP hD hS hl
  obtain ⟨kk, hkk⟩ := List.getElem?_of_mem ((ac_l_mem ad (.int x :: lx) 0 (0, .int x)).mpr ⟨0, .int x, rfl, (fun h => by cases h), rfl⟩)
  refine lv_iinc C.1 C.2.1 hd hl hkk hv hm rfl (fun ls hl2 => ?_)
  have hl3 := ac_L.st1 (ls := ls) (v := .int v) (i := 0) (loc := .int x :: lx) ?_ hl2
  · exact k p l e s m args below meth c D cI cB ad A C H locs ls hn hP hD hS hl3
  · intro j u hj hu; omega
theorem aw_iload_1 {l0 : Value} {lx : List Value} {x : Int32} (hd : decode cc pc = .ok (.iload_n 1, 1)) (k : AW d own cc mL rt n Po (pc + 1) (l0 :: .int x :: lx) (.int x :: st) w) : AW d own cc mL rt n Po (pc) (l0 :: .int x :: lx) (st) w := by
  intro p l e s m args below meth c D cI cB ad A C H locs ls hn hP hD hS hl
  exact lv_iload_n C.1 C.2.1 hd rfl (hl.at (j := 1) rfl (fun h => by cases h)) (k p l e s m args below meth c D cI cB ad A C H locs ls hn hP hD hS hl)
theorem aw_aload_1 {l0 : Value} {lx : List Value} {x : Nat} (hd : decode cc pc = .ok (.aload_n 1, 1)) (k : AW d own cc mL rt n Po (pc + 1) (l0 :: .ref x :: lx) (.ref x :: st) w) : AW d own cc mL rt n Po (pc) (l0 :: .ref x :: lx) (st) w := by
  intro p l e s m args below meth c D cI cB ad A C H locs ls hn hP hD hS hl
  exact lv_aload_n C.1 C.2.1 hd rfl (hl.at (j := 1) rfl (fun h => by cases h)) (k p l e s m args below meth c D cI cB ad A C H locs ls hn hP hD hS hl)
theorem aw_lload_1 {l0 : Value} {lx : List Value} {x : Int64} (hd : decode cc pc = .ok (.lload_n 1, 1)) (k : AW d own cc mL rt n Po (pc + 1) (l0 :: .long x :: lx) (.long x :: st) w) : AW d own cc mL rt n Po (pc) (l0 :: .long x :: lx) (st) w := by
  intro p l e s m args below meth c D cI cB ad A C H locs ls hn hP hD hS hl
  exact lv_lload_n C.1 C.2.1 hd rfl (hl.at (j := 1) rfl (fun h => by cases h)) (k p l e s m args below meth c D cI cB ad A C H locs ls hn hP hD hS hl)
theorem aw_istore_1 {l0 : Value} {lx : List Value} {lz : Value} {x : Int32} (hd : decode cc pc = .ok (.istore_n 1, 1)) (hc : l0.category = 1) (hm : 1 < mL) (k : AW d own cc mL rt n Po (pc + 1) (l0 :: .int x :: lx) (st) w) : AW d own cc mL rt n Po (pc) (l0 :: lz :: lx) (.int x :: st) w := by
  intro p l e s m args below meth c D cI cB ad A C H locs ls hn hP hD hS hl
  refine lv_istore_n C.1 C.2.1 hd rfl hl hm rfl (fun ls hl2 => ?_)
  have hl3 := ac_L.st1 (ls := ls) (v := .int x) (i := 1) (loc := l0 :: lz :: lx) ?_ hl2
  · exact k p l e s m args below meth c D cI cB ad A C H locs ls hn hP hD hS hl3
  · intro j u hj hu
    obtain rfl : j = 0 := by omega
    cases hu; exact hc
theorem aw_astore_1 {l0 : Value} {lx : List Value} {lz : Value} {x : Nat} (hd : decode cc pc = .ok (.astore_n 1, 1)) (hc : l0.category = 1) (hm : 1 < mL) (k : AW d own cc mL rt n Po (pc + 1) (l0 :: .ref x :: lx) (st) w) : AW d own cc mL rt n Po (pc) (l0 :: lz :: lx) (.ref x :: st) w := by
  intro p l e s m args below meth c D cI cB ad A C H locs ls hn hP hD hS hl
  refine lv_astore_n C.1 C.2.1 hd rfl hl hm rfl (fun ls hl2 => ?_)
  have hl3 := ac_L.st1 (ls := ls) (v := .ref x) (i := 1) (loc := l0 :: lz :: lx) ?_ hl2
  · exact k p l e s m args below meth c D cI cB ad A C H locs ls hn hP hD hS hl3
  · intro j u hj hu
    obtain rfl : j = 0 := by omega
    cases hu; exact hc
theorem aw_lstore_1 {l0 : Value} {lx : List Value} {lz ly : Value} {x : Int64} (hd : decode cc pc = .ok (.lstore_n 1, 1)) (hc : l0.category = 1) (hm : 2 < mL) (k : AW d own cc mL rt n Po (pc + 1) (l0 :: .long x :: .null :: lx) (st) w) : AW d own cc mL rt n Po (pc) (l0 :: lz :: ly :: lx) (.long x :: st) w := by
  intro p l e s m args below meth c D cI cB ad A C H locs ls hn hP hD hS hl
  refine lv_lstore_n C.1 C.2.1 hd rfl hl hm rfl (fun ls hl2 => ?_)
  have hl3 := ac_L.st2 (v := .long x) (i := 1) (loc := l0 :: lz :: ly :: lx) ?_ hl2
  · exact k p l e s m args below meth c D cI cB ad A C H locs ls hn hP hD hS hl3
  · intro j u hj hu
    obtain rfl : j = 0 := by omega
    cases hu; exact hc
theorem aw_iinc_1 {l0 : Value} {lx : List Value} {x v : Int32} {z : Int} (hd : decode cc pc = .ok (.iinc 1 z, 3)) (hv : x + Int32.ofInt z = v) (hc : l0.category = 1) (hm : 1 < mL) (k : AW d own cc mL rt n Po (pc + 3) (l0 :: .int v :: lx) (st) w) : AW d own cc mL rt n Po (pc) (l0 :: .int x :: lx) (st) w := by
  intro p l e s m args below meth c D cI cB ad A C H locs ls hn hP hD hS hl
  obtain ⟨kk, hkk⟩ := List.getElem?_of_mem ((ac_l_mem ad (l0 :: .int x :: lx) 0 (1, .int x)).mpr ⟨1, .int x, rfl, (fun h => by cases h), rfl⟩)
  refine lv_iinc C.1 C.2.1 hd hl hkk hv hm rfl (fun ls hl2 => ?_)
  have hl3 := ac_L.st1 (ls := ls) (v := .int v) (i := 1) (loc := l0 :: .int x :: lx) ?_ hl2
  · exact k p l e s m args below meth c D cI cB ad A C H locs ls hn hP hD hS hl3
  · intro j u hj hu
    obtain rfl : j = 0 := by omega
    cases hu; exact hc
theorem aw_iload_2 {l0 l1 : Value} {lx : List Value} {x : Int32} (hd : decode cc pc = .ok (.iload_n 2, 1)) (k : AW d own cc mL rt n Po (pc + 1) (l0 :: l1 :: .int x :: lx) (.int x :: st) w) : AW d own cc mL rt n Po (pc) (l0 :: l1 :: .int x :: lx) (st) w := by
  intro p l e s m args below meth c D cI cB ad A C H locs ls hn hP hD hS hl
  exact lv_iload_n C.1 C.2.1 hd rfl (hl.at (j := 2) rfl (fun h => by cases h)) (k p l e s m args below meth c D cI cB ad A C H locs ls hn hP hD hS hl)
theorem aw_aload_2 {l0 l1 : Value} {lx : List Value} {x : Nat} (hd : decode cc pc = .ok (.aload_n 2, 1)) (k : AW d own cc mL rt n Po (pc + 1) (l0 :: l1 :: .ref x :: lx) (.ref x :: st) w) : AW d own cc mL rt n Po (pc) (l0 :: l1 :: .ref x :: lx) (st) w := by
  intro p l e s m args below meth c D cI cB ad A C H locs ls hn hP hD hS hl
  exact lv_aload_n C.1 C.2.1 hd rfl (hl.at (j := 2) rfl (fun h => by cases h)) (k p l e s m args below meth c D cI cB ad A C H locs ls hn hP hD hS hl)
theorem aw_lload_2 {l0 l1 : Value} {lx : List Value} {x : Int64} (hd : decode cc pc = .ok (.lload_n 2, 1)) (k : AW d own cc mL rt n Po (pc + 1) (l0 :: l1 :: .long x :: lx) (.long x :: st) w) : AW d own cc mL rt n Po (pc) (l0 :: l1 :: .long x :: lx) (st) w := by
  intro p l e s m args below meth c D cI cB ad A C H locs ls hn hP hD hS hl
  exact lv_lload_n C.1 C.2.1 hd rfl (hl.at (j := 2) rfl (fun h => by cases h)) (k p l e s m args below meth c D cI cB ad A C H locs ls hn hP hD hS hl)
theorem aw_istore_2 {l0 l1 : Value} {lx : List Value} {lz : Value} {x : Int32} (hd : decode cc pc = .ok (.istore_n 2, 1)) (hc : l1.category = 1) (hm : 2 < mL) (k : AW d own cc mL rt n Po (pc + 1) (l0 :: l1 :: .int x :: lx) (st) w) : AW d own cc mL rt n Po (pc) (l0 :: l1 :: lz :: lx) (.int x :: st) w := by
  intro p l e s m args below meth c D cI cB ad A C H locs ls hn hP hD hS hl
  refine lv_istore_n C.1 C.2.1 hd rfl hl hm rfl (fun ls hl2 => ?_)
  have hl3 := ac_L.st1 (ls := ls) (v := .int x) (i := 2) (loc := l0 :: l1 :: lz :: lx) ?_ hl2
  · exact k p l e s m args below meth c D cI cB ad A C H locs ls hn hP hD hS hl3
  · intro j u hj hu
    obtain rfl : j = 1 := by omega
    cases hu; exact hc
theorem aw_astore_2 {l0 l1 : Value} {lx : List Value} {lz : Value} {x : Nat} (hd : decode cc pc = .ok (.astore_n 2, 1)) (hc : l1.category = 1) (hm : 2 < mL) (k : AW d own cc mL rt n Po (pc + 1) (l0 :: l1 :: .ref x :: lx) (st) w) : AW d own cc mL rt n Po (pc) (l0 :: l1 :: lz :: lx) (.ref x :: st) w := by
  intro p l e s m args below meth c D cI cB ad A C H locs ls hn hP hD hS hl
  refine lv_astore_n C.1 C.2.1 hd rfl hl hm rfl (fun ls hl2 => ?_)
  have hl3 := ac_L.st1 (ls := ls) (v := .ref x) (i := 2) (loc := l0 :: l1 :: lz :: lx) ?_ hl2
  · exact k p l e s m args below meth c D cI cB ad A C H locs ls hn hP hD hS hl3
  · intro j u hj hu
    obtain rfl : j = 1 := by omega
    cases hu; exact hc
theorem aw_lstore_2 {l0 l1 : Value} {lx : List Value} {lz ly : Value} {x : Int64} (hd : decode cc pc = .ok (.lstore_n 2, 1)) (hc : l1.category = 1) (hm : 3 < mL) (k : AW d own cc mL rt n Po (pc + 1) (l0 :: l1 :: .long x :: .null :: lx) (st) w) : AW d own cc mL rt n Po (pc) (l0 :: l1 :: lz :: ly :: lx) (.long x :: st) w := by
  intro p l e s m args below meth c D cI cB ad A C H locs ls hn hP hD hS hl
  refine lv_lstore_n C.1 C.2.1 hd rfl hl hm rfl (fun ls hl2 => ?_)
  have hl3 := ac_L.st2 (v := .long x) (i := 2) (loc := l0 :: l1 :: lz :: ly :: lx) ?_ hl2
  · exact k p l e s m args below meth c D cI cB ad A C H locs ls hn hP hD hS hl3
  · intro j u hj hu
    obtain rfl : j = 1 := by omega
    cases hu; exact hc
theorem aw_iinc_2 {l0 l1 : Value} {lx : List Value} {x v : Int32} {z : Int} (hd : decode cc pc = .ok (.iinc 2 z, 3)) (hv : x + Int32.ofInt z = v) (hc : l1.category = 1) (hm : 2 < mL) (k : AW d own cc mL rt n Po (pc + 3) (l0 :: l1 :: .int v :: lx) (st) w) : AW d own cc mL rt n Po (pc) (l0 :: l1 :: .int x :: lx) (st) w := by
  intro p l e s m args below meth c D cI cB ad A C H locs ls hn hP hD hS hl
  obtain ⟨kk, hkk⟩ := List.getElem?_of_mem ((ac_l_mem ad (l0 :: l1 :: .int x :: lx) 0 (2, .int x)).mpr ⟨2, .int x, rfl, (fun h => by cases h), rfl⟩)
  refine lv_iinc C.1 C.2.1 hd hl hkk hv hm rfl (fun ls hl2 => ?_)
  have hl3 := ac_L.st1 (ls := ls) (v := .int v) (i := 2) (loc := l0 :: l1 :: .int x :: lx) ?_ hl2
  · exact k p l e s m args below meth c D cI cB ad A C H locs ls hn hP hD hS hl3
  · intro j u hj hu
    obtain rfl : j = 1 := by omega
    cases hu; exact hc
theorem aw_iload_3 {l0 l1 l2 : Value} {lx : List Value} {x : Int32} (hd : decode cc pc = .ok (.iload_n 3, 1)) (k : AW d own cc mL rt n Po (pc + 1) (l0 :: l1 :: l2 :: .int x :: lx) (.int x :: st) w) : AW d own cc mL rt n Po (pc) (l0 :: l1 :: l2 :: .int x :: lx) (st) w := by
  intro p l e s m args below meth c D cI cB ad A C H locs ls hn hP hD hS hl
  exact lv_iload_n C.1 C.2.1 hd rfl (hl.at (j := 3) rfl (fun h => by cases h)) (k p l e s m args below meth c D cI cB ad A C H locs ls hn hP hD hS hl)
theorem aw_aload_3 {l0 l1 l2 : Value} {lx : List Value} {x : Nat} (hd : decode cc pc = .ok (.aload_n 3, 1)) (k : AW d own cc mL rt n Po (pc + 1) (l0 :: l1 :: l2 :: .ref x :: lx) (.ref x :: st) w) : AW d own cc mL rt n Po (pc) (l0 :: l1 :: l2 :: .ref x :: lx) (st) w := by
  intro p l e s m args below meth c D cI cB ad A C H locs ls hn hP hD hS hl
  exact lv_aload_n C.1 C.2.1 hd rfl (hl.at (j := 3) rfl (fun h => by cases h)) (k p l e s m args below meth c D cI cB ad A C H locs ls hn hP hD hS hl)
theorem aw_lload_3 {l0 l1 l2 : Value} {lx : List Value} {x : Int64} (hd : decode cc pc = .ok (.lload_n 3, 1)) (k : AW d own cc mL rt n Po (pc + 1) (l0 :: l1 :: l2 :: .long x :: lx) (.long x :: st) w) : AW d own cc mL rt n Po (pc) (l0 :: l1 :: l2 :: .long x :: lx) (st) w := by
  intro p l e s m args below meth c D cI cB ad A C H locs ls hn hP hD hS hl
  exact lv_lload_n C.1 C.2.1 hd rfl (hl.at (j := 3) rfl (fun h => by cases h)) (k p l e s m args below meth c D cI cB ad A C H locs ls hn hP hD hS hl)
theorem aw_istore_3 {l0 l1 l2 : Value} {lx : List Value} {lz : Value} {x : Int32} (hd : decode cc pc = .ok (.istore_n 3, 1)) (hc : l2.category = 1) (hm : 3 < mL) (k : AW d own cc mL rt n Po (pc + 1) (l0 :: l1 :: l2 :: .int x :: lx) (st) w) : AW d own cc mL rt n Po (pc) (l0 :: l1 :: l2 :: lz :: lx) (.int x :: st) w := by
  intro p l e s m args below meth c D cI cB ad A C H locs ls hn hP hD hS hl
  refine lv_istore_n C.1 C.2.1 hd rfl hl hm rfl (fun ls hl2 => ?_)
  have hl3 := ac_L.st1 (ls := ls) (v := .int x) (i := 3) (loc := l0 :: l1 :: l2 :: lz :: lx) ?_ hl2
  · exact k p l e s m args below meth c D cI cB ad A C H locs ls hn hP hD hS hl3
  · intro j u hj hu
    obtain rfl : j = 2 := by omega
    cases hu; exact hc
theorem aw_astore_3 {l0 l1 l2 : Value} {lx : List Value} {lz : Value} {x : Nat} (hd : decode cc pc = .ok (.astore_n 3, 1)) (hc : l2.category = 1) (hm : 3 < mL) (k : AW d own cc mL rt n Po (pc + 1) (l0 :: l1 :: l2 :: .ref x :: lx) (st) w) : AW d own cc mL rt n Po (pc) (l0 :: l1 :: l2 :: lz :: lx) (.ref x :: st) w := by
  intro p l e s m args below meth c D cI cB ad A C H locs ls hn hP hD hS hl
  refine lv_astore_n C.1 C.2.1 hd rfl hl hm rfl (fun ls hl2 => ?_)
  have hl3 := ac_L.st1 (ls := ls) (v := .ref x) (i := 3) (loc := l0 :: l1 :: l2 :: lz :: lx) ?_ hl2
  · exact k p l e s m args below meth c D cI cB ad A C H locs ls hn hP hD hS hl3
  · intro j u hj hu
    obtain rfl : j = 2 := by omega
    cases hu; exact hc
theorem aw_lstore_3 {l0 l1 l2 : Value} {lx : List Value} {lz ly : Value} {x : Int64} (hd : decode cc pc = .ok (.lstore_n 3, 1)) (hc : l2.category = 1) (hm : 4 < mL) (k : AW d own cc mL rt n Po (pc + 1) (l0 :: l1 :: l2 :: .long x :: .null :: lx) (st) w) : AW d own cc mL rt n Po (pc) (l0 :: l1 :: l2 :: lz :: ly :: lx) (.long x :: st) w := by
  intro p l e s m args below meth c D cI cB ad A C H locs ls hn hP hD hS hl
  refine lv_lstore_n C.1 C.2.1 hd rfl hl hm rfl (fun ls hl2 => ?_)
  have hl3 := ac_L.st2 (v := .long x) (i := 3) (loc := l0 :: l1 :: l2 :: lz :: ly :: lx) ?_ hl2
  · exact k p l e s m args below meth c D cI cB ad A C H locs ls hn hP hD hS hl3
  · intro j u hj hu
    obtain rfl : j = 2 := by omega
    cases hu; exact hc
theorem aw_iinc_3 {l0 l1 l2 : Value} {lx : List Value} {x v : Int32} {z : Int} (hd : decode cc pc = .ok (.iinc 3 z, 3)) (hv : x + Int32.ofInt z = v) (hc : l2.category = 1) (hm : 3 < mL) (k : AW d own cc mL rt n Po (pc + 3) (l0 :: l1 :: l2 :: .int v :: lx) (st) w) : AW d own cc mL rt n Po (pc) (l0 :: l1 :: l2 :: .int x :: lx) (st) w := by
  intro p l e s m args below meth c D cI cB ad A C H locs ls hn hP hD hS hl
  obtain ⟨kk, hkk⟩ := List.getElem?_of_mem ((ac_l_mem ad (l0 :: l1 :: l2 :: .int x :: lx) 0 (3, .int x)).mpr ⟨3, .int x, rfl, (fun h => by cases h), rfl⟩)
  refine lv_iinc C.1 C.2.1 hd hl hkk hv hm rfl (fun ls hl2 => ?_)
  have hl3 := ac_L.st1 (ls := ls) (v := .int v) (i := 3) (loc := l0 :: l1 :: l2 :: .int x :: lx) ?_ hl2
  · exact k p l e s m args below meth c D cI cB ad A C H locs ls hn hP hD hS hl3
  · intro j u hj hu
    obtain rfl : j = 2 := by omega
    cases hu; exact hc
theorem aw_iload_4 {l0 l1 l2 l3 : Value} {lx : List Value} {x : Int32} (hd : decode cc pc = .ok (.iload 4, 2)) (k : AW d own cc mL rt n Po (pc + 2) (l0 :: l1 :: l2 :: l3 :: .int x :: lx) (.int x :: st) w) : AW d own cc mL rt n Po (pc) (l0 :: l1 :: l2 :: l3 :: .int x :: lx) (st) w := by
  intro p l e s m args below meth c D cI cB ad A C H locs ls hn hP hD hS hl
  exact lv_iload C.1 C.2.1 hd (hl.at (j := 4) rfl (fun h => by cases h)) (k p l e s m args below meth c D cI cB ad A C H locs ls hn hP hD hS hl)
theorem aw_aload_4 {l0 l1 l2 l3 : Value} {lx : List Value} {x : Nat} (hd : decode cc pc = .ok (.aload 4, 2)) (k : AW d own cc mL rt n Po (pc + 2) (l0 :: l1 :: l2 :: l3 :: .ref x :: lx) (.ref x :: st) w) : AW d own cc mL rt n Po (pc) (l0 :: l1 :: l2 :: l3 :: .ref x :: lx) (st) w := by
  intro p l e s m args below meth c D cI cB ad A C H locs ls hn hP hD hS hl
  exact lv_aload C.1 C.2.1 hd (hl.at (j := 4) rfl (fun h => by cases h)) (k p l e s m args below meth c D cI cB ad A C H locs ls hn hP hD hS hl)
theorem aw_lload_4 {l0 l1 l2 l3 : Value} {lx : List Value} {x : Int64} (hd : decode cc pc = .ok (.lload 4, 2)) (k : AW d own cc mL rt n Po (pc + 2) (l0 :: l1 :: l2 :: l3 :: .long x :: lx) (.long x :: st) w) : AW d own cc mL rt n Po (pc) (l0 :: l1 :: l2 :: l3 :: .long x :: lx) (st) w := by
  intro p l e s m args below meth c D cI cB ad A C H locs ls hn hP hD hS hl
  exact lv_lload C.1 C.2.1 hd (hl.at (j := 4) rfl (fun h => by cases h)) (k p l e s m args below meth c D cI cB ad A C H locs ls hn hP hD hS hl)
theorem aw_istore_4 {l0 l1 l2 l3 : Value} {lx : List Value} {lz : Value} {x : Int32} (hd : decode cc pc = .ok (.istore 4, 2)) (hc : l3.category = 1) (hm : 4 < mL) (k : AW d own cc mL rt n Po (pc + 2) (l0 :: l1 :: l2 :: l3 :: .int x :: lx) (st) w) : AW d own cc mL rt n Po (pc) (l0 :: l1 :: l2 :: l3 :: lz :: lx) (.int x :: st) w := by
  intro p l e s m args below meth c D cI cB ad A C H locs ls hn hP hD hS hl
  refine lv_istore C.1 C.2.1 hd hl hm rfl (fun ls hl2 => ?_)
  have hl3 := ac_L.st1 (ls := ls) (v := .int x) (i := 4) (loc := l0 :: l1 :: l2 :: l3 :: lz :: lx) ?_ hl2
  · exact k p l e s m args below meth c D cI cB ad A C H locs ls hn hP hD hS hl3
  · intro j u hj hu
    obtain rfl : j = 3 := by omega
    cases hu; exact hc
theorem aw_astore_4 {l0 l1 l2 l3 : Value} {lx : List Value} {lz : Value} {x : Nat} (hd : decode cc pc = .ok (.astore 4, 2)) (hc : l3.category = 1) (hm : 4 < mL) (k : AW d own cc mL rt n Po (pc + 2) (l0 :: l1 :: l2 :: l3 :: .ref x :: lx) (st) w) : AW d own cc mL rt n Po (pc) (l0 :: l1 :: l2 :: l3 :: lz :: lx) (.ref x :: st) w := by
  intro p l e s m args below meth c D cI cB ad A C H locs ls hn hP hD hS hl
  refine lv_astore C.1 C.2.1 hd hl hm rfl (fun ls hl2 => ?_)
  have hl3 := ac_L.st1 (ls := ls) (v := .ref x) (i := 4) (loc := l0 :: l1 :: l2 :: l3 :: lz :: lx) ?_ hl2
  · exact k p l e s m args below meth c D cI cB ad A C H locs ls hn hP hD hS hl3
  · intro j u hj hu
    obtain rfl : j = 3 := by omega
    cases hu; exact hc
theorem aw_lstore_4 {l0 l1 l2 l3 : Value} {lx : List Value} {lz ly : Value} {x : Int64} (hd : decode cc pc = .ok (.lstore 4, 2)) (hc : l3.category = 1) (hm : 5 < mL) (k : AW d own cc mL rt n Po (pc + 2) (l0 :: l1 :: l2 :: l3 :: .long x :: .null :: lx) (st) w) : AW d own cc mL rt n Po (pc) (l0 :: l1 :: l2 :: l3 :: lz :: ly :: lx) (.long x :: st) w := by
  intro p l e s m args below meth c D cI cB ad A C H locs ls hn hP hD hS hl
  refine lv_lstore C.1 C.2.1 hd hl hm rfl (fun ls hl2 => ?_)
  have hl3 := ac_L.st2 (v := .long x) (i := 4) (loc := l0 :: l1 :: l2 :: l3 :: lz :: ly :: lx) ?_ hl2
  · exact k p l e s m args below meth c D cI cB ad A C H locs ls hn hP hD hS hl3
  · intro j u hj hu
    obtain rfl : j = 3 := by omega
    cases hu; exact hc
theorem aw_iinc_4 {l0 l1 l2 l3 : Value} {lx : List Value} {x v : Int32} {z : Int} (hd : decode cc pc = .ok (.iinc 4 z, 3)) (hv : x + Int32.ofInt z = v) (hc : l3.category = 1) (hm : 4 < mL) (k : AW d own cc mL rt n Po (pc + 3) (l0 :: l1 :: l2 :: l3 :: .int v :: lx) (st) w) : AW d own cc mL rt n Po (pc) (l0 :: l1 :: l2 :: l3 :: .int x :: lx) (st) w := by
  intro p l e s m args below meth c D cI cB ad A C H locs ls hn hP hD hS hl
  obtain ⟨kk, hkk⟩ := List.getElem?_of_mem ((ac_l_mem ad (l0 :: l1 :: l2 :: l3 :: .int x :: lx) 0 (4, .int x)).mpr ⟨4, .int x, rfl, (fun h => by cases h), rfl⟩)
  refine lv_iinc C.1 C.2.1 hd hl hkk hv hm rfl (fun ls hl2 => ?_)
  have hl3 := ac_L.st1 (ls := ls) (v := .int v) (i := 4) (loc := l0 :: l1 :: l2 :: l3 :: .int x :: lx) ?_ hl2
  · exact k p l e s m args below meth c D cI cB ad A C H locs ls hn hP hD hS hl3
  · intro j u hj hu
    obtain rfl : j = 3 := by omega
    cases hu; exact hc
theorem aw_iload_5 {l0 l1 l2 l3 l4 : Value} {lx : List Value} {x : Int32} (hd : decode cc pc = .ok (.iload 5, 2)) (k : AW d own cc mL rt n Po (pc + 2) (l0 :: l1 :: l2 :: l3 :: l4 :: .int x :: lx) (.int x :: st) w) : AW d own cc mL rt n Po (pc) (l0 :: l1 :: l2 :: l3 :: l4 :: .int x :: lx) (st) w := by
  intro p l e s m args below meth c D cI cB ad A C H locs ls hn hP hD hS hl
  exact lv_iload C.1 C.2.1 hd (hl.at (j := 5) rfl (fun h => by cases h)) (k p l e s m args below meth c D cI cB ad A C H locs ls hn hP hD hS hl)
theorem aw_aload_5 {l0 l1 l2 l3 l4 : Value} {lx : List Value} {x : Nat} (hd : decode cc pc = .ok (.aload 5, 2)) (k : AW d own cc mL rt n Po (pc + 2) (l0 :: l1 :: l2 :: l3 :: l4 :: .ref x :: lx) (.ref x :: st) w) : AW d own cc mL rt n Po (pc) (l0 :: l1 :: l2 :: l3 :: l4 :: .ref x :: lx) (st) w := by
  intro p l e s m args below meth c D cI cB ad A C H locs ls hn hP hD hS hl
  exact lv_aload C.1 C.2.1 hd (hl.at (j := 5) rfl (fun h => by cases h)) (k p l e s m args below meth c D cI cB ad A C H locs ls hn hP hD hS hl)
theorem aw_lload_5 {l0 l1 l2 l3 l4 : Value} {lx : List Value} {x : Int64} (hd : decode cc pc = .ok (.lload 5, 2)) (k : AW d own cc mL rt n Po (pc + 2) (l0 :: l1 :: l2 :: l3 :: l4 :: .long x :: lx) (.long x :: st) w) : AW d own cc mL rt n Po (pc) (l0 :: l1 :: l2 :: l3 :: l4 :: .long x :: lx) (st) w := by
  intro p l e s m args below meth c D cI cB ad A C H locs ls hn hP hD hS hl
  exact lv_lload C.1 C.2.1 hd (hl.at (j := 5) rfl (fun h => by cases h)) (k p l e s m args below meth c D cI cB ad A C H locs ls hn hP hD hS hl)
theorem aw_istore_5 {l0 l1 l2 l3 l4 : Value} {lx : List Value} {lz : Value} {x : Int32} (hd : decode cc pc = .ok (.istore 5, 2)) (hc : l4.category = 1) (hm : 5 < mL) (k : AW d own cc mL rt n Po (pc + 2) (l0 :: l1 :: l2 :: l3 :: l4 :: .int x :: lx) (st) w) : AW d own cc mL rt n Po (pc) (l0 :: l1 :: l2 :: l3 :: l4 :: lz :: lx) (.int x :: st) w := by
  intro p l e s m args below meth c D cI cB ad A C H locs ls hn hP hD hS hl
  refine lv_istore C.1 C.2.1 hd hl hm rfl (fun ls hl2 => ?_)
  have hl3 := ac_L.st1 (ls := ls) (v := .int x) (i := 5) (loc := l0 :: l1 :: l2 :: l3 :: l4 :: lz :: lx) ?_ hl2
  · exact k p l e s m args below meth c D cI cB ad A C H locs ls hn hP hD hS hl3
  · intro j u hj hu
    obtain rfl : j = 4 := by omega
    cases hu; exact hc
theorem aw_astore_5 {l0 l1 l2 l3 l4 : Value} {lx : List Value} {lz : Value} {x : Nat} (hd : decode cc pc = .ok (.astore 5, 2)) (hc : l4.category = 1) (hm : 5 < mL) (k : AW d own cc mL rt n Po (pc + 2) (l0 :: l1 :: l2 :: l3 :: l4 :: .ref x :: lx) (st) w) : AW d own cc mL rt n Po (pc) (l0 :: l1 :: l2 :: l3 :: l4 :: lz :: lx) (.ref x :: st) w := by
  intro p l e s m args below meth c D cI cB ad A C H locs ls hn hP hD hS hl
  refine lv_astore C.1 C.2.1 hd hl hm rfl (fun ls hl2 => ?_)
  have hl3 := ac_L.st1 (ls := ls) (v := .ref x) (i := 5) (loc := l0 :: l1 :: l2 :: l3 :: l4 :: lz :: lx) ?_ hl2
  · exact k p l e s m args below meth c D cI cB ad A C H locs ls hn hP hD hS hl3
  · intro j u hj hu
    obtain rfl : j = 4 := by omega
    cases hu; exact hc
theorem aw_lstore_5 {l0 l1 l2 l3 l4 : Value} {lx : List Value} {lz ly : Value} {x : Int64} (hd : decode cc pc = .ok (.lstore 5, 2)) (hc : l4.category = 1) (hm : 6 < mL) (k : AW d own cc mL rt n Po (pc + 2) (l0 :: l1 :: l2 :: l3 :: l4 :: .long x :: .null :: lx) (st) w) : AW d own cc mL rt n Po (pc) (l0 :: l1 :: l2 :: l3 :: l4 :: lz :: ly :: lx) (.long x :: st) w := by
  intro p l e s m args below meth c D cI cB ad A C H locs ls hn hP hD hS hl
  refine lv_lstore C.1 C.2.1 hd hl hm rfl (fun ls hl2 => ?_)
  have hl3 := ac_L.st2 (v := .long x) (i := 5) (loc := l0 :: l1 :: l2 :: l3 :: l4 :: lz :: ly :: lx) ?_ hl2
  · exact k p l e s m args below meth c D cI cB ad A C H locs ls hn hP hD hS hl3
  · intro j u hj hu
    obtain rfl : j = 4 := by omega
    cases hu; exact hc
theorem aw_iinc_5 {l0 l1 l2 l3 l4 : Value} {lx : List Value} {x v : Int32} {z : Int} (hd : decode cc pc = .ok (.iinc 5 z, 3)) (hv : x + Int32.ofInt z = v) (hc : l4.category = 1) (hm : 5 < mL) (k : AW d own cc mL rt n Po (pc + 3) (l0 :: l1 :: l2 :: l3 :: l4 :: .int v :: lx) (st) w) : AW d own cc mL rt n Po (pc) (l0 :: l1 :: l2 :: l3 :: l4 :: .int x :: lx) (st) w := by
  intro p l e s m args below meth c D cI cB ad A C H locs ls hn hP hD hS hl
  obtain ⟨kk, hkk⟩ := List.getElem?_of_mem ((ac_l_mem ad (l0 :: l1 :: l2 :: l3 :: l4 :: .int x :: lx) 0 (5, .int x)).mpr ⟨5, .int x, rfl, (fun h => by cases h), rfl⟩)
  refine lv_iinc C.1 C.2.1 hd hl hkk hv hm rfl (fun ls hl2 => ?_)
  have hl3 := ac_L.st1 (ls := ls) (v := .int v) (i := 5) (loc := l0 :: l1 :: l2 :: l3 :: l4 :: .int x :: lx) ?_ hl2
  · exact k p l e s m args below meth c D cI cB ad A C H locs ls hn hP hD hS hl3
  · intro j u hj hu
    obtain rfl : j = 4 := by omega
    cases hu; exact hc
theorem aw_iload_6 {l0 l1 l2 l3 l4 l5 : Value} {lx : List Value} {x : Int32} (hd : decode cc pc = .ok (.iload 6, 2)) (k : AW d own cc mL rt n Po (pc + 2) (l0 :: l1 :: l2 :: l3 :: l4 :: l5 :: .int x :: lx) (.int x :: st) w) : AW d own cc mL rt n Po (pc) (l0 :: l1 :: l2 :: l3 :: l4 :: l5 :: .int x :: lx) (st) w := by
  intro p l e s m args below meth c D cI cB ad A C H locs ls hn hP hD hS hl
  exact lv_iload C.1 C.2.1 hd (hl.at (j := 6) rfl (fun h => by cases h)) (k p l e s m args below meth c D cI cB ad A C H locs ls hn hP hD hS hl)
theorem aw_aload_6 {l0 l1 l2 l3 l4 l5 : Value} {lx : List Value} {x : Nat} (hd : decode cc pc = .ok (.aload 6, 2)) (k : AW d own cc mL rt n Po (pc + 2) (l0 :: l1 :: l2 :: l3 :: l4 :: l5 :: .ref x :: lx) (.ref x :: st) w) : AW d own cc mL rt n Po (pc) (l0 :: l1 :: l2 :: l3 :: l4 :: l5 :: .ref x :: lx) (st) w := by
  intro p l e s m args below meth c D cI cB ad A C H locs ls hn hP hD hS hl
  exact lv_aload C.1 C.2.1 hd (hl.at (j := 6) rfl (fun h => by cases h)) (k p l e s m args below meth c D cI cB ad A C H locs ls hn hP hD hS hl)
theorem aw_lload_6 {l0 l1 l2 l3 l4 l5 : Value} {lx : List Value} {x : Int64} (hd : decode cc pc = .ok (.lload 6, 2)) (k : AW d own cc mL rt n Po (pc + 2) (l0 :: l1 :: l2 :: l3 :: l4 :: l5 :: .long x :: lx) (.long x :: st) w) : AW d own cc mL rt n Po (pc) (l0 :: l1 :: l2 :: l3 :: l4 :: l5 :: .long x :: lx) (st) w := by
  intro p l e s m args below meth c D cI cB ad A C H locs ls hn hP hD hS hl
  exact lv_lload C.1 C.2.1 hd (hl.at (j := 6) rfl (fun h => by cases h)) (k p l e s m args below meth c D cI cB ad A C H locs ls hn hP hD hS hl)
theorem aw_istore_6 {l0 l1 l2 l3 l4 l5 : Value} {lx : List Value} {lz : Value} {x : Int32} (hd : decode cc pc = .ok (.istore 6, 2)) (hc : l5.category = 1) (hm : 6 < mL) (k : AW d own cc mL rt n Po (pc + 2) (l0 :: l1 :: l2 :: l3 :: l4 :: l5 :: .int x :: lx) (st) w) : AW d own cc mL rt n Po (pc) (l0 :: l1 :: l2 :: l3 :: l4 :: l5 :: lz :: lx) (.int x :: st) w := by
  intro p l e s m args below meth c D cI cB ad A C H locs ls hn hP hD hS hl
  refine lv_istore C.1 C.2.1 hd hl hm rfl (fun ls hl2 => ?_)
  have hl3 := ac_L.st1 (ls := ls) (v := .int x) (i := 6) (loc := l0 :: l1 :: l2 :: l3 :: l4 :: l5 :: lz :: lx) ?_ hl2
  · exact k p l e s m args below meth c D cI cB ad A C H locs ls hn hP hD hS hl3
  · intro j u hj hu
    obtain rfl : j = 5 := by omega
    cases hu; exact hc
theorem aw_astore_6 {l0 l1 l2 l3 l4 l5 : Value} {lx : List Value} {lz : Value} {x : Nat} (hd : decode cc pc = .ok (.astore 6, 2)) (hc : l5.category = 1) (hm : 6 < mL) (k : AW d own cc mL rt n Po (pc + 2) (l0 :: l1 :: l2 :: l3 :: l4 :: l5 :: .ref x :: lx) (st) w) : AW d own cc mL rt n Po (pc) (l0 :: l1 :: l2 :: l3 :: l4 :: l5 :: lz :: lx) (.ref x :: st) w := by
  intro p l e s m args below meth c D cI cB ad A C H locs ls hn hP hD hS hl
  refine lv_astore C.1 C.2.1 hd hl hm rfl (fun ls hl2 => ?_)
  have hl3 := ac_L.st1 (ls := ls) (v := .ref x) (i := 6) (loc := l0 :: l1 :: l2 :: l3 :: l4 :: l5 :: lz :: lx) ?_ hl2
  · exact k p l e s m args below meth c D cI cB ad A C H locs ls hn hP hD hS hl3
  · intro j u hj hu
    obtain rfl : j = 5 := by omega
    cases hu; exact hc
theorem aw_lstore_6 {l0 l1 l2 l3 l4 l5 : Value} {lx : List Value} {lz ly : Value} {x : Int64} (hd : decode cc pc = .ok (.lstore 6, 2)) (hc : l5.category = 1) (hm : 7 < mL) (k : AW d own cc mL rt n Po (pc + 2) (l0 :: l1 :: l2 :: l3 :: l4 :: l5 :: .long x :: .null :: lx) (st) w) : AW d own cc mL rt n Po (pc) (l0 :: l1 :: l2 :: l3 :: l4 :: l5 :: lz :: ly :: lx) (.long x :: st) w := by
  intro p l e s m args below meth c D cI cB ad A C H locs ls hn hP hD hS hl
  refine lv_lstore C.1 C.2.1 hd hl hm rfl (fun ls hl2 => ?_)
  have hl3 := ac_L.st2 (v := .long x) (i := 6) (loc := l0 :: l1 :: l2 :: l3 :: l4 :: l5 :: lz :: ly :: lx) ?_ hl2
  · exact k p l e s m args below meth c D cI cB ad A C H locs ls hn hP hD hS hl3
  · intro j u hj hu
    obtain rfl : j = 5 := by omega
    cases hu; exact hc
theorem aw_iinc_6 {l0 l1 l2 l3 l4 l5 : Value} {lx : List Value} {x v : Int32} {z : Int} (hd : decode cc pc = .ok (.iinc 6 z, 3)) (hv : x + Int32.ofInt z = v) (hc : l5.category = 1) (hm : 6 < mL) (k : AW d own cc mL rt n Po (pc + 3) (l0 :: l1 :: l2 :: l3 :: l4 :: l5 :: .int v :: lx) (st) w) : AW d own cc mL rt n Po (pc) (l0 :: l1 :: l2 :: l3 :: l4 :: l5 :: .int x :: lx) (st) w := by
  intro p l e s m args below meth c D cI cB ad A C H locs ls hn hP hD hS hl
  obtain ⟨kk, hkk⟩ := List.getElem?_of_mem ((ac_l_mem ad (l0 :: l1 :: l2 :: l3 :: l4 :: l5 :: .int x :: lx) 0 (6, .int x)).mpr ⟨6, .int x, rfl, (fun h => by cases h), rfl⟩)
  refine lv_iinc C.1 C.2.1 hd hl hkk hv hm rfl (fun ls hl2 => ?_)
  have hl3 := ac_L.st1 (ls := ls) (v := .int v) (i := 6) (loc := l0 :: l1 :: l2 :: l3 :: l4 :: l5 :: .int x :: lx) ?_ hl2
  · exact k p l e s m args below meth c D cI cB ad A C H locs ls hn hP hD hS hl3
  · intro j u hj hu
    obtain rfl : j = 5 := by omega
    cases hu; exact hc
theorem aw_iload_7 {l0 l1 l2 l3 l4 l5 l6 : Value} {lx : List Value} {x : Int32} (hd : decode cc pc = .ok (.iload 7, 2)) (k : AW d own cc mL rt n Po (pc + 2) (l0 :: l1 :: l2 :: l3 :: l4 :: l5 :: l6 :: .int x :: lx) (.int x :: st) w) : AW d own cc mL rt n Po (pc) (l0 :: l1 :: l2 :: l3 :: l4 :: l5 :: l6 :: .int x :: lx) (st) w := by
  intro p l e s m args below meth c D cI cB ad A C H locs ls hn hP hD hS hl
  exact lv_iload C.1 C.2.1 hd (hl.at (j := 7) rfl (fun h => by cases h)) (k p l e s m args below meth c D cI cB ad A C H locs ls hn hP hD hS hl)
theorem aw_aload_7 {l0 l1 l2 l3 l4 l5 l6 : Value} {lx : List Value} {x : Nat} (hd : decode cc pc = .ok (.aload 7, 2)) (k : AW d own cc mL rt n Po (pc + 2) (l0 :: l1 :: l2 :: l3 :: l4 :: l5 :: l6 :: .ref x :: lx) (.ref x :: st) w) : AW d own cc mL rt n Po (pc) (l0 :: l1 :: l2 :: l3 :: l4 :: l5 :: l6 :: .ref x :: lx) (st) w := by
  intro p l e s m args below meth c D cI cB ad A C H locs ls hn hP hD hS hl
  exact lv_aload C.1 C.2.1 hd (hl.at (j := 7) rfl (fun h => by cases h)) (k p l e s m args below meth c D cI cB ad A C H locs ls hn hP hD hS hl)
theorem aw_lload_7 {l0 l1 l2 l3 l4 l5 l6 : Value} {lx : List Value} {x : Int64} (hd : decode cc pc = .ok (.lload 7, 2)) (k : AW d own cc mL rt n Po (pc + 2) (l0 :: l1 :: l2 :: l3 :: l4 :: l5 :: l6 :: .long x :: lx) (.long x :: st) w) : AW d own cc mL rt n Po (pc) (l0 :: l1 :: l2 :: l3 :: l4 :: l5 :: l6 :: .long x :: lx) (st) w := by
  intro p l e s m args below meth c D cI cB ad A C H locs ls hn hP hD hS hl
  exact lv_lload C.1 C.2.1 hd (hl.at (j := 7) rfl (fun h => by cases h)) (k p l e s m args below meth c D cI cB ad A C H locs ls hn hP hD hS hl)
theorem aw_istore_7 {l0 l1 l2 l3 l4 l5 l6 : Value} {lx : List Value} {lz : Value} {x : Int32} (hd : decode cc pc = .ok (.istore 7, 2)) (hc : l6.category = 1) (hm : 7 < mL) (k : AW d own cc mL rt n Po (pc + 2) (l0 :: l1 :: l2 :: l3 :: l4 :: l5 :: l6 :: .int x :: lx) (st) w) : AW d own cc mL rt n Po (pc) (l0 :: l1 :: l2 :: l3 :: l4 :: l5 :: l6 :: lz :: lx) (.int x :: st) w := by
  intro p l e s m args below meth c D cI cB ad A C H locs ls hn hP hD hS hl
  refine lv_istore C.1 C.2.1 hd hl hm rfl (fun ls hl2 => ?_)
  have hl3 := ac_L.st1 (ls := ls) (v := .int x) (i := 7) (loc := l0 :: l1 :: l2 :: l3 :: l4 :: l5 :: l6 :: lz :: lx) ?_ hl2
  · exact k p l e s m args below meth c D cI cB ad A C H locs ls hn hP hD hS hl3
  · intro j u hj hu
    obtain rfl : j = 6 := by omega
    cases hu; exact hc
theorem aw_astore_7 {l0 l1 l2 l3 l4 l5 l6 : Value} {lx : List Value} {lz : Value} {x : Nat} (hd : decode cc pc = .ok (.astore 7, 2)) (hc : l6.category = 1) (hm : 7 < mL) (k : AW d own cc mL rt n Po (pc + 2) (l0 :: l1 :: l2 :: l3 :: l4 :: l5 :: l6 :: .ref x :: lx) (st) w) : AW d own cc mL rt n Po (pc) (l0 :: l1 :: l2 :: l3 :: l4 :: l5 :: l6 :: lz :: lx) (.ref x :: st) w := by
  intro p l e s m args below meth c D cI cB ad A C H locs ls hn hP hD hS hl
  refine lv_astore C.1 C.2.1 hd hl hm rfl (fun ls hl2 => ?_)
  have hl3 := ac_L.st1 (ls := ls) (v := .ref x) (i := 7) (loc := l0 :: l1 :: l2 :: l3 :: l4 :: l5 :: l6 :: lz :: lx) ?_ hl2
  · exact k p l e s m args below meth c D cI cB ad A C H locs ls hn hP hD hS hl3
  · intro j u hj hu
    obtain rfl : j = 6 := by omega
    cases hu; exact hc
theorem aw_lstore_7 {l0 l1 l2 l3 l4 l5 l6 : Value} {lx : List Value} {lz ly : Value} {x : Int64} (hd : decode cc pc = .ok (.lstore 7, 2)) (hc : l6.category = 1) (hm : 8 < mL) (k : AW d own cc mL rt n Po (pc + 2) (l0 :: l1 :: l2 :: l3 :: l4 :: l5 :: l6 :: .long x :: .null :: lx) (st) w) : AW d own cc mL rt n Po (pc) (l0 :: l1 :: l2 :: l3 :: l4 :: l5 :: l6 :: lz :: ly :: lx) (.long x :: st) w := by
  intro p l e s m args below meth c D cI cB ad A C H locs ls hn hP hD hS hl
  refine lv_lstore C.1 C.2.1 hd hl hm rfl (fun ls hl2 => ?_)
  have hl3 := ac_L.st2 (v := .long x) (i := 7) (loc := l0 :: l1 :: l2 :: l3 :: l4 :: l5 :: l6 :: lz :: ly :: lx) ?_ hl2
  · exact k p l e s m args below meth c D cI cB ad A C H locs ls hn hP hD hS hl3
  · intro j u hj hu
    obtain rfl : j = 6 := by omega
    cases hu; exact hc
theorem aw_iinc_7 {l0 l1 l2 l3 l4 l5 l6 : Value} {lx : List Value} {x v : Int32} {z : Int} (hd : decode cc pc = .ok (.iinc 7 z, 3)) (hv : x + Int32.ofInt z = v) (hc : l6.category = 1) (hm : 7 < mL) (k : AW d own cc mL rt n Po (pc + 3) (l0 :: l1 :: l2 :: l3 :: l4 :: l5 :: l6 :: .int v :: lx) (st) w) : AW d own cc mL rt n Po (pc) (l0 :: l1 :: l2 :: l3 :: l4 :: l5 :: l6 :: .int x :: lx) (st) w := by
  intro p l e s m args below meth c D cI cB ad A C H locs ls hn hP hD hS hl
  obtain ⟨kk, hkk⟩ := List.getElem?_of_mem ((ac_l_mem ad (l0 :: l1 :: l2 :: l3 :: l4 :: l5 :: l6 :: .int x :: lx) 0 (7, .int x)).mpr ⟨7, .int x, rfl, (fun h => by cases h), rfl⟩)
  refine lv_iinc C.1 C.2.1 hd hl hkk hv hm rfl (fun ls hl2 => ?_)
  have hl3 := ac_L.st1 (ls := ls) (v := .int v) (i := 7) (loc := l0 :: l1 :: l2 :: l3 :: l4 :: l5 :: l6 :: .int x :: lx) ?_ hl2
  · exact k p l e s m args below meth c D cI cB ad A C H locs ls hn hP hD hS hl3
  · intro j u hj hu
    obtain rfl : j = 6 := by omega
    cases hu; exact hc
theorem aw_iload_8 {l0 l1 l2 l3 l4 l5 l6 l7 : Value} {lx : List Value} {x : Int32} (hd : decode cc pc = .ok (.iload 8, 2)) (k : AW d own cc mL rt n Po (pc + 2) (l0 :: l1 :: l2 :: l3 :: l4 :: l5 :: l6 :: l7 :: .int x :: lx) (.int x :: st) w) : AW d own cc mL rt n Po (pc) (l0 :: l1 :: l2 :: l3 :: l4 :: l5 :: l6 :: l7 :: .int x :: lx) (st) w := by
  intro p l e s m args below meth c D cI cB ad A C H locs ls hn hP hD hS hl
  exact lv_iload C.1 C.2.1 hd (hl.at (j := 8) rfl (fun h => by cases h)) (k p l e s m args below meth c D cI cB ad A C H locs ls hn hP hD hS hl)
theorem aw_aload_8 {l0 l1 l2 l3 l4 l5 l6 l7 : Value} {lx : List Value} {x : Nat} (hd : decode cc pc = .ok (.aload 8, 2)) (k : AW d own cc mL rt n Po (pc + 2) (l0 :: l1 :: l2 :: l3 :: l4 :: l5 :: l6 :: l7 :: .ref x :: lx) (.ref x :: st) w) : AW d own cc mL rt n Po (pc) (l0 :: l1 :: l2 :: l3 :: l4 :: l5 :: l6 :: l7 :: .ref x :: lx) (st) w := by
  intro p l e s m args below meth c D cI cB ad A C H locs ls hn hP hD hS hl
  exact lv_aload C.1 C.2.1 hd (hl.at (j := 8) rfl (fun h => by cases h)) (k p l e s m args below meth c D cI cB ad A C H locs ls hn hP hD hS hl)
theorem aw_lload_8 {l0 l1 l2 l3 l4 l5 l6 l7 : Value} {lx : List Value} {x : Int64} (hd : decode cc pc = .ok (.lload 8, 2)) (k : AW d own cc mL rt n Po (pc + 2) (l0 :: l1 :: l2 :: l3 :: l4 :: l5 :: l6 :: l7 :: .long x :: lx) (.long x :: st) w) : AW d own cc mL rt n Po (pc) (l0 :: l1 :: l2 :: l3 :: l4 :: l5 :: l6 :: l7 :: .long x :: lx) (st) w := by
  intro p l e s m args below meth c D cI cB ad A C H locs ls hn hP hD hS hl
  exact lv_lload C.1 C.2.1 hd (hl.at (j := 8) rfl (fun h => by cases h)) (k p l e s m args below meth c D cI cB ad A C H locs ls hn hP hD hS hl)
theorem aw_istore_8 {l0 l1 l2 l3 l4 l5 l6 l7 : Value} {lx : List Value} {lz : Value} {x : Int32} (hd : decode cc pc = .ok (.istore 8, 2)) (hc : l7.category = 1) (hm : 8 < mL) (k : AW d own cc mL rt n Po (pc + 2) (l0 :: l1 :: l2 :: l3 :: l4 :: l5 :: l6 :: l7 :: .int x :: lx) (st) w) : AW d own cc mL rt n Po (pc) (l0 :: l1 :: l2 :: l3 :: l4 :: l5 :: l6 :: l7 :: lz :: lx) (.int x :: st) w := by
  intro p l e s m args below meth c D cI cB ad A C H locs ls hn hP hD hS hl
  refine lv_istore C.1 C.2.1 hd hl hm rfl (fun ls hl2 => ?_)
  have hl3 := ac_L.st1 (ls := ls) (v := .int x) (i := 8) (loc := l0 :: l1 :: l2 :: l3 :: l4 :: l5 :: l6 :: l7 :: lz :: lx) ?_ hl2
  · exact k p l e s m args below meth c D cI cB ad A C H locs ls hn hP hD hS hl3
  · intro j u hj hu
    obtain rfl : j = 7 := by omega
    cases hu; exact hc
theorem aw_astore_8 {l0 l1 l2 l3 l4 l5 l6 l7 : Value} {lx : List Value} {lz : Value} {x : Nat} (hd : decode cc pc = .ok (.astore 8, 2)) (hc : l7.category = 1) (hm : 8 < mL) (k : AW d own cc mL rt n Po (pc + 2) (l0 :: l1 :: l2 :: l3 :: l4 :: l5 :: l6 :: l7 :: .ref x :: lx) (st) w) : AW d own cc mL rt n Po (pc) (l0 :: l1 :: l2 :: l3 :: l4 :: l5 :: l6 :: l7 :: lz :: lx) (.ref x :: st) w := by
  intro p l e s m args below meth c D cI cB ad A C H locs ls hn hP hD hS hl
  refine lv_astore C.1 C.2.1 hd hl hm rfl (fun ls hl2 => ?_)
  have hl3 := ac_L.st1 (ls := ls) (v := .ref x) (i := 8) (loc := l0 :: l1 :: l2 :: l3 :: l4 :: l5 :: l6 :: l7 :: lz :: lx) ?_ hl2
  · exact k p l e s m args below meth c D cI cB ad A C H locs ls hn hP hD hS hl3
  · intro j u hj hu
    obtain rfl : j = 7 := by omega
    cases hu; exact hc
theorem aw_lstore_8 {l0 l1 l2 l3 l4 l5 l6 l7 : Value} {lx : List Value} {lz ly : Value} {x : Int64} (hd : decode cc pc = .ok (.lstore 8, 2)) (hc : l7.category = 1) (hm : 9 < mL) (k : AW d own cc mL rt n Po (pc + 2) (l0 :: l1 :: l2 :: l3 :: l4 :: l5 :: l6 :: l7 :: .long x :: .null :: lx) (st) w) : AW d own cc mL rt n Po (pc) (l0 :: l1 :: l2 :: l3 :: l4 :: l5 :: l6 :: l7 :: lz :: ly :: lx) (.long x :: st) w := by
  intro p l e s m args below meth c D cI cB ad A C H locs ls hn hP hD hS hl
  refine lv_lstore C.1 C.2.1 hd hl hm rfl (fun ls hl2 => ?_)
  have hl3 := ac_L.st2 (v := .long x) (i := 8) (loc := l0 :: l1 :: l2 :: l3 :: l4 :: l5 :: l6 :: l7 :: lz :: ly :: lx) ?_ hl2
  · exact k p l e s m args below meth c D cI cB ad A C H locs ls hn hP hD hS hl3
  · intro j u hj hu
    obtain rfl : j = 7 := by omega
    cases hu; exact hc
theorem aw_iinc_8 {l0 l1 l2 l3 l4 l5 l6 l7 : Value} {lx : List Value} {x v : Int32} {z : Int} (hd : decode cc pc = .ok (.iinc 8 z, 3)) (hv : x + Int32.ofInt z = v) (hc : l7.category = 1) (hm : 8 < mL) (k : AW d own cc mL rt n Po (pc + 3) (l0 :: l1 :: l2 :: l3 :: l4 :: l5 :: l6 :: l7 :: .int v :: lx) (st) w) : AW d own cc mL rt n Po (pc) (l0 :: l1 :: l2 :: l3 :: l4 :: l5 :: l6 :: l7 :: .int x :: lx) (st) w := by
  intro p l e s m args below meth c D cI cB ad A C H locs ls hn hP hD hS hl
  obtain ⟨kk, hkk⟩ := List.getElem?_of_mem ((ac_l_mem ad (l0 :: l1 :: l2 :: l3 :: l4 :: l5 :: l6 :: l7 :: .int x :: lx) 0 (8, .int x)).mpr ⟨8, .int x, rfl, (fun h => by cases h), rfl⟩)
  refine lv_iinc C.1 C.2.1 hd hl hkk hv hm rfl (fun ls hl2 => ?_)
  have hl3 := ac_L.st1 (ls := ls) (v := .int v) (i := 8) (loc := l0 :: l1 :: l2 :: l3 :: l4 :: l5 :: l6 :: l7 :: .int x :: lx) ?_ hl2
  · exact k p l e s m args below meth c D cI cB ad A C H locs ls hn hP hD hS hl3
  · intro j u hj hu
    obtain rfl : j = 7 := by omega
    cases hu; exact hc
theorem aw_iload_9 {l0 l1 l2 l3 l4 l5 l6 l7 l8 : Value} {lx : List Value} {x : Int32} (hd : decode cc pc = .ok (.iload 9, 2)) (k : AW d own cc mL rt n Po (pc + 2) (l0 :: l1 :: l2 :: l3 :: l4 :: l5 :: l6 :: l7 :: l8 :: .int x :: lx) (.int x :: st) w) : AW d own cc mL rt n Po (pc) (l0 :: l1 :: l2 :: l3 :: l4 :: l5 :: l6 :: l7 :: l8 :: .int x :: lx) (st) w := by
  intro p l e s m args below meth c D cI cB ad A C H locs ls hn hP hD hS hl
  exact lv_iload C.1 C.2.1 hd (hl.at (j := 9) rfl (fun h => by cases h)) (k p l e s m args below meth c D cI cB ad A C H locs ls hn hP hD hS hl)
theorem aw_aload_9 {l0 l1 l2 l3 l4 l5 l6 l7 l8 : Value} {lx : List Value} {x : Nat} (hd : decode cc pc = .ok (.aload 9, 2)) (k : AW d own cc mL rt n Po (pc + 2) (l0 :: l1 :: l2 :: l3 :: l4 :: l5 :: l6 :: l7 :: l8 :: .ref x :: lx) (.ref x :: st) w) : AW d own cc mL rt n Po (pc) (l0 :: l1 :: l2 :: l3 :: l4 :: l5 :: l6 :: l7 :: l8 :: .ref x :: lx) (st) w := by
  intro p l e s m args below meth c D cI cB ad A C H locs ls hn hP hD hS hl
  exact lv_aload C.1 C.2.1 hd (hl.at (j := 9) rfl (fun h => by cases h)) (k p l e s m args below meth c D cI cB ad A C H locs ls hn hP hD hS hl)
theorem aw_istore_9 {l0 l1 l2 l3 l4 l5 l6 l7 l8 : Value} {lx : List Value} {lz : Value} {x : Int32} (hd : decode cc pc = .ok (.istore 9, 2)) (hc : l8.category = 1) (hm : 9 < mL) (k : AW d own cc mL rt n Po (pc + 2) (l0 :: l1 :: l2 :: l3 :: l4 :: l5 :: l6 :: l7 :: l8 :: .int x :: lx) (st) w) : AW d own cc mL rt n Po (pc) (l0 :: l1 :: l2 :: l3 :: l4 :: l5 :: l6 :: l7 :: l8 :: lz :: lx) (.int x :: st) w := by
  intro p l e s m args below meth c D cI cB ad A C H locs ls hn hP hD hS hl
  refine lv_istore C.1 C.2.1 hd hl hm rfl (fun ls hl2 => ?_)
  have hl3 := ac_L.st1 (ls := ls) (v := .int x) (i := 9) (loc := l0 :: l1 :: l2 :: l3 :: l4 :: l5 :: l6 :: l7 :: l8 :: lz :: lx) ?_ hl2
  · exact k p l e s m args below meth c D cI cB ad A C H locs ls hn hP hD hS hl3
  · intro j u hj hu
    obtain rfl : j = 8 := by omega
    cases hu; exact hc
theorem aw_astore_9 {l0 l1 l2 l3 l4 l5 l6 l7 l8 : Value} {lx : List Value} {lz : Value} {x : Nat} (hd : decode cc pc = .ok (.astore 9, 2)) (hc : l8.category = 1) (hm : 9 < mL) (k : AW d own cc mL rt n Po (pc + 2) (l0 :: l1 :: l2 :: l3 :: l4 :: l5 :: l6 :: l7 :: l8 :: .ref x :: lx) (st) w) : AW d own cc mL rt n Po (pc) (l0 :: l1 :: l2 :: l3 :: l4 :: l5 :: l6 :: l7 :: l8 :: lz :: lx) (.ref x :: st) w := by
  intro p l e s m args below meth c D cI cB ad A C H locs ls hn hP hD hS hl
  refine lv_astore C.1 C.2.1 hd hl hm rfl (fun ls hl2 => ?_)
  have hl3 := ac_L.st1 (ls := ls) (v := .ref x) (i := 9) (loc := l0 :: l1 :: l2 :: l3 :: l4 :: l5 :: l6 :: l7 :: l8 :: lz :: lx) ?_ hl2
  · exact k p l e s m args below meth c D cI cB ad A C H locs ls hn hP hD hS hl3
  · intro j u hj hu
    obtain rfl : j = 8 := by omega
    cases hu; exact hc
theorem aw_iinc_9 {l0 l1 l2 l3 l4 l5 l6 l7 l8 : Value} {lx : List Value} {x v : Int32} {z : Int} (hd : decode cc pc = .ok (.iinc 9 z, 3)) (hv : x + Int32.ofInt z = v) (hc : l8.category = 1) (hm : 9 < mL) (k : AW d own cc mL rt n Po (pc + 3) (l0 :: l1 :: l2 :: l3 :: l4 :: l5 :: l6 :: l7 :: l8 :: .int v :: lx) (st) w) : AW d own cc mL rt n Po (pc) (l0 :: l1 :: l2 :: l3 :: l4 :: l5 :: l6 :: l7 :: l8 :: .int x :: lx) (st) w := by
  intro p l e s m args below meth c D cI cB ad A C H locs ls hn hP hD hS hl
  obtain ⟨kk, hkk⟩ := List.getElem?_of_mem ((ac_l_mem ad (l0 :: l1 :: l2 :: l3 :: l4 :: l5 :: l6 :: l7 :: l8 :: .int x :: lx) 0 (9, .int x)).mpr ⟨9, .int x, rfl, (fun h => by cases h), rfl⟩)
  refine lv_iinc C.1 C.2.1 hd hl hkk hv hm rfl (fun ls hl2 => ?_)
  have hl3 := ac_L.st1 (ls := ls) (v := .int v) (i := 9) (loc := l0 :: l1 :: l2 :: l3 :: l4 :: l5 :: l6 :: l7 :: l8 :: .int x :: lx) ?_ hl2
  · exact k p l e s m args below meth c D cI cB ad A C H locs ls hn hP hD hS hl3
  · intro j u hj hu
    obtain rfl : j = 8 := by omega
    cases hu; exact hc
theorem aw_iload_10 {l0 l1 l2 l3 l4 l5 l6 l7 l8 l9 : Value} {lx : List Value} {x : Int32} (hd : decode cc pc = .ok (.iload 10, 2)) (k : AW d own cc mL rt n Po (pc + 2) (l0 :: l1 :: l2 :: l3 :: l4 :: l5 :: l6 :: l7 :: l8 :: l9 :: .int x :: lx) (.int x :: st) w) : AW d own cc mL rt n Po (pc) (l0 :: l1 :: l2 :: l3 :: l4 :: l5 :: l6 :: l7 :: l8 :: l9 :: .int x :: lx) (st) w := by
  intro p l e s m args below meth c D cI cB ad A C H locs ls hn hP hD hS hl
  exact lv_iload C.1 C.2.1 hd (hl.at (j := 10) rfl (fun h => by cases h)) (k p l e s m args below meth c D cI cB ad A C H locs ls hn hP hD hS hl)
theorem aw_aload_10 {l0 l1 l2 l3 l4 l5 l6 l7 l8 l9 : Value} {lx : List Value} {x : Nat} (hd : decode cc pc = .ok (.aload 10, 2)) (k : AW d own cc mL rt n Po (pc + 2) (l0 :: l1 :: l2 :: l3 :: l4 :: l5 :: l6 :: l7 :: l8 :: l9 :: .ref x :: lx) (.ref x :: st) w) : AW d own cc mL rt n Po (pc) (l0 :: l1 :: l2 :: l3 :: l4 :: l5 :: l6 :: l7 :: l8 :: l9 :: .ref x :: lx) (st) w := by
  intro p l e s m args below meth c D cI cB ad A C H locs ls hn hP hD hS hl
  exact lv_aload C.1 C.2.1 hd (hl.at (j := 10) rfl (fun h => by cases h)) (k p l e s m args below meth c D cI cB ad A C H locs ls hn hP hD hS hl)
theorem aw_istore_10 {l0 l1 l2 l3 l4 l5 l6 l7 l8 l9 : Value} {lx : List Value} {lz : Value} {x : Int32} (hd : decode cc pc = .ok (.istore 10, 2)) (hc : l9.category = 1) (hm : 10 < mL) (k : AW d own cc mL rt n Po (pc + 2) (l0 :: l1 :: l2 :: l3 :: l4 :: l5 :: l6 :: l7 :: l8 :: l9 :: .int x :: lx) (st) w) : AW d own cc mL rt n Po (pc) (l0 :: l1 :: l2 :: l3 :: l4 :: l5 :: l6 :: l7 :: l8 :: l9 :: lz :: lx) (.int x :: st) w := by
  intro p l e s m args below meth c D cI cB ad A C H locs ls hn hP hD hS hl
  refine lv_istore C.1 C.2.1 hd hl hm rfl (fun ls hl2 => ?_)
  have hl3 := ac_L.st1 (ls := ls) (v := .int x) (i := 10) (loc := l0 :: l1 :: l2 :: l3 :: l4 :: l5 :: l6 :: l7 :: l8 :: l9 :: lz :: lx) ?_ hl2
  · exact k p l e s m args below meth c D cI cB ad A C H locs ls hn hP hD hS hl3
  · intro j u hj hu
    obtain rfl : j = 9 := by omega
    cases hu; exact hc
theorem aw_astore_10 {l0 l1 l2 l3 l4 l5 l6 l7 l8 l9 : Value} {lx : List Value} {lz : Value} {x : Nat} (hd : decode cc pc = .ok (.astore 10, 2)) (hc : l9.category = 1) (hm : 10 < mL) (k : AW d own cc mL rt n Po (pc + 2) (l0 :: l1 :: l2 :: l3 :: l4 :: l5 :: l6 :: l7 :: l8 :: l9 :: .ref x :: lx) (st) w) : AW d own cc mL rt n Po (pc) (l0 :: l1 :: l2 :: l3 :: l4 :: l5 :: l6 :: l7 :: l8 :: l9 :: lz :: lx) (.ref x :: st) w := by
  intro p l e s m args below meth c D cI cB ad A C H locs ls hn hP hD hS hl
  refine lv_astore C.1 C.2.1 hd hl hm rfl (fun ls hl2 => ?_)
  have hl3 := ac_L.st1 (ls := ls) (v := .ref x) (i := 10) (loc := l0 :: l1 :: l2 :: l3 :: l4 :: l5 :: l6 :: l7 :: l8 :: l9 :: lz :: lx) ?_ hl2
  · exact k p l e s m args below meth c D cI cB ad A C H locs ls hn hP hD hS hl3
  · intro j u hj hu
    obtain rfl : j = 9 := by omega
    cases hu; exact hc
theorem aw_iinc_10 {l0 l1 l2 l3 l4 l5 l6 l7 l8 l9 : Value} {lx : List Value} {x v : Int32} {z : Int} (hd : decode cc pc = .ok (.iinc 10 z, 3)) (hv : x + Int32.ofInt z = v) (hc : l9.category = 1) (hm : 10 < mL) (k : AW d own cc mL rt n Po (pc + 3) (l0 :: l1 :: l2 :: l3 :: l4 :: l5 :: l6 :: l7 :: l8 :: l9 :: .int v :: lx) (st) w) : AW d own cc mL rt n Po (pc) (l0 :: l1 :: l2 :: l3 :: l4 :: l5 :: l6 :: l7 :: l8 :: l9 :: .int x :: lx) (st) w := by
  intro p l e s m args below meth c D cI cB ad A C H locs ls hn hP hD hS hl
  obtain ⟨kk, hkk⟩ := List.getElem?_of_mem ((ac_l_mem ad (l0 :: l1 :: l2 :: l3 :: l4 :: l5 :: l6 :: l7 :: l8 :: l9 :: .int x :: lx) 0 (10, .int x)).mpr ⟨10, .int x, rfl, (fun h => by cases h), rfl⟩)
  refine lv_iinc C.1 C.2.1 hd hl hkk hv hm rfl (fun ls hl2 => ?_)
  have hl3 := ac_L.st1 (ls := ls) (v := .int v) (i := 10) (loc := l0 :: l1 :: l2 :: l3 :: l4 :: l5 :: l6 :: l7 :: l8 :: l9 :: .int x :: lx) ?_ hl2
  · exact k p l e s m args below meth c D cI cB ad A C H locs ls hn hP hD hS hl3
  · intro j u hj hu
    obtain rfl : j = 9 := by omega
    cases hu; exact hc
theorem aw_iload_11 {l0 l1 l2 l3 l4 l5 l6 l7 l8 l9 l10 : Value} {lx : List Value} {x : Int32} (hd : decode cc pc = .ok (.iload 11, 2)) (k : AW d own cc mL rt n Po (pc + 2) (l0 :: l1 :: l2 :: l3 :: l4 :: l5 :: l6 :: l7 :: l8 :: l9 :: l10 :: .int x :: lx) (.int x :: st) w) : AW d own cc mL rt n Po (pc) (l0 :: l1 :: l2 :: l3 :: l4 :: l5 :: l6 :: l7 :: l8 :: l9 :: l10 :: .int x :: lx) (st) w := by
  intro p l e s m args below meth c D cI cB ad A C H locs ls hn hP hD hS hl
  exact lv_iload C.1 C.2.1 hd (hl.at (j := 11) rfl (fun h => by cases h)) (k p l e s m args below meth c D cI cB ad A C H locs ls hn hP hD hS hl)
theorem aw_aload_11 {l0 l1 l2 l3 l4 l5 l6 l7 l8 l9 l10 : Value} {lx : List Value} {x : Nat} (hd : decode cc pc = .ok (.aload 11, 2)) (k : AW d own cc mL rt n Po (pc + 2) (l0 :: l1 :: l2 :: l3 :: l4 :: l5 :: l6 :: l7 :: l8 :: l9 :: l10 :: .ref x :: lx) (.ref x :: st) w) : AW d own cc mL rt n Po (pc) (l0 :: l1 :: l2 :: l3 :: l4 :: l5 :: l6 :: l7 :: l8 :: l9 :: l10 :: .ref x :: lx) (st) w := by
  intro p l e s m args below meth c D cI cB ad A C H locs ls hn hP hD hS hl
  exact lv_aload C.1 C.2.1 hd (hl.at (j := 11) rfl (fun h => by cases h)) (k p l e s m args below meth c D cI cB ad A C H locs ls hn hP hD hS hl)
theorem aw_istore_11 {l0 l1 l2 l3 l4 l5 l6 l7 l8 l9 l10 : Value} {lx : List Value} {lz : Value} {x : Int32} (hd : decode cc pc = .ok (.istore 11, 2)) (hc : l10.category = 1) (hm : 11 < mL) (k : AW d own cc mL rt n Po (pc + 2) (l0 :: l1 :: l2 :: l3 :: l4 :: l5 :: l6 :: l7 :: l8 :: l9 :: l10 :: .int x :: lx) (st) w) : AW d own cc mL rt n Po (pc) (l0 :: l1 :: l2 :: l3 :: l4 :: l5 :: l6 :: l7 :: l8 :: l9 :: l10 :: lz :: lx) (.int x :: st) w := by
  intro p l e s m args below meth c D cI cB ad A C H locs ls hn hP hD hS hl
  refine lv_istore C.1 C.2.1 hd hl hm rfl (fun ls hl2 => ?_)
  have hl3 := ac_L.st1 (ls := ls) (v := .int x) (i := 11) (loc := l0 :: l1 :: l2 :: l3 :: l4 :: l5 :: l6 :: l7 :: l8 :: l9 :: l10 :: lz :: lx) ?_ hl2
  · exact k p l e s m args below meth c D cI cB ad A C H locs ls hn hP hD hS hl3
  · intro j u hj hu
    obtain rfl : j = 10 := by omega
    cases hu; exact hc
theorem aw_astore_11 {l0 l1 l2 l3 l4 l5 l6 l7 l8 l9 l10 : Value} {lx : List Value} {lz : Value} {x : Nat} (hd : decode cc pc = .ok (.astore 11, 2)) (hc : l10.category = 1) (hm : 11 < mL) (k : AW d own cc mL rt n Po (pc + 2) (l0 :: l1 :: l2 :: l3 :: l4 :: l5 :: l6 :: l7 :: l8 :: l9 :: l10 :: .ref x :: lx) (st) w) : AW d own cc mL rt n Po (pc) (l0 :: l1 :: l2 :: l3 :: l4 :: l5 :: l6 :: l7 :: l8 :: l9 :: l10 :: lz :: lx) (.ref x :: st) w := by
  intro p l e s m args below meth c D cI cB ad A C H locs ls hn hP hD hS hl
  refine lv_astore C.1 C.2.1 hd hl hm rfl (fun ls hl2 => ?_)
  have hl3 := ac_L.st1 (ls := ls) (v := .ref x) (i := 11) (loc := l0 :: l1 :: l2 :: l3 :: l4 :: l5 :: l6 :: l7 :: l8 :: l9 :: l10 :: lz :: lx) ?_ hl2
  · exact k p l e s m args below meth c D cI cB ad A C H locs ls hn hP hD hS hl3
  · intro j u hj hu
    obtain rfl : j = 10 := by omega
    cases hu; exact hc
theorem aw_iinc_11 {l0 l1 l2 l3 l4 l5 l6 l7 l8 l9 l10 : Value} {lx : List Value} {x v : Int32} {z : Int} (hd : decode cc pc = .ok (.iinc 11 z, 3)) (hv : x + Int32.ofInt z = v) (hc : l10.category = 1) (hm : 11 < mL) (k : AW d own cc mL rt n Po (pc + 3) (l0 :: l1 :: l2 :: l3 :: l4 :: l5 :: l6 :: l7 :: l8 :: l9 :: l10 :: .int v :: lx) (st) w) : AW d own cc mL rt n Po (pc) (l0 :: l1 :: l2 :: l3 :: l4 :: l5 :: l6 :: l7 :: l8 :: l9 :: l10 :: .int x :: lx) (st) w := by
  intro p l e s m args below meth c D cI cB ad A C H locs ls hn hP hD hS hl
  obtain ⟨kk, hkk⟩ := List.getElem?_of_mem ((ac_l_mem ad (l0 :: l1 :: l2 :: l3 :: l4 :: l5 :: l6 :: l7 :: l8 :: l9 :: l10 :: .int x :: lx) 0 (11, .int x)).mpr ⟨11, .int x, rfl, (fun h => by cases h), rfl⟩)
  refine lv_iinc C.1 C.2.1 hd hl hkk hv hm rfl (fun ls hl2 => ?_)
  have hl3 := ac_L.st1 (ls := ls) (v := .int v) (i := 11) (loc := l0 :: l1 :: l2 :: l3 :: l4 :: l5 :: l6 :: l7 :: l8 :: l9 :: l10 :: .int x :: lx) ?_ hl2
  · exact k p l e s m args below meth c D cI cB ad A C H locs ls hn hP hD hS hl3
  · intro j u hj hu
    obtain rfl : j = 10 := by omega
    cases hu; exact hc
theorem aw_iload_12 {l0 l1 l2 l3 l4 l5 l6 l7 l8 l9 l10 l11 : Value} {lx : List Value} {x : Int32} (hd : decode cc pc = .ok (.iload 12, 2)) (k : AW d own cc mL rt n Po (pc + 2) (l0 :: l1 :: l2 :: l3 :: l4 :: l5 :: l6 :: l7 :: l8 :: l9 :: l10 :: l11 :: .int x :: lx) (.int x :: st) w) : AW d own cc mL rt n Po (pc) (l0 :: l1 :: l2 :: l3 :: l4 :: l5 :: l6 :: l7 :: l8 :: l9 :: l10 :: l11 :: .int x :: lx) (st) w := by
  intro p l e s m args below meth c D cI cB ad A C H locs ls hn hP hD hS hl
  exact lv_iload C.1 C.2.1 hd (hl.at (j := 12) rfl (fun h => by cases h)) (k p l e s m args below meth c D cI cB ad A C H locs ls hn hP hD hS hl)
theorem aw_aload_12 {l0 l1 l2 l3 l4 l5 l6 l7 l8 l9 l10 l11 : Value} {lx : List Value} {x : Nat} (hd : decode cc pc = .ok (.aload 12, 2)) (k : AW d own cc mL rt n Po (pc + 2) (l0 :: l1 :: l2 :: l3 :: l4 :: l5 :: l6 :: l7 :: l8 :: l9 :: l10 :: l11 :: .ref x :: lx) (.ref x :: st) w) : AW d own cc mL rt n Po (pc) (l0 :: l1 :: l2 :: l3 :: l4 :: l5 :: l6 :: l7 :: l8 :: l9 :: l10 :: l11 :: .ref x :: lx) (st) w := by
  intro p l e s m args below meth c D cI cB ad A C H locs ls hn hP hD hS hl
  exact lv_aload C.1 C.2.1 hd (hl.at (j := 12) rfl (fun h => by cases h)) (k p l e s m args below meth c D cI cB ad A C H locs ls hn hP hD hS hl)
theorem aw_istore_12 {l0 l1 l2 l3 l4 l5 l6 l7 l8 l9 l10 l11 : Value} {lx : List Value} {lz : Value} {x : Int32} (hd : decode cc pc = .ok (.istore 12, 2)) (hc : l11.category = 1) (hm : 12 < mL) (k : AW d own cc mL rt n Po (pc + 2) (l0 :: l1 :: l2 :: l3 :: l4 :: l5 :: l6 :: l7 :: l8 :: l9 :: l10 :: l11 :: .int x :: lx) (st) w) : AW d own cc mL rt n Po (pc) (l0 :: l1 :: l2 :: l3 :: l4 :: l5 :: l6 :: l7 :: l8 :: l9 :: l10 :: l11 :: lz :: lx) (.int x :: st) w := by
  intro p l e s m args below meth c D cI cB ad A C H locs ls hn hP hD hS hl
  refine lv_istore C.1 C.2.1 hd hl hm rfl (fun ls hl2 => ?_)
  have hl3 := ac_L.st1 (ls := ls) (v := .int x) (i := 12) (loc := l0 :: l1 :: l2 :: l3 :: l4 :: l5 :: l6 :: l7 :: l8 :: l9 :: l10 :: l11 :: lz :: lx) ?_ hl2
  · exact k p l e s m args below meth c D cI cB ad A C H locs ls hn hP hD hS hl3
  · intro j u hj hu
    obtain rfl : j = 11 := by omega
    cases hu; exact hc
theorem aw_astore_12 {l0 l1 l2 l3 l4 l5 l6 l7 l8 l9 l10 l11 : Value} {lx : List Value} {lz : Value} {x : Nat} (hd : decode cc pc = .ok (.astore 12, 2)) (hc : l11.category = 1) (hm : 12 < mL) (k : AW d own cc mL rt n Po (pc + 2) (l0 :: l1 :: l2 :: l3 :: l4 :: l5 :: l6 :: l7 :: l8 :: l9 :: l10 :: l11 :: .ref x :: lx) (st) w) : AW d own cc mL rt n Po (pc) (l0 :: l1 :: l2 :: l3 :: l4 :: l5 :: l6 :: l7 :: l8 :: l9 :: l10 :: l11 :: lz :: lx) (.ref x :: st) w := by
  intro p l e s m args below meth c D cI cB ad A C H locs ls hn hP hD hS hl
  refine lv_astore C.1 C.2.1 hd hl hm rfl (fun ls hl2 => ?_)
  have hl3 := ac_L.st1 (ls := ls) (v := .ref x) (i := 12) (loc := l0 :: l1 :: l2 :: l3 :: l4 :: l5 :: l6 :: l7 :: l8 :: l9 :: l10 :: l11 :: lz :: lx) ?_ hl2
  · exact k p l e s m args below meth c D cI cB ad A C H locs ls hn hP hD hS hl3
  · intro j u hj hu
    obtain rfl : j = 11 := by omega
    cases hu; exact hc
theorem aw_iinc_12 {l0 l1 l2 l3 l4 l5 l6 l7 l8 l9 l10 l11 : Value} {lx : List Value} {x v : Int32} {z : Int} (hd : decode cc pc = .ok (.iinc 12 z, 3)) (hv : x + Int32.ofInt z = v) (hc : l11.category = 1) (hm : 12 < mL) (k : AW d own cc mL rt n Po (pc + 3) (l0 :: l1 :: l2 :: l3 :: l4 :: l5 :: l6 :: l7 :: l8 :: l9 :: l10 :: l11 :: .int v :: lx) (st) w) : AW d own cc mL rt n Po (pc) (l0 :: l1 :: l2 :: l3 :: l4 :: l5 :: l6 :: l7 :: l8 :: l9 :: l10 :: l11 :: .int x :: lx) (st) w := by
  intro p l e s m args below meth c D cI cB ad A C H locs ls hn hP hD hS hl
  obtain ⟨kk, hkk⟩ := List.getElem?_of_mem ((ac_l_mem ad (l0 :: l1 :: l2 :: l3 :: l4 :: l5 :: l6 :: l7 :: l8 :: l9 :: l10 :: l11 :: .int x :: lx) 0 (12, .int x)).mpr ⟨12, .int x, rfl, (fun h => by cases h), rfl⟩)
  refine lv_iinc C.1 C.2.1 hd hl hkk hv hm rfl (fun ls hl2 => ?_)
  have hl3 := ac_L.st1 (ls := ls) (v := .int v) (i := 12) (loc := l0 :: l1 :: l2 :: l3 :: l4 :: l5 :: l6 :: l7 :: l8 :: l9 :: l10 :: l11 :: .int x :: lx) ?_ hl2
  · exact k p l e s m args below meth c D cI cB ad A C H locs ls hn hP hD hS hl3
  · intro j u hj hu
    obtain rfl : j = 11 := by omega
    cases hu; exact hc
-- switches
theorem aw_tableIn {dflt lo hi : Int} {offs : Array Int} {len : Nat} {x : Int32} {off : Int} (tgt : Nat) (hd : decode cc pc = .ok (.tableswitch dflt lo hi offs, len)) (h1 : ¬ x.toInt < lo) (h2 : ¬ hi < x.toInt) (ho : offs[(x.toInt - lo).toNat]? = some off) (ht : (pc : Int) + off = (tgt : Int)) (k : AW d own cc mL rt n Po tgt loc st w) : AW d own cc mL rt n Po pc loc (.int x :: st) w := by
  intro p l e s m args below meth c D cI cB ad A C H locs ls hn hP hD hS hl
  exact lv_tableIn C.1 C.2.1 hd h1 h2 ho ht (k p l e s m args below meth c D cI cB ad A C H locs ls hn hP hD hS hl)
theorem aw_tableOut {dflt lo hi : Int} {offs : Array Int} {len : Nat} {x : Int32} (tgt : Nat) (hd : decode cc pc = .ok (.tableswitch dflt lo hi offs, len)) (h : x.toInt < lo ∨ hi < x.toInt) (ht : (pc : Int) + dflt = (tgt : Int)) (k : AW d own cc mL rt n Po tgt loc st w) : AW d own cc mL rt n Po pc loc (.int x :: st) w := by
  intro p l e s m args below meth c D cI cB ad A C H locs ls hn hP hD hS hl
  exact lv_tableOut C.1 C.2.1 hd h ht (k p l e s m args below meth c D cI cB ad A C H locs ls hn hP hD hS hl)
theorem aw_lookup {dflt : Int} {ps : Array (Int × Int)} {len : Nat} {x : Int32} {off : Int} (tgt : Nat) (hd : decode cc pc = .ok (.lookupswitch dflt ps, len)) (hp : (ps.toList.zip (ps.toList.drop 1)).all (fun (a, next) => a.1 < next.1) = true) (ho : Op.lookupswitch.offset ps.toList dflt x.toInt = off) (ht : (pc : Int) + off = (tgt : Int)) (k : AW d own cc mL rt n Po tgt loc st w) : AW d own cc mL rt n Po pc loc (.int x :: st) w := by
  intro p l e s m args below meth c D cI cB ad A C H locs ls hn hP hD hS hl
  exact lv_lookup C.1 C.2.1 hd hp ho ht (k p l e s m args below meth c D cI cB ad A C H locs ls hn hP hD hS hl)
-- fields
theorem aw_get {idx ci i id N : Nat} {R : String} {T : u_T} (hlk : Cond.fieldLink own idx (T i).1 (T i).2.1 (T i).2.2.1 ∈ gw_L) (hws : ∀ x ∈ u_ws R T N, x ∈ gw_L) (hc : vwCl[ci]? = some (R, T, N)) (hi : i < N) (hd : decode cc pc = .ok (.getfield idx, 3)) {fs : List Value} {v : Value} (he : w[id]? = some (.inr (ci, fs))) (hv : fs[i]? = some v)
    (k : AW d own cc mL rt n Po (pc + 3) loc (v :: st) w) : AW d own cc mL rt n Po pc loc (.ref id :: st) w := by
  intro p l e s m args below meth c D cI cB ad A C H locs ls hn hP hD hS hl
  refine va_get (D := D) C.1 C.2.1 C.2.2.2.2.2.2.1 hws C.2.2.2.2.1 C.2.2.2.2.2.2.2.1 hP id (fs := fs.map (ac_v ad)) (ac_W_at he) hc i hi (C.2.2.2.2.2.2.1 _ hlk) (fun _ h9 => h9) (v := ac_v ad v) ?_ hd (k p l e s m args below meth c D cI cB ad A C H locs ls hn hP hD hS hl)
  rw [List.getElem?_map, hv]; rfl
theorem aw_put {idx ci i id N : Nat} {R : String} {T : u_T} (hlk : Cond.fieldLink own idx (T i).1 (T i).2.1 (T i).2.2.1 ∈ gw_L) (hws : ∀ x ∈ u_ws R T N, x ∈ gw_L) (ty0 : Nat → FieldType) (hty : ∀ k, k < N → parseFieldDescriptor (T k).2.2.1 = some (ty0 k)) (hnm : ∀ a, a < N → ∀ b, b < N → a ≠ b → (T a).2.1 ≠ (T b).2.1) (hc : vwCl[ci]? = some (R, T, N)) (hi : i < N) (hfin : (T i).2.2.2 = false) {ty : FieldType} (hdesc : parseFieldDescriptor (T i).2.2.1 = some ty)
    (hd : decode cc pc = .ok (.putfield idx, 3)) {fs : List Value} {v : Value} (he : w[id]? = some (.inr (ci, fs))) (hir : i < fs.length) (hnar : ∀ ad, narrow ty (ac_v ad v) = ac_v ad v) (hfit : ∀ ad, fits ty (ac_v ad v) = true)
    (k : AW d own cc mL rt n Po (pc + 3) loc st (w.set id (.inr (ci, fs.set i v)))) : AW d own cc mL rt n Po pc loc (v :: .ref id :: st) w := by
  intro p l e s m args below meth c D cI cB ad A C H locs ls hn hP hD hS hl
  refine va_put (D := D) C.1 C.2.1 C.2.2.2.2.2.2.1 hws ty0 hty hnm C.2.2.2.2.1 C.2.2.2.2.2.2.2.1 hP hD hS id (fs := fs.map (ac_v ad)) (ac_W_at he) hc i hi (C.2.2.2.2.2.2.1 _ hlk) (fun _ h9 => h9) hfin (v := ac_v ad v) hdesc (hnar ad) (hfit ad) (by rw [List.length_map]; exact hir) hd (fun H1 locs1 hP1 hD1 hS1 => ?_)
  have ew : (ac_W cI cB ad 0 w).set id (ad id, .inr (ci, (fs.map (ac_v ad)).set i (ac_v ad v))) = ac_W cI cB ad 0 (w.set id (.inr (ci, fs.set i v))) := by
    rw [← ac_W_set]
    show _ = (ac_W cI cB ad 0 w).set id (ad id, .inr (ci, (fs.set i v).map (ac_v ad)))
    rw [List.map_set]
  rw [ew] at hP1 hD1
  exact k p l e s m args below meth c D cI cB ad A C H1 locs1 ls (by rw [List.length_set]; exact hn) hP1 hD1 hS1 hl
-- arrays
theorem aw_iald {id N : Nat} {f : Nat → Int32} {i : Int32} (hd : decode cc pc = .ok (.iaload, 1)) (he : w[id]? = some (.inl (0, N, f))) (hin : vp_in i N) (k : AW d own cc mL rt n Po (pc + 1) loc (.int (f i.toNatClampNeg) :: st) w) : AW d own cc mL rt n Po pc loc (.int i :: .ref id :: st) w := by
  intro p l e s m args below meth c D cI cB ad A C H locs ls hn hP hD hS hl
  exact va_iald (D := D) C.1 C.2.1 C.2.2.2.2.2.2.2.1 hP id 0 (ac_W_at he) rfl hin hd (k p l e s m args below meth c D cI cB ad A C H locs ls hn hP hD hS hl)
theorem aw_bald {id N : Nat} {f : Nat → Int32} {i : Int32} (hd : decode cc pc = .ok (.baload, 1)) (he : w[id]? = some (.inl (1, N, f))) (hin : vp_in i N) (k : AW d own cc mL rt n Po (pc + 1) loc (.int (f i.toNatClampNeg) :: st) w) : AW d own cc mL rt n Po pc loc (.int i :: .ref id :: st) w := by
  intro p l e s m args below meth c D cI cB ad A C H locs ls hn hP hD hS hl
  exact va_bald (D := D) C.1 C.2.1 C.2.2.2.2.2.2.2.1 hP id 1 (ac_W_at he) rfl hin hd (k p l e s m args below meth c D cI cB ad A C H locs ls hn hP hD hS hl)
theorem aw_iast {id N : Nat} {f : Nat → Int32} {i x : Int32} (hd : decode cc pc = .ok (.iastore, 1)) (he : w[id]? = some (.inl (0, N, f))) (hin : vp_in i N) (k : AW d own cc mL rt n Po (pc + 1) loc st (w.set id (.inl (0, N, upd f i.toNatClampNeg x)))) : AW d own cc mL rt n Po pc loc (.int x :: .int i :: .ref id :: st) w := by
  intro p l e s m args below meth c D cI cB ad A C H locs ls hn hP hD hS hl
  refine va_iast (D := D) C.1 C.2.1 C.2.2.2.2.2.2.2.1 hP hD hS id 0 (ac_W_at he) rfl hin hd (fun H1 locs1 hP1 hD1 hS1 => ?_)
  have ew := ac_W_set cI cB ad w id (.inl (0, N, upd f i.toNatClampNeg x))
  exact k p l e s m args below meth c D cI cB ad A C H1 locs1 ls (by rw [List.length_set]; exact hn) (ew ▸ hP1) (ew ▸ hD1) hS1 hl
theorem aw_bast {id N : Nat} {f : Nat → Int32} {i x : Int32} (hd : decode cc pc = .ok (.bastore, 1)) (he : w[id]? = some (.inl (1, N, f))) (hin : vp_in i N) (k : AW d own cc mL rt n Po (pc + 1) loc st (w.set id (.inl (1, N, upd f i.toNatClampNeg (vp_nar .byte x))))) : AW d own cc mL rt n Po pc loc (.int x :: .int i :: .ref id :: st) w := by
  intro p l e s m args below meth c D cI cB ad A C H locs ls hn hP hD hS hl
  refine va_bast (D := D) C.1 C.2.1 C.2.2.2.2.2.2.2.1 hP hD hS id 1 (ac_W_at he) rfl hin hd (fun H1 locs1 hP1 hD1 hS1 => ?_)
  have ew := ac_W_set cI cB ad w id (.inl (1, N, upd f i.toNatClampNeg (vp_nar .byte x)))
  exact k p l e s m args below meth c D cI cB ad A C H1 locs1 ls (by rw [List.length_set]; exact hn) (ew ▸ hP1) (ew ▸ hD1) hS1 hl
-- the constants of Kind
theorem aw_gets {idx i : Nat} (hi : i < 5) (hlk : Cond.fieldLink own idx "ThanksOwed$Kind" (ac_nm.getD i "") "LThanksOwed$Kind;" ∈ gw_L) (hd : decode cc pc = .ok (.getstatic idx, 3)) (k : AW d own cc mL rt n Po (pc + 3) loc (.ref (1000 + i) :: st) w) : AW d own cc mL rt n Po pc loc st w := by
  intro p l e s m args below meth c D cI cB ad A C H locs ls hn hP hD hS hl
  exact va_gets C.1 C.2.1 (C.2.2.2.2.2.2.2.2.2.1.1.1 i hi).1 hS C.2.2.2.2.1 (C.2.2.2.2.2.2.1 _ hlk) (fun _ h => h) hd (k p l e s m args below meth c D cI cB ad A C H locs ls hn hP hD hS hl)
theorem aw_kinds {idx : Nat} (hlk : Cond.fieldLink own idx "ThanksOwed" "KINDS" "[LThanksOwed$Kind;" ∈ gw_L) (hd : decode cc pc = .ok (.getstatic idx, 3)) (k : AW d own cc mL rt n Po (pc + 3) loc (.ref 1010 :: st) w) : AW d own cc mL rt n Po pc loc st w := by
  intro p l e s m args below meth c D cI cB ad A C H locs ls hn hP hD hS hl
  exact va_gets C.1 C.2.1 C.2.2.2.2.2.2.2.2.2.1.2.1 hS C.2.2.2.2.1 (C.2.2.2.2.2.2.1 _ hlk) (fun _ h => h) hd (k p l e s m args below meth c D cI cB ad A C H locs ls hn hP hD hS hl)
theorem aw_kindsN (ho : own = RX8) (hd : decode cc pc = .ok (.getstatic 55, 3)) (k : AW d own cc mL rt n Po (pc + 3) loc (.ref 1010 :: st) w) : AW d own cc mL rt n Po pc loc st w := by
  intro p l e s m args below meth c D cI cB ad A C H locs ls hn hP hD hS hl
  subst ho
  exact va_getsN C.1 C.2.1 C.2.2.2.2.2.2.2.2.2.1.2.1 hS C.2.2.2.2.1 (va_Nw.use rfl C.2.2.2.2.2.2.2.2.1.2) (fun _ h => h) hd (k p l e s m args below meth c D cI cB ad A C H locs ls hn hP hD hS hl)
theorem aw_klen (hd : decode cc pc = .ok (.arraylength, 1)) (k : AW d own cc mL rt n Po (pc + 1) loc (.int 5 :: st) w) : AW d own cc mL rt n Po pc loc (.ref 1010 :: st) w := by
  intro p l e s m args below meth c D cI cB ad A C H locs ls hn hP hD hS hl
  exact va_tlen C.1 C.2.1 C.2.2.2.2.2.2.2.2.2.1.2.2 hS (v := 5) rfl hd (k p l e s m args below meth c D cI cB ad A C H locs ls hn hP hD hS hl)
theorem aw_kald {i : Int32} (hd : decode cc pc = .ok (.aaload, 1)) (hin : vp_in i 5) (k : AW d own cc mL rt n Po (pc + 1) loc (.ref (1000 + i.toNatClampNeg) :: st) w) : AW d own cc mL rt n Po pc loc (.int i :: .ref 1010 :: st) w := by
  intro p l e s m args below meth c D cI cB ad A C H locs ls hn hP hD hS hl
  exact vb_tq C.1 C.2.1 C.2.2.2.2.2.2.2.2.2.1.2.2 hS hin rfl hd (k p l e s m args below meth c D cI cB ad A C H locs ls hn hP hD hS hl)
theorem aw_getK {idx i j : Nat} {q : String × String × String × List Int32} (hi : i < 5) (hj : ac_F[j]? = some q) (hlk : Cond.fieldLink own idx q.1 q.2.1 q.2.2.1 ∈ gw_L) (hd : decode cc pc = .ok (.getfield idx, 3)) (k : AW d own cc mL rt n Po (pc + 3) loc (.int (q.2.2.2.getD i 0) :: st) w) : AW d own cc mL rt n Po pc loc (.ref (1000 + i) :: st) w := by
  intro p l e s m args below meth c D cI cB ad A C H locs ls hn hP hD hS hl
  exact va_getE C.1 C.2.1 (i := i) C.2.2.2.2.2.2.2.2.2.1.1 hi hS C.2.2.2.2.1 (List.mem_of_getElem? hj) (C.2.2.2.2.2.2.1 _ hlk) (fun _ h => h) hd (k p l e s m args below meth c D cI cB ad A C H locs ls hn hP hD hS hl)
theorem aw_acmp_ne {i j : Nat} {off : Int} (tgt : Nat) (hi : i < 5) (hj : j < 5) (hd : decode cc pc = .ok (.if_acmp .ne off, 3)) (ht : (pc : Int) + off = (tgt : Int)) (kt : ¬ i = j → AW d own cc mL rt n Po tgt loc st w) (kf : i = j → AW d own cc mL rt n Po (pc + 3) loc st w) : AW d own cc mL rt n Po pc loc (.ref (1000 + j) :: .ref (1000 + i) :: st) w := by
  intro p l e s m args below meth c D cI cB ad A C H locs ls hn hP hD hS hl
  refine lv_acmp_ne (rx := some (ad (1000 + i))) (ry := some (ad (1000 + j))) C.1 C.2.1 hd ht (fun h => kt (fun q => h (by rw [q])) p l e s m args below meth c D cI cB ad A C H locs ls hn hP hD hS hl) (fun h => kf ?_ p l e s m args below meth c D cI cB ad A C H locs ls hn hP hD hS hl)
  exact C.2.2.2.2.2.2.2.2.2.1.1.2 i j hi hj (Option.some.inj h)
theorem aw_acmp_eq {i j : Nat} {off : Int} (tgt : Nat) (hi : i < 5) (hj : j < 5) (hd : decode cc pc = .ok (.if_acmp .eq off, 3)) (ht : (pc : Int) + off = (tgt : Int)) (kt : i = j → AW d own cc mL rt n Po tgt loc st w) (kf : ¬ i = j → AW d own cc mL rt n Po (pc + 3) loc st w) : AW d own cc mL rt n Po pc loc (.ref (1000 + j) :: .ref (1000 + i) :: st) w := by
  intro p l e s m args below meth c D cI cB ad A C H locs ls hn hP hD hS hl
  refine lv_acmp_eq (rx := some (ad (1000 + i))) (ry := some (ad (1000 + j))) C.1 C.2.1 hd ht (fun h => kt ?_ p l e s m args below meth c D cI cB ad A C H locs ls hn hP hD hS hl) (fun h => kf (fun q => h (by rw [q])) p l e s m args below meth c D cI cB ad A C H locs ls hn hP hD hS hl)
  exact C.2.2.2.2.2.2.2.2.2.1.1.2 i j hi hj (Option.some.inj h)
-- Math.min, Math.max, System.arraycopy
theorem aw_min {idx : Nat} {x y : Int32} (hlk : Cond.methodLink own idx yJ9_min_7cf53 ∈ gw_L) (hd : decode cc pc = .ok (.invokestatic idx, 3)) (hs : (st.map fun v => v.category).sum ≤ 8) (hdd : 0 < d) (k : AW d own cc mL rt n Po (pc + 3) loc (.int (if y < x then y else x) :: st) w) : AW d own cc mL rt n Po pc loc (.int y :: .int x :: st) w := by
  intro p l e s m args below meth c D cI cB ad A C H locs ls hn hP hD hS hl
  have hts := C.2.2.2.2.2.2.1
  have hsum : ((st.map (ac_v ad)).map fun v => v.category) = (st.map fun v => v.category) := by rw [List.map_map]; exact List.map_congr_left (fun v _ => ac_v_cat ad v)
  exact va_mmin C.1 C.2.1 (C.2.2.2.1.trans hl.1.symm) C.2.2.2.2.1 (hts _ hlk) (hts (.static yJ9_min_7cf53) gq_411) (hts (.initialized RJ9) gq_56) (hts (.code yJ9_min_7cf53 cJ9_min_7cf53 2 (some .int)) gq_412) (show 1 ≤ d from hdd) (by rw [hsum]; show _ + 13 ≤ 40 * d; omega) (Nat.zero_le _) (Nat.zero_le _) hd (k p l e s m args below meth c D cI cB ad A C H locs ls hn hP hD hS hl)
theorem aw_max {idx : Nat} {x y : Int32} (hlk : Cond.methodLink own idx yJ9_max_7cf53 ∈ gw_L) (hd : decode cc pc = .ok (.invokestatic idx, 3)) (hs : (st.map fun v => v.category).sum ≤ 8) (hdd : 0 < d) (k : AW d own cc mL rt n Po (pc + 3) loc (.int (if x < y then y else x) :: st) w) : AW d own cc mL rt n Po pc loc (.int y :: .int x :: st) w := by
  intro p l e s m args below meth c D cI cB ad A C H locs ls hn hP hD hS hl
  have hts := C.2.2.2.2.2.2.1
  have hsum : ((st.map (ac_v ad)).map fun v => v.category) = (st.map fun v => v.category) := by rw [List.map_map]; exact List.map_congr_left (fun v _ => ac_v_cat ad v)
  exact va_mmax C.1 C.2.1 (C.2.2.2.1.trans hl.1.symm) C.2.2.2.2.1 (hts _ hlk) (hts (.static yJ9_max_7cf53) gq_414) (hts (.initialized RJ9) gq_56) (hts (.code yJ9_max_7cf53 cJ9_max_7cf53 2 (some .int)) gq_415) (show 1 ≤ d from hdd) (by rw [hsum]; show _ + 13 ≤ 40 * d; omega) (Nat.zero_le _) (Nat.zero_le _) hd (k p l e s m args below meth c D cI cB ad A C H locs ls hn hP hD hS hl)
theorem aw_copy {idx i0 i1 N0 N1 : Nat} {f g : Nat → Int32} {sp dp x : Int32} (hlk : Cond.methodLink own idx arraycopyName ∈ gw_L) (hd : decode cc pc = .ok (.invokestatic idx, 3)) (h0 : w[i0]? = some (.inl (0, N0, f))) (h1 : w[i1]? = some (.inl (0, N1, g))) (q1 : ¬ sp < 0) (q2 : ¬ dp < 0) (q3 : ¬ x < 0) (q4 : sp.toNatClampNeg + x.toNatClampNeg ≤ N0) (q5 : dp.toNatClampNeg + x.toNatClampNeg ≤ N1) (hs : (st.map fun v => v.category).sum ≤ 8) (hdd : 0 < d)
    (k : AW d own cc mL rt n Po (pc + 3) loc st (w.set i1 (.inl (0, N1, va_cpy f g sp.toNatClampNeg dp.toNatClampNeg x.toNatClampNeg)))) : AW d own cc mL rt n Po pc loc (.int x :: .int dp :: .ref i1 :: .int sp :: .ref i0 :: st) w := by
  intro p l e s m args below meth c D cI cB ad A C H locs ls hn hP hD hS hl
  have hts := C.2.2.2.2.2.2.1
  have hsum : ((st.map (ac_v ad)).map fun v => v.category) = (st.map fun v => v.category) := by rw [List.map_map]; exact List.map_congr_left (fun v _ => ac_v_cat ad v)
  refine va_copyi (D := D) C.1 C.2.1 (C.2.2.2.1.trans hl.1.symm) C.2.2.2.2.1 (hts _ hlk) (hts (.native arraycopyName) gq_485) (hts (.static arraycopyName) gq_484) (hts (.initialized RJ10) gq_57) C.2.2.2.2.2.2.2.1 hP hD hS i0 i1 0 0 (ac_W_at h0) (ac_W_at h1) rfl rfl rfl q1 q2 q3 q4 q5 (fun _ _ => rfl) (show 1 ≤ d from hdd) (by rw [hsum]; show _ + (7 + 11) ≤ 40 * d; omega) hd (fun H1 locs1 hP1 hD1 hS1 => ?_)
  have ew := ac_W_set cI cB ad w i1 (.inl (0, N1, va_cpy f g sp.toNatClampNeg dp.toNatClampNeg x.toNatClampNeg))
  exact k p l e s m args below meth c D cI cB ad A C H1 locs1 ls (by rw [List.length_set]; exact hn) (ew ▸ hP1) (ew ▸ hD1) hS1 hl
-- returns
theorem ac_end {D : va_G} {cI cB : ClassId} {ad : Nat → Nat} {A : Nat → Prop} {s : State} {args : Array Value} {H : Heap} {locs : List Loc} {r : Option Value} (h : Po r w) (hn : w.length = n) (hP : va_P D vwCl (ac_W cI cB ad 0 w) H) (hS : va_S A s.heap H locs) (t : State) (ht : t.heap = H) : ac_Q D cI cB ad A n Po args s (.returned (r.map (ac_v ad))) t := ⟨r, w, rfl, h, hn, by rw [ht]; exact hP, hS.F ht⟩
theorem aw_iret {v : Int32} (hd : decode cc pc = .ok (.ireturn, 1)) (hr : rt = some .int) (h : Po (some (.int v)) w) : AW d own cc mL rt n Po pc loc [.int v] w := by
  intro p l e s m args below meth c D cI cB ad A C H locs ls hn hP hD hS hl
  exact W.iret (v := v) C.1 C.2.1 (C.2.2.1.trans hr) (fun t ht _ => ac_end (r := some (.int v)) h hn hP hS t ht) hS.2.2 hd C.2.2.2.2.2.1
theorem aw_zret {v : Int32} (hd : decode cc pc = .ok (.ireturn, 1)) (hr : rt = some .boolean) (hv : v &&& 1 = v) (h : Po (some (.int v)) w) : AW d own cc mL rt n Po pc loc [.int v] w := by
  intro p l e s m args below meth c D cI cB ad A C H locs ls hn hP hD hS hl
  exact W.zret (v := v) (ty := .boolean) C.1 C.2.1 (C.2.2.1.trans hr) (by show Value.int (v &&& 1) = _; rw [hv]) (fun t ht _ => ac_end (r := some (.int v)) h hn hP hS t ht) hS.2.2 hd C.2.2.2.2.2.1
theorem aw_lret {v : Int64} (hd : decode cc pc = .ok (.lreturn, 1)) (hr : rt = some .long) (h : Po (some (.long v)) w) : AW d own cc mL rt n Po pc loc [.long v] w := by
  intro p l e s m args below meth c D cI cB ad A C H locs ls hn hP hD hS hl
  exact W.lret (v := v) C.1 C.2.1 (C.2.2.1.trans hr) (fun t ht _ => ac_end (r := some (.long v)) h hn hP hS t ht) hS.2.2 hd C.2.2.2.2.2.1
theorem aw_aret {v : Nat} {cn : String} (hd : decode cc pc = .ok (.areturn, 1)) (hr : rt = some (.object cn)) (h : Po (some (.ref v)) w) : AW d own cc mL rt n Po pc loc [.ref v] w := by
  intro p l e s m args below meth c D cI cB ad A C H locs ls hn hP hD hS hl
  exact W.aret (v := .ref (ad v)) C.1 C.2.1 (C.2.2.1.trans hr) (Or.inl ⟨cn, rfl⟩) (Or.inr ⟨_, rfl⟩) (fun t ht _ => ac_end (r := some (.ref v)) h hn hP hS t ht) hS.2.2 hd C.2.2.2.2.2.1
theorem aw_vret (hd : decode cc pc = .ok (.return_, 1)) (hr : rt = none) (h : Po none w) : AW d own cc mL rt n Po pc loc [] w := by
  intro p l e s m args below meth c D cI cB ad A C H locs ls hn hP hD hS hl
  exact W.vret C.1 C.2.1 (C.2.2.1.trans hr) (fun t ht _ => ac_end (r := none) h hn hP hS t ht) hS.2.2 hd C.2.2.2.2.2.1
-- calls
theorem ac_after {p : Program} {l : Launch} {e : Env} {R : Room} {s : State} {m : MethodId} {args : Array Value} {below : List Frame} {meth : Method} {c : Code} {H : Heap} {locs : List Loc} {Q : State → Prop} {ls : Array Slot} {st0 rest : List Value} {D : va_G} {cI cB : ClassId} {ad : Nat → Nat} {A A1 : Nat → Prop} {P1 : Option Value → List ac_T → Prop} {a0 : Array Value}
    (hr : va_Run p l e R s m args below meth c H locs 0 0 0 0 (F0 m pc ls st0) rest (ac_Q D cI cB ad A1 n P1 a0) A1) (hS : va_S A s.heap H locs) (hf : ∀ q, A1 q → A q)
    (kk : ∀ (r : Option Value) (w' : List ac_T) (H1 : Heap) (locs1 : List Loc), P1 r w' → w'.length = n → va_P D vwCl (ac_W cI cB ad 0 w') H1 → va_S A s.heap H1 locs1 → W p l e R s m args below meth c H1 locs1 0 0 Q (F0 m (pc + 3) ls ((r.map (ac_v ad)).toList ++ rest))) : W p l e R s m args below meth c H locs 0 0 Q (F0 m pc ls st0) := by
  intro T hT X
  obtain ⟨v, st₀, t, T', L, h0, X', hL, e1, e2, ⟨r, w', hv, hp, hlen, hP', hz, hk⟩, stp⟩ := hr T hT X
  cases hv
  rw [h0] at hz hk
  obtain ⟨t2, a1, b1⟩ := kk r w' T'.heap (locs ++ L) hp hlen (by rw [e1]; exact hP')
    ⟨Nat.le_trans hS.1 (by rw [e1]; exact hz), fun q h1 h2 => by rw [e1, hk q (Nat.lt_of_lt_of_le h1 hS.1) (fun z => h2 (hf q z))]; exact hS.2.1 q h1 h2, fun q hq => by
      rcases List.mem_append.mp hq with h | h
      · exact hS.2.2 q h
      · exact hf _ (hL q h)⟩ T' rfl X'
  exact ⟨t2, stp t2 a1, b1⟩
theorem ac_sub {cI cB : ClassId} {ad : Nat → Nat} {A : Nat → Prop} {H0 H : Heap} {locs : List Loc} (hD : va_D A (ac_W cI cB ad 0 w)) (hS : va_S A H0 H locs) (hA : ∀ q, H0.size ≤ q → A q) : ∀ q, va_A (ac_W cI cB ad 0 w) H.size q → A q := by
  intro q h
  rcases h with ⟨k, e, h⟩ | h
  · exact hD.2 k _ h
  · exact hA q (Nat.le_trans hS.1 h)
/-- what a callee finds -/
theorem ac_pre {p : Program} {s : State} {m : MethodId} {args : Array Value} {meth : Method} {c : Code} {D : va_G} {cI cB : ClassId} {ad : Nat → Nat} {A : Nat → Prop} {H : Heap} {locs : List Loc} (C : ac_C own cc mL rt p s m args meth c D cI cB ad A) (hP : va_P D vwCl (ac_W cI cB ad 0 w) H) (hD : va_D A (ac_W cI cB ad 0 w)) (hS : va_S A s.heap H locs) (as : List Value) (U : State) (hU : U.heap = H) (hW : s.WarmedH U.vm) :
    va_Pc (as.map (ac_v ad)) (fun U => U.heap.size = H.size ∧ va_P D vwCl (ac_W cI cB ad 0 w) U.heap ∧ va_K D vwCl (ac_ty cI cB) U ∧ va_D (fun _ => True) (ac_W cI cB ad 0 w) ∧ ac_N U ∧ ac_K ad (va_A (ac_W cI cB ad 0 w) H.size) U U.heap) (as.map (ac_v ad)).toArray U := by
  refine ⟨rfl, by rw [hU], by rw [hU]; exact hP, va_K.moved hW.alike C.2.2.2.2.2.2.2.1, hD.weaken (fun _ _ _ _ => trivial), C.2.2.2.2.2.2.2.2.1.warm hW, ?_⟩
  rw [hU]
  exact ((C.2.2.2.2.2.2.2.2.2.1.kept hS.2.1).moved hW.alike).narrow (ac_sub hD hS C.2.2.2.2.2.2.2.2.2.2)
variable {d1 : Nat} {y : MethodName} {c1 : ByteArray} {m1 : Nat} {r1 : Option FieldType} {as : List Value} {P1 : Option Value → List ac_T → Prop}
theorem ac_good {ws : List Cond} (q5 : Cond.code y c1 m1 r1 ∈ gw_L) (hws : ∀ x ∈ ws, x ∈ gw_L) : GoodIn gw_L (ws ++ (Cond.code y c1 m1 r1 :: gw_L)) := gw_ok (fun x hx => by
  rcases List.mem_append.mp hx with h | h
  · exact hws x h
  · rcases List.mem_cons.mp h with h | h
    · rw [h]; exact q5
    · exact h)
theorem ac_cat (ad : Nat → Nat) (l : List Value) : ((l.map (ac_v ad)).map fun v => v.category) = (l.map fun v => v.category) := by rw [List.map_map]; exact List.map_congr_left (fun v _ => ac_v_cat ad v)
set_option maxHeartbeats 4000000 in
theorem aw_callS {idx : Nat} (hM : AM d1 y c1 m1 r1 as w P1) (q1 : Cond.methodLink own idx y ∈ gw_L) (q2 : Cond.static y ∈ gw_L) (q4 : Cond.initialized y.cls ∈ gw_L) (q5 : Cond.code y c1 m1 r1 ∈ gw_L) (hy : y.cls ≠ "java/lang/invoke/MethodHandle" ∧ y.cls ≠ "java/lang/invoke/VarHandle" ∧ (parseMethodDescriptor y.desc).map (fun d => d.parameters.length) = some as.length) (hd : decode cc pc = .ok (.invokestatic idx, 3)) (hdd : d1 < d) (hm : m1 ≤ 20) (hs : (st.map fun v => v.category).sum ≤ 8)
    (k : ∀ (r : Option Value) (w' : List ac_T), P1 r w' → AW d own cc mL rt n Po (pc + 3) loc (r.toList ++ st) w') : AW d own cc mL rt n Po pc loc (as.reverse ++ st) w := by
  intro p l e s m args below meth c D cI cB ad A C H locs ls hn hP hD hS hl
  have hts := C.2.2.2.2.2.2.1
  have hf := ac_sub hD hS C.2.2.2.2.2.2.2.2.2.2
  have hg : ∀ x ∈ [Cond.methodLink own idx y, Cond.static y, Cond.initialized y.cls], x ∈ gw_L := by
    intro x hx
    simp only [List.mem_cons, List.not_mem_nil, or_false] at hx
    rcases hx with rfl | rfl | rfl
    · exact q1
    · exact q2
    · exact q4
  have hrun := va_runS (p := p) (l := l) (e := e) (R := ac_rm d) (s := s) (m := m) (args := args) (below := below) (meth := meth) (c := c) (H := H) (locs := locs) (cells := 0) (slots := 0) (As := as.map (ac_v ad)) (rest := st.map (ac_v ad)) (g := F0 m pc ls ((as.reverse ++ st).map (ac_v ad))) (bytes := c1) (maxL := m1) (ret := r1) (n := as.length) (index := idx) (own := own) (Ts := gw_L) (nL := mL) (cc := cc) ⟨C.1, C.2.1, C.2.2.2.1, C.2.2.2.2.1, hts⟩ (hM l D cI cB ad H.size)
    (va_cwS as.length hts (ac_good q5 hg) rfl rfl rfl hy ⟨by show d1 + 1 ≤ d; omega, by show 8 + (m1 + 11) + 40 * d1 ≤ 40 * d; omega⟩) ⟨ac_blind, ac_pre C hP hD hS as⟩ rfl (by rw [List.length_map]) hl.1 (by rw [List.map_append, List.map_reverse]) (lv_room (by rw [ac_cat]; exact hs)) hd ⟨Nat.le_refl _, Nat.le_refl _⟩
  refine ac_after (n := w.length) hrun hS hf (fun r w' H1 locs1 hp hlen hP1 hS1 => ?_)
  have := k r w' hp p l e s m args below meth c D cI cB ad A C H1 locs1 ls (by rw [hlen]; exact hn) hP1 (ac_D hD hlen) hS1 hl
  rw [List.map_append] at this
  cases r <;> exact this
set_option maxHeartbeats 4000000 in
theorem aw_callSN {idx : Nat} {host : String} (hM : AM d1 y c1 m1 r1 as w P1) (q1 : (own, idx, y, host) ∈ gn_L) (q2 : Cond.static y ∈ gw_L) (q4 : Cond.initialized y.cls ∈ gw_L) (q5 : Cond.code y c1 m1 r1 ∈ gw_L) (hy : y.cls ≠ "java/lang/invoke/MethodHandle" ∧ y.cls ≠ "java/lang/invoke/VarHandle" ∧ (parseMethodDescriptor y.desc).map (fun d => d.parameters.length) = some as.length) (hd : decode cc pc = .ok (.invokestatic idx, 3)) (hdd : d1 < d) (hm : m1 ≤ 20) (hs : (st.map fun v => v.category).sum ≤ 8)
    (k : ∀ (r : Option Value) (w' : List ac_T), P1 r w' → AW d own cc mL rt n Po (pc + 3) loc (r.toList ++ st) w') : AW d own cc mL rt n Po pc loc (as.reverse ++ st) w := by
  intro p l e s m args below meth c D cI cB ad A C H locs ls hn hP hD hS hl
  have hts := C.2.2.2.2.2.2.1
  have hf := ac_sub hD hS C.2.2.2.2.2.2.2.2.2.2
  have hrun := va_runSN (p := p) (l := l) (e := e) (R := ac_rm d) (s := s) (m := m) (args := args) (below := below) (meth := meth) (c := c) (H := H) (locs := locs) (cells := 0) (slots := 0) (As := as.map (ac_v ad)) (rest := st.map (ac_v ad)) (g := F0 m pc ls ((as.reverse ++ st).map (ac_v ad))) (bytes := c1) (maxL := m1) (ret := r1) (n := as.length) (index := idx) (own := own) (host := host) (Ts := gw_L) (nL := mL) (cc := cc) ⟨C.1, C.2.1, C.2.2.2.1, C.2.2.2.2.1, hts⟩ (hM l D cI cB ad H.size)
    ⟨va_cnB as.length hts (ac_good (ws := []) q5 (fun _ h => by cases h)) rfl rfl rfl (C.2.2.2.2.2.2.2.2.1.1 _ q1) (hts _ q4) hy ⟨by show d1 + 1 ≤ d; omega, by show 8 + (m1 + 11) + 40 * d1 ≤ 40 * d; omega⟩, hts _ q2, trivial⟩ ⟨ac_blind, ac_pre C hP hD hS as⟩ rfl (by rw [List.length_map]) hl.1 (by rw [List.map_append, List.map_reverse]) (lv_room (by rw [ac_cat]; exact hs)) hd ⟨Nat.le_refl _, Nat.le_refl _⟩
  refine ac_after (n := w.length) hrun hS hf (fun r w' H1 locs1 hp hlen hP1 hS1 => ?_)
  have := k r w' hp p l e s m args below meth c D cI cB ad A C H1 locs1 ls (by rw [hlen]; exact hn) hP1 (ac_D hD hlen) hS1 hl
  rw [List.map_append] at this
  cases r <;> exact this
set_option maxHeartbeats 4000000 in
theorem aw_callV0 {idx id : Nat} (hrec : ∀ (p : Program) (s : State) (m : MethodId) (args : Array Value) (meth : Method) (c : Code) (D : va_G) (cI cB : ClassId) (ad : Nat → Nat) (A : Nat → Prop) (H : Heap) (locs : List Loc), ac_C own cc mL rt p s m args meth c D cI cB ad A → va_P D vwCl (ac_W cI cB ad 0 w) H → va_S A s.heap H locs → ∃ cell : Cell, H[ad id]? = some cell ∧ cell.vm.isStatics = false ∧ s.vm.findClass y.cls = some cell.cls)
    (hM : AM d1 y c1 m1 r1 (.ref id :: as) w P1) (q1 : Cond.methodLink own idx y ∈ gw_L) (q2 : Cond.instanceMethod y ∈ gw_L) (q3 : Cond.selects y.cls y y ∈ gw_L) (q4 : Cond.initialized y.cls ∈ gw_L) (q5 : Cond.code y c1 m1 r1 ∈ gw_L) (hy : y.cls ≠ "java/lang/invoke/MethodHandle" ∧ y.cls ≠ "java/lang/invoke/VarHandle" ∧ (parseMethodDescriptor y.desc).map (fun d => d.parameters.length) = some as.length) (hd : decode cc pc = .ok (.invokevirtual idx, 3)) (hdd : d1 < d) (hm : m1 ≤ 20) (hs : (st.map fun v => v.category).sum ≤ 8)
    (k : ∀ (r : Option Value) (w' : List ac_T), P1 r w' → AW d own cc mL rt n Po (pc + 3) loc (r.toList ++ st) w') : AW d own cc mL rt n Po pc loc (as.reverse ++ .ref id :: st) w := by
  intro p l e s m args below meth c D cI cB ad A C H locs ls hn hP hD hS hl
  have hts := C.2.2.2.2.2.2.1
  have hf := ac_sub hD hS C.2.2.2.2.2.2.2.2.2.2
  have hg : ∀ x ∈ [Cond.methodLink own idx y, Cond.instanceMethod y, Cond.selects y.cls y y, Cond.initialized y.cls], x ∈ gw_L := by
    intro x hx
    simp only [List.mem_cons, List.not_mem_nil, or_false] at hx
    rcases hx with rfl | rfl | rfl | rfl
    · exact q1
    · exact q2
    · exact q3
    · exact q4
  have hrun := va_runV (p := p) (l := l) (e := e) (R := ac_rm d) (s := s) (m := m) (args := args) (below := below) (meth := meth) (c := c) (H := H) (locs := locs) (cells := 0) (slots := 0) (As := as.map (ac_v ad)) (b := ad id) (C := y.cls) (rest := st.map (ac_v ad)) (g := F0 m pc ls ((as.reverse ++ .ref id :: st).map (ac_v ad))) (bytes := c1) (maxL := m1) (ret := r1) (n := as.length) (index := idx) (own := own) (Ts := gw_L) (nL := mL) (cc := cc) ⟨C.1, C.2.1, C.2.2.2.1, C.2.2.2.2.1, hts⟩ (hM l D cI cB ad H.size)
    (cwV as.length hts (ac_good q5 hg) rfl rfl rfl ⟨rfl, hy⟩ ⟨by show d1 + 1 ≤ d; omega, by show 8 + (m1 + 11) + 40 * d1 ≤ 40 * d; omega⟩) ⟨ac_blind, hrec p s m args meth c D cI cB ad A H locs C hP hS, ac_pre C hP hD hS (.ref id :: as)⟩ rfl (by rw [List.length_map]) hl.1 (by rw [List.map_append, List.map_reverse]; rfl) (lv_room (by rw [ac_cat]; exact hs)) hd ⟨Nat.le_refl _, Nat.le_refl _⟩
  refine ac_after (n := w.length) hrun hS hf (fun r w' H1 locs1 hp hlen hP1 hS1 => ?_)
  have := k r w' hp p l e s m args below meth c D cI cB ad A C H1 locs1 ls (by rw [hlen]; exact hn) hP1 (ac_D hD hlen) hS1 hl
  rw [List.map_append] at this
  cases r <;> exact this
theorem aw_callV {idx id ci N : Nat} {T : u_T} {fs : List Value} (hw : w[id]? = some (.inr (ci, fs))) (hc : vwCl[ci]? = some (y.cls, T, N)) (hM : AM d1 y c1 m1 r1 (.ref id :: as) w P1) (q1 : Cond.methodLink own idx y ∈ gw_L) (q2 : Cond.instanceMethod y ∈ gw_L) (q3 : Cond.selects y.cls y y ∈ gw_L) (q4 : Cond.initialized y.cls ∈ gw_L) (q5 : Cond.code y c1 m1 r1 ∈ gw_L) (hy : y.cls ≠ "java/lang/invoke/MethodHandle" ∧ y.cls ≠ "java/lang/invoke/VarHandle" ∧ (parseMethodDescriptor y.desc).map (fun d => d.parameters.length) = some as.length) (hd : decode cc pc = .ok (.invokevirtual idx, 3)) (hdd : d1 < d) (hm : m1 ≤ 20) (hs : (st.map fun v => v.category).sum ≤ 8)
    (k : ∀ (r : Option Value) (w' : List ac_T), P1 r w' → AW d own cc mL rt n Po (pc + 3) loc (r.toList ++ st) w') : AW d own cc mL rt n Po pc loc (as.reverse ++ .ref id :: st) w :=
  aw_callV0 (fun p s m args meth c D cI cB ad A H locs C hP hS => va_recv C.2.2.2.2.2.2.2.1 hP hc (ac_W_at hw)) hM q1 q2 q3 q4 q5 hy hd hdd hm hs k
theorem aw_callK {idx i : Nat} (hi : i < 5) (hcl : y.cls = "ThanksOwed$Kind") (hM : AM d1 y c1 m1 r1 (.ref (1000 + i) :: as) w P1) (q1 : Cond.methodLink own idx y ∈ gw_L) (q2 : Cond.instanceMethod y ∈ gw_L) (q3 : Cond.selects y.cls y y ∈ gw_L) (q4 : Cond.initialized y.cls ∈ gw_L) (q5 : Cond.code y c1 m1 r1 ∈ gw_L) (hy : y.cls ≠ "java/lang/invoke/MethodHandle" ∧ y.cls ≠ "java/lang/invoke/VarHandle" ∧ (parseMethodDescriptor y.desc).map (fun d => d.parameters.length) = some as.length) (hd : decode cc pc = .ok (.invokevirtual idx, 3)) (hdd : d1 < d) (hm : m1 ≤ 20) (hs : (st.map fun v => v.category).sum ≤ 8)
    (k : ∀ (r : Option Value) (w' : List ac_T), P1 r w' → AW d own cc mL rt n Po (pc + 3) loc (r.toList ++ st) w') : AW d own cc mL rt n Po pc loc (as.reverse ++ .ref (1000 + i) :: st) w :=
  aw_callV0 (fun p s m args meth c D cI cB ad A H locs C hP hS => by
    have h := va_recvE (i := i) C.2.2.2.2.2.2.2.2.2.1.1 hi hS
    rw [hcl]
    exact h) hM q1 q2 q3 q4 q5 hy hd hdd hm hs k
end Rows
