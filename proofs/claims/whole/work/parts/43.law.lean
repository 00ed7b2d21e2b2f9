/-! ===== the law's own rows ===== -/
section LawRows
variable {p : Program} {l : Launch} {e : Env} {s : State} {m : MethodId} {below : List Frame} {meth : Method} {c : Code} {b L : Nat} {xs : Nat → Int32} {D : va_G} {cI cB : ClassId} {aC aM : Nat → Nat} {Z : State → Prop} {i pc : Nat} {st : List Value} {wc wm : List ac_T}
theorem lr_al1 (C : lc_C p s m meth c b L xs D cI cB aC aM) (hd : decode code pc = .ok (.aload_n 1, 1)) (k : LW p l e s m below meth c b D cI cB aC aM Z i (pc + 1) (.ref (aC 0) :: st) wc wm) : LW p l e s m below meth c b D cI cB aC aM Z i pc st wc wm := by
  intro H locs ls h1 h2 h3 h4 hl
  exact lv_aload_n C.1 C.2.1 hd rfl (lv_at hl 1 rfl) (k H locs ls h1 h2 h3 h4 hl)
theorem lr_al2 (C : lc_C p s m meth c b L xs D cI cB aC aM) (hd : decode code pc = .ok (.aload_n 2, 1)) (k : LW p l e s m below meth c b D cI cB aC aM Z i (pc + 1) (.ref (aM 0) :: st) wc wm) : LW p l e s m below meth c b D cI cB aC aM Z i pc st wc wm := by
  intro H locs ls h1 h2 h3 h4 hl
  exact lv_aload_n C.1 C.2.1 hd rfl (lv_at hl 2 rfl) (k H locs ls h1 h2 h3 h4 hl)
theorem lr_iconst {n : Int} {v : Int32} (C : lc_C p s m meth c b L xs D cI cB aC aM) (hd : decode code pc = .ok (.iconst n, 1)) (hv : Int32.ofInt n = v) (k : LW p l e s m below meth c b D cI cB aC aM Z i (pc + 1) (.int v :: st) wc wm) : LW p l e s m below meth c b D cI cB aC aM Z i pc st wc wm := by
  intro H locs ls h1 h2 h3 h4 hl
  exact lv_iconst C.1 C.2.1 hd hv (k H locs ls h1 h2 h3 h4 hl)
theorem lr_goto {off : Int} (tgt : Nat) (C : lc_C p s m meth c b L xs D cI cB aC aM) (hd : decode code pc = .ok (.goto off, 3)) (ht : (pc : Int) + off = (tgt : Int)) (k : LW p l e s m below meth c b D cI cB aC aM Z i tgt st wc wm) : LW p l e s m below meth c b D cI cB aC aM Z i pc st wc wm := by
  intro H locs ls h1 h2 h3 h4 hl
  exact lv_goto C.1 C.2.1 hd ht (k H locs ls h1 h2 h3 h4 hl)
theorem lr_same {z : Int32} {off : Int} (tgt : Nat) (C : lc_C p s m meth c b L xs D cI cB aC aM) (hd : decode code pc = .ok (.if_icmp .eq off, 3)) (ht : (pc : Int) + off = (tgt : Int)) (k : LW p l e s m below meth c b D cI cB aC aM Z i tgt st wc wm) : LW p l e s m below meth c b D cI cB aC aM Z i pc (.int z :: .int z :: st) wc wm := by
  intro H locs ls h1 h2 h3 h4 hl
  exact lv_icmp_eq C.1 C.2.1 hd ht (fun _ => k H locs ls h1 h2 h3 h4 hl) (fun h => absurd rfl h)
theorem lr_if0 {z : Int32} {off : Int} (tgt : Nat) (C : lc_C p s m meth c b L xs D cI cB aC aM) (hd : decode code pc = .ok (.ifCond .eq off, 3)) (ht : (pc : Int) + off = (tgt : Int)) (kt : z = 0 → LW p l e s m below meth c b D cI cB aC aM Z i tgt st wc wm) (kf : ¬ z = 0 → LW p l e s m below meth c b D cI cB aC aM Z i (pc + 3) st wc wm) : LW p l e s m below meth c b D cI cB aC aM Z i pc (.int z :: st) wc wm := by
  intro H locs ls h1 h2 h3 h4 hl
  exact lv_if_eq C.1 C.2.1 hd ht (fun h => kt h H locs ls h1 h2 h3 h4 hl) (fun h => kf h H locs ls h1 h2 h3 h4 hl)
/-- an int of the script -/
theorem lr_arg {n : Int} {j : Nat} (C : lc_C p s m meth c b L xs D cI cB aC aM) (hj : Int32.ofInt n = nI j) (hi : i + j < L) (hL : L ≤ 3072) (d0 : decode code pc = .ok (.aload_n 0, 1)) (d1 : decode code (pc + 1) = .ok (.iload_n 3, 1)) (d2 : decode code (pc + 2) = .ok (.iconst n, 1)) (d3 : decode code (pc + 3) = .ok (.iadd, 1)) (d4 : decode code (pc + 4) = .ok (.iaload, 1)) (k : LW p l e s m below meth c b D cI cB aC aM Z i (pc + 5) (.int (xs (i + j)) :: st) wc wm) : LW p l e s m below meth c b D cI cB aC aM Z i pc st wc wm := by
  intro H locs ls h1 h2 h3 h4 hl
  have hbl := C.2.2.2.2.2.2.2.1
  have hbA : ¬ (fun q : Nat => s.heap.size ≤ q) b := Nat.not_le.mpr hbl
  refine lv_aload_n C.1 C.2.1 d0 rfl (lv_at hl 0 rfl) ?_
  refine lv_iload_n C.1 C.2.1 d1 rfl (lv_at hl 3 rfl) ?_
  refine lv_iconst C.1 C.2.1 d2 hj ?_
  refine lv_iadd C.1 C.2.1 d3 ?_
  rw [nI_add]
  refine va_sld C.1 C.2.1 C.2.2.2.2.2.2.1 hbl hbA h4 (vp_in_nI hi (by omega)) d4 ?_
  rw [nI_clamp (show i + j < 2 ^ 31 by omega)]
  exact k H locs ls h1 h2 h3 h4 hl
end LawRows
