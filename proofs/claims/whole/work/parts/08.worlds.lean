/-! ===== the worlds: what the cells hold, by numbers ===== -/
/-- a town: rate, up, free, sulk, people, weeks; kinds, wealth, owes, free weeks, offended weeks -/
abbrev tw_T : Type := Nat × Nat × Nat × Nat × Nat × Int32 × (Nat → Nat) × (Nat → Nat) × (Nat → Nat) × (Nat → Nat) × (Nat → Nat)
/-- offers: how many; from, to, sizes -/
abbrev of_T : Type := Nat × (Nat → Nat) × (Nat → Nat) × (Nat → Nat)
abbrev pg_T : Type := Nat × (Nat → Nat)
/-- what the class works with: rings (row, best, its length, its total), settlement (sums, groups), acceptance (bits, owed), seed, weeks of ruin -/
abbrev sc_T : Type := ((Nat → Int32) × (Nat → Int32) × Int32 × Int32) × ((Nat → Int32) × (Nat → Int32)) × (Int32 × Int32) × Int32 × (Nat → Int32)
def cx_ob : Nat × Int32 → ac_T
  | (im, rd) => .inr (8, [.ref 1, .ref 3, .ref 10, .ref 14, .ref 21, .ref 25, .ref 32, .ref 35, .ref 38, .ref 39, .ref 40, .int (nI im), .int rd])
def cx_pg : pg_T → ac_T
  | (pl, _) => .inr (4, [.ref 2, .int (nI pl)])
def cx_pc : pg_T → ac_T
  | (_, pc) => .inl (0, 6, fun k => nI (pc k))
def cx_t3 : tw_T → ac_T
  | (_, _, _, _, nn, wk, _, _, _, _, _) => .inr (7, [.ref 4, .ref 5, .ref 6, .ref 7, .ref 8, .ref 9, .int (nI nn), .int wk])
def cx_t14 : tw_T → ac_T
  | (_, _, _, _, nn, wk, _, _, _, _, _) => .inr (7, [.ref 15, .ref 16, .ref 17, .ref 18, .ref 19, .ref 20, .int (nI nn), .int wk])
def cx_t25 : tw_T → ac_T
  | (_, _, _, _, nn, wk, _, _, _, _, _) => .inr (7, [.ref 26, .ref 27, .ref 28, .ref 29, .ref 30, .ref 31, .int (nI nn), .int wk])
def cx_lw : tw_T → ac_T
  | (ra, up, f0, su, _) => .inr (2, [.int (nI ra), .int (nI up), .int (nI f0), .int (nI su)])
def cx_ki : tw_T → ac_T
  | (_, _, _, _, _, _, ki, _, _, _, _) => .inl (0, 5, fun k => nI (ki k))
def cx_we : tw_T → ac_T
  | (_, _, _, _, _, _, _, we, _, _, _) => .inl (0, 5, fun k => nI (we k))
def cx_ow : tw_T → ac_T
  | (_, _, _, _, _, _, _, _, ow, _, _) => .inl (0, 25, fun k => nI (ow k))
def cx_fr : tw_T → ac_T
  | (_, _, _, _, _, _, _, _, _, fr, _) => .inl (0, 25, fun k => nI (fr k))
def cx_of : tw_T → ac_T
  | (_, _, _, _, _, _, _, _, _, _, of) => .inl (0, 25, fun k => nI (of k))
def cx_o10 : of_T → ac_T
  | (oc, _) => .inr (3, [.ref 11, .ref 12, .ref 13, .int (nI oc)])
def cx_o21 : of_T → ac_T
  | (oc, _) => .inr (3, [.ref 22, .ref 23, .ref 24, .int (nI oc)])
def cx_oa : of_T → ac_T
  | (_, oa, _, _) => .inl (0, 6, fun k => nI (oa k))
def cx_ot : of_T → ac_T
  | (_, _, ob, _) => .inl (0, 6, fun k => nI (ob k))
def cx_os : of_T → ac_T
  | (_, _, _, os) => .inl (0, 6, fun k => nI (os k))
def cx_ri : sc_T → ac_T
  | ((_, _, bl, bt), _) => .inr (5, [.ref 33, .ref 34, .int bl, .int bt])
def cx_ro : sc_T → ac_T
  | ((rw, _), _) => .inl (0, 4, rw)
def cx_be : sc_T → ac_T
  | ((_, be, _), _) => .inl (0, 4, be)
def cx_se : ac_T := .inr (6, [.ref 36, .ref 37])
def cx_su : sc_T → ac_T
  | (_, (sm, _), _) => .inl (0, 32, sm)
def cx_ev : sc_T → ac_T
  | (_, (_, ev), _) => .inl (0, 32, ev)
def cx_ac : sc_T → ac_T
  | (_, _, (ab, ao), _) => .inr (0, [.int ab, .int ao])
def cx_dr : sc_T → ac_T
  | (_, _, _, sd, _) => .inr (1, [.int sd])
def cx_rw : sc_T → ac_T
  | (_, _, _, _, rw) => .inl (0, 5, rw)
/-- the class: image kept (0, 1) and laws read; the page; the town, the kept one, the one that would be; the offers, the kept ones; what it works with -/
def cw_C (g : Nat × Int32) (P : pg_T) (t0 t1 t2 : tw_T) (o0 o1 : of_T) (x : sc_T) : List ac_T :=
  [cx_ob g, cx_pg P, cx_pc P,
   cx_t3 t0, cx_lw t0, cx_ki t0, cx_we t0, cx_ow t0, cx_fr t0, cx_of t0,
   cx_o10 o0, cx_oa o0, cx_ot o0, cx_os o0,
   cx_t14 t1, cx_lw t1, cx_ki t1, cx_we t1, cx_ow t1, cx_fr t1, cx_of t1,
   cx_o21 o1, cx_oa o1, cx_ot o1, cx_os o1,
   cx_t25 t2, cx_lw t2, cx_ki t2, cx_we t2, cx_ow t2, cx_fr t2, cx_of t2,
   cx_ri x, cx_ro x, cx_be x, cx_se, cx_su x, cx_ev x, cx_ac x, cx_dr x, cx_rw x]
/-- the reference: reads, page; rate, up, free, sulk, people, weeks; kinds; wealth, owes, free, offended (two sets each); offers -/
abbrev mo_T : Type := Int32 × pg_T × (Nat × Nat × Nat × Nat × Nat × Int32) × (Nat → Nat) × ((Nat → Nat) × (Nat → Nat) × (Nat → Nat) × (Nat → Nat)) × of_T
/-- its image: kept (0, 1); rate, up, free, sulk, people, weeks, offers; wealth, owes, free, offended; offers in a row -/
abbrev mk_T : Type := Nat × (Nat × Nat × Nat × Nat × Nat × Int32 × Nat) × ((Nat → Nat) × (Nat → Nat) × (Nat → Nat) × (Nat → Nat)) × (Nat → Nat)
/-- what it works with: sums, groups, row, seed, h -/
abbrev ms_T : Type := (Nat → Int32) × (Nat → Int32) × (Nat → Int32) × Int64 × Int64
def mx_ob : mo_T → mk_T → ms_T → ac_T
  | (rd, (pl, _), (ra, up, f0, su, nn, wk), _, _, (oc, _)), (ik, (kra, kup, kf0, ksu, knn, kwk, koc), _), (_, _, _, sd, h) => .inr (9, [.int rd, .int (nI ra), .int (nI up), .int (nI f0), .int (nI su), .int (nI nn), .ref 1, .ref 2, .ref 3, .ref 4, .ref 5, .int wk, .int (nI oc), .ref 6, .ref 7, .ref 8, .int (nI pl), .ref 9, .ref 10, .ref 11, .ref 12, .long sd, .int (nI ik), .int (nI kra), .int (nI kup), .int (nI kf0), .int (nI ksu), .int (nI knn), .int kwk, .int (nI koc), .ref 13, .ref 14, .ref 15, .ref 16, .ref 17, .long h])
def mx_ki : mo_T → ac_T
  | (_, _, _, ki, _) => .inl (0, 5, fun k => nI (ki k))
def mx_we : mo_T → ac_T
  | (_, _, _, _, (we, _), _) => .inl (0, 10, fun k => nI (we k))
def mx_ow : mo_T → ac_T
  | (_, _, _, _, (_, ow, _), _) => .inl (0, 50, fun k => nI (ow k))
def mx_fr : mo_T → ac_T
  | (_, _, _, _, (_, _, fr, _), _) => .inl (0, 50, fun k => nI (fr k))
def mx_of : mo_T → ac_T
  | (_, _, _, _, (_, _, _, of), _) => .inl (0, 50, fun k => nI (of k))
def mx_oa : mo_T → ac_T
  | (_, _, _, _, _, (_, oa, _)) => .inl (0, 6, fun k => nI (oa k))
def mx_ot : mo_T → ac_T
  | (_, _, _, _, _, (_, _, ob, _)) => .inl (0, 6, fun k => nI (ob k))
def mx_os : mo_T → ac_T
  | (_, _, _, _, _, (_, _, _, os)) => .inl (0, 6, fun k => nI (os k))
def mx_pc : mo_T → ac_T
  | (_, (_, pc), _) => .inl (1, 6, fun k => nI (pc k))
def mx_su : ms_T → ac_T
  | (sm, _) => .inl (0, 32, sm)
def mx_gr : ms_T → ac_T
  | (_, gr, _) => .inl (0, 32, gr)
def mx_ro : ms_T → ac_T
  | (_, _, rw, _) => .inl (0, 4, rw)
def mx_kw : mk_T → ac_T
  | (_, _, (kw, _), _) => .inl (0, 5, fun k => nI (kw k))
def mx_ko : mk_T → ac_T
  | (_, _, (_, ko, _), _) => .inl (0, 25, fun k => nI (ko k))
def mx_kf : mk_T → ac_T
  | (_, _, (_, _, kf, _), _) => .inl (0, 25, fun k => nI (kf k))
def mx_kx : mk_T → ac_T
  | (_, _, (_, _, _, kx), _) => .inl (0, 25, fun k => nI (kx k))
def mx_kq : mk_T → ac_T
  | (_, _, _, kq) => .inl (0, 18, fun k => nI (kq k))
def mw_M (M : mo_T) (K : mk_T) (x : ms_T) : List ac_T :=
  [mx_ob M K x, mx_ki M, mx_we M, mx_ow M, mx_fr M, mx_of M, mx_oa M, mx_ot M, mx_os M, mx_pc M, mx_su x, mx_gr x, mx_ro x, mx_kw K, mx_ko K, mx_kf K, mx_kx K, mx_kq K]
-- truth as a number
def bI (c : Prop) [Decidable c] : Int32 := if c then 1 else 0
theorem bI_t {c : Prop} [Decidable c] (h : c) : bI c = 1 := if_pos h
theorem bI_f {c : Prop} [Decidable c] (h : ¬ c) : bI c = 0 := if_neg h
theorem bI_n {c : Prop} [Decidable c] (h : c) : ¬ bI c = 0 := by rw [bI_t h]; decide
theorem bI_1 {c : Prop} [Decidable c] : bI c &&& 1 = bI c := by
  unfold bI
  by_cases h : c
  · rw [if_pos h]; rfl
  · rw [if_neg h]; rfl
theorem bI_c {c e : Prop} [Decidable c] [Decidable e] (h : c ↔ e) : bI c = bI e := by
  unfold bI
  by_cases q : c
  · rw [if_pos q, if_pos (h.mp q)]
  · rw [if_neg q, if_neg (fun z => q (h.mpr z))]
/-- a number names one of so many -/
abbrev hs_P (n : Nat) (a : Int32) : Prop := 0 ≤ a ∧ a < nI n
abbrev hb_P (n : Nat) (a b : Int32) : Prop := hs_P n a ∧ hs_P n b ∧ a ≠ b
theorem hs_ex {n : Nat} {a : Int32} (hn : n < 2147483648) (h : hs_P n a) : ∃ j, j < n ∧ a = nI j := by
  rcases pk_ix a hn with q | q | q
  · exact absurd h.1 (by rw [fa_le]; rw [fa_lt] at q; omega)
  · exact absurd h.2 (by rw [fa_lt]; rw [fa_le] at q; omega)
  · exact q
theorem hs_of {n j : Nat} (h : j < n) (hn : n < 2147483648) : hs_P n (nI j) := ⟨(nI_leI (by decide : (0 : Nat) < 2147483648) (by omega)).mpr (Nat.zero_le j), (nI_ltI (by omega) hn).mpr h⟩
