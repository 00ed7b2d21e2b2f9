/-! ===== the law's loop ===== -/
theorem ni_any (x : Int32) : ∃ n : Nat, x = nI n := ⟨x.toBitVec.toNat, by
  rw [← Int32.toBitVec_inj]
  show x.toBitVec = (Int32.ofNat _).toBitVec
  rw [Int32.toBitVec_ofNat']
  simp⟩
theorem sw_31 (x : Int32) : ∃ j : Nat, j < 32 ∧ x &&& 31 = nI j := by
  obtain ⟨n, rfl⟩ := ni_any x
  exact ⟨n % 2 ^ 5, Nat.mod_lt _ (by decide), fa_mask n 5⟩
section LawLoop
variable {p : Program} {l : Launch} {e : Env} {s : State} {m : MethodId} {below : List Frame} {meth : Method} {c : Code} {b L : Nat} {xs : Nat → Int32} {D : va_G} {cI cB : ClassId} {aC aM : Nat → Nat}
set_option maxHeartbeats 4000000 in
theorem law_loop (C : lc_C p s m meth c b L xs D cI cB aC aM) (hL : L ≤ 3072) : ∀ n i, L < i + n → i ≤ 4000 → ∀ (S : st_T) (wc wm : List ac_T), iS S → CW S wc → MW S wm → LW p l e s m below meth c b D cI cB aC aM (lw_Z below #[Value.ref b] s) i 18 [] wc wm := by
  intro n
  have hbl := C.2.2.2.2.2.2.2.1
  have hbA : ¬ (fun q : Nat => s.heap.size ≤ q) b := Nat.not_le.mpr hbl
  have hlen : (Int32.ofNat L - 6).toInt = (L : Int) - 6 := by
    have h1 : (nI L).toInt = (L : Int) := nI_toInt (by omega)
    have h2 : (6 : Int32).toInt = 6 := rfl
    show (nI L - 6).toInt = _
    rw [fb_subI (by rw [h1, h2]; omega) (by rw [h1, h2]; omega), h1, h2]
  have last : ∀ i wc wm, LW p l e s m below meth c b D cI cB aC aM (lw_Z below #[Value.ref b] s) i 960 [] wc wm := by
    intro i wc wm H locs ls h1 h2 h3 h4 hl
    refine lv_iconst (v := 1) C.1 C.2.1 dL_law_960 (by decide) ?_
    refine va_forget (fun q hq => h4.2.2 q hq) ?_
    refine W.widen (k := 600000) (n := 7302250) (by decide) (by decide) ?_
    exact lw_ret C.1 C.2.1 C.2.2.1 C.2.2.2.2.2.2.2.2.1 dL_law_961
  induction n with
  | zero =>
    intro i hi hi2 S wc wm hI hC hM H locs ls h1 h2 h3 h4 hl
    refine lv_iload_n C.1 C.2.1 dL_law_18 rfl (lv_at hl 3 rfl) ?_
    refine lv_aload_n C.1 C.2.1 dL_law_19 rfl (lv_at hl 0 rfl) ?_
    refine va_slen C.1 C.2.1 C.2.2.2.2.2.2.1 hbl hbA h4 dL_law_20 ?_
    refine lv_bipush (v := 6) C.1 C.2.1 dL_law_21 (by decide) ?_
    refine lv_isub C.1 C.2.1 dL_law_23 ?_
    refine lv_icmp_gt (tgt := 960) C.1 C.2.1 dL_law_24 (by decide) (fun _ => last i wc wm H locs ls h1 h2 h3 h4 hl) (fun h => absurd ?_ h)
    rw [fa_lt, hlen, nI_toInt (by omega)]
    omega
  | succ n ih =>
    intro i hi hi2 S wc wm hI hC hM H locs ls h1 h2 h3 h4 hl
    refine lv_iload_n C.1 C.2.1 dL_law_18 rfl (lv_at hl 3 rfl) ?_
    refine lv_aload_n C.1 C.2.1 dL_law_19 rfl (lv_at hl 0 rfl) ?_
    refine va_slen C.1 C.2.1 C.2.2.2.2.2.2.1 hbl hbA h4 dL_law_20 ?_
    refine lv_bipush (v := 6) C.1 C.2.1 dL_law_21 (by decide) ?_
    refine lv_isub C.1 C.2.1 dL_law_23 ?_
    refine lv_icmp_gt (tgt := 960) C.1 C.2.1 dL_law_24 (by decide) (fun _ => last i wc wm H locs ls h1 h2 h3 h4 hl) (fun h => ?_)
    have hi6 : i + 6 ≤ L := by
      rw [fa_lt, hlen, nI_toInt (by omega)] at h
      omega
    have K : lx_K p l e s m below meth c b D cI cB aC aM (lw_Z below #[Value.ref b] s) i := by
      intro S wc wm hI hC hM H locs ls h1 h2 h3 h4 hl
      refine lv_iinc (v := nI (i + 6)) (lv' := [(3, .int (nI (i + 6))), (0, .ref b), (1, .ref (aC 0)), (2, .ref (aM 0))]) C.1 C.2.1 dL_law_954 hl (k := 3) rfl (by rw [show Int32.ofInt 6 = nI 6 from rfl, nI_add]) (by decide) rfl (fun ls hl => ?_)
      refine lv_goto (tgt := 18) C.1 C.2.1 dL_law_957 (by decide) ?_
      exact ih (i + 6) (by omega) (by omega) S wc wm hI hC hM H locs ls h1 h2 h3 h4 (lv_sub hl [1, 2, 3, 0] rfl)
    refine lv_aload_n C.1 C.2.1 dL_law_27 rfl (lv_at hl 0 rfl) ?_
    refine lv_iload_n C.1 C.2.1 dL_law_28 rfl (lv_at hl 3 rfl) ?_
    refine va_sld C.1 C.2.1 C.2.2.2.2.2.2.1 hbl hbA h4 (vp_in_nI (show i < L by omega) (by omega)) dL_law_29 ?_
    rw [nI_clamp (show i < 2 ^ 31 by omega)]
    refine lv_bipush (v := 31) C.1 C.2.1 dL_law_30 (by decide) ?_
    refine lv_iand C.1 C.2.1 dL_law_32 ?_
    obtain ⟨j, hj, hx⟩ := sw_31 (xs i)
    rw [hx]
    match j, hj with
    | 0, _ => exact lv_tableIn C.1 C.2.1 dL_law_33 (by decide) (by decide) (off := 123) rfl (show ((33 : Nat) : Int) + 123 = ((156 : Nat) : Int) by decide) (lx_letter C hi6 hL hI hC hM K H locs ls h1 h2 h3 h4 hl)
    | 1, _ => exact lv_tableIn C.1 C.2.1 dL_law_33 (by decide) (by decide) (off := 146) rfl (show ((33 : Nat) : Int) + 146 = ((179 : Nat) : Int) by decide) (lx_blank C hi6 hL hI hC hM K H locs ls h1 h2 h3 h4 hl)
    | 2, _ => exact lv_tableIn C.1 C.2.1 dL_law_33 (by decide) (by decide) (off := 159) rfl (show ((33 : Nat) : Int) + 159 = ((192 : Nat) : Int) by decide) (lx_fault C hi6 hL hI hC hM K H locs ls h1 h2 h3 h4 hl)
    | 3, _ => exact lv_tableIn C.1 C.2.1 dL_law_33 (by decide) (by decide) (off := 172) rfl (show ((33 : Nat) : Int) + 172 = ((205 : Nat) : Int) by decide) (lx_law C hi6 hL hI hC hM K H locs ls h1 h2 h3 h4 hl)
    | 4, _ => exact lv_tableIn C.1 C.2.1 dL_law_33 (by decide) (by decide) (off := 185) rfl (show ((33 : Nat) : Int) + 185 = ((218 : Nat) : Int) by decide) (lx_person C hi6 hL hI hC hM K H locs ls h1 h2 h3 h4 hl)
    | 5, _ => exact lv_tableIn C.1 C.2.1 dL_law_33 (by decide) (by decide) (off := 218) rfl (show ((33 : Nat) : Int) + 218 = ((251 : Nat) : Int) by decide) (lx_about C hi6 hL hI hC hM K H locs ls h1 h2 h3 h4 hl)
    | 6, _ => exact lv_tableIn C.1 C.2.1 dL_law_33 (by decide) (by decide) (off := 251) rfl (show ((33 : Nat) : Int) + 251 = ((284 : Nat) : Int) by decide) (lx_as C hi6 hL hI hC hM K H locs ls h1 h2 h3 h4 hl)
    | 7, _ => exact lv_tableIn C.1 C.2.1 dL_law_33 (by decide) (by decide) (off := 284) rfl (show ((33 : Nat) : Int) + 284 = ((317 : Nat) : Int) by decide) (lx_between C hi6 hL hI hC hM K H locs ls h1 h2 h3 h4 hl)
    | 8, _ => exact lv_tableIn C.1 C.2.1 dL_law_33 (by decide) (by decide) (off := 327) rfl (show ((33 : Nat) : Int) + 327 = ((360 : Nat) : Int) by decide) (lx_favour C hi6 hL hI hC hM K H locs ls h1 h2 h3 h4 hl)
    | 9, _ => exact lv_tableIn C.1 C.2.1 dL_law_33 (by decide) (by decide) (off := 396) rfl (show ((33 : Nat) : Int) + 396 = ((429 : Nat) : Int) by decide) (lx_week C hi6 hL hI hC hM K H locs ls h1 h2 h3 h4 hl)
    | 10, _ => exact lv_tableIn C.1 C.2.1 dL_law_33 (by decide) (by decide) (off := 409) rfl (show ((33 : Nat) : Int) + 409 = ((442 : Nat) : Int) by decide) (lx_pay C hi6 hL hI hC hM K H locs ls h1 h2 h3 h4 hl)
    | 11, _ => exact lv_tableIn C.1 C.2.1 dL_law_33 (by decide) (by decide) (off := 452) rfl (show ((33 : Nat) : Int) + 452 = ((485 : Nat) : Int) by decide) (lx_setOff C hi6 hL hI hC hM K H locs ls h1 h2 h3 h4 hl)
    | 12, _ => exact lv_tableIn C.1 C.2.1 dL_law_33 (by decide) (by decide) (off := 485) rfl (show ((33 : Nat) : Int) + 485 = ((518 : Nat) : Int) by decide) (lx_ring C hi6 hL hI hC hM K H locs ls h1 h2 h3 h4 hl)
    | 13, _ => exact lv_tableIn C.1 C.2.1 dL_law_33 (by decide) (by decide) (off := 528) rfl (show ((33 : Nat) : Int) + 528 = ((561 : Nat) : Int) by decide) (lx_forgive C hi6 hL hI hC hM K H locs ls h1 h2 h3 h4 hl)
    | 14, _ => exact lv_tableIn C.1 C.2.1 dL_law_33 (by decide) (by decide) (off := 561) rfl (show ((33 : Nat) : Int) + 561 = ((594 : Nat) : Int) by decide) (lx_bankrupt C hi6 hL hI hC hM K H locs ls h1 h2 h3 h4 hl)
    | 15, _ => exact lv_tableIn C.1 C.2.1 dL_law_33 (by decide) (by decide) (off := 584) rfl (show ((33 : Nat) : Int) + 584 = ((617 : Nat) : Int) by decide) (lx_ruin C hi6 hL hI hC hM K H locs ls h1 h2 h3 h4 hl)
    | 16, _ => exact lv_tableIn C.1 C.2.1 dL_law_33 (by decide) (by decide) (off := 607) rfl (show ((33 : Nat) : Int) + 607 = ((640 : Nat) : Int) by decide) (lx_settling C hi6 hL hI hC hM K H locs ls h1 h2 h3 h4 hl)
    | 17, _ => exact lv_tableIn C.1 C.2.1 dL_law_33 (by decide) (by decide) (off := 620) rfl (show ((33 : Nat) : Int) + 620 = ((653 : Nat) : Int) by decide) (lx_bestRing C hi6 hL hI hC hM K H locs ls h1 h2 h3 h4 hl)
    | 18, _ => exact lv_tableIn C.1 C.2.1 dL_law_33 (by decide) (by decide) (off := 643) rfl (show ((33 : Nat) : Int) + 643 = ((676 : Nat) : Int) by decide) (lx_offer C hi6 hL hI hC hM K H locs ls h1 h2 h3 h4 hl)
    | 19, _ => exact lv_tableIn C.1 C.2.1 dL_law_33 (by decide) (by decide) (off := 686) rfl (show ((33 : Nat) : Int) + 686 = ((719 : Nat) : Int) by decide) (lx_forget C hi6 hL hI hC hM K H locs ls h1 h2 h3 h4 hl)
    | 20, _ => exact lv_tableIn C.1 C.2.1 dL_law_33 (by decide) (by decide) (off := 699) rfl (show ((33 : Nat) : Int) + 699 = ((732 : Nat) : Int) by decide) (lx_accept C hi6 hL hI hC hM K H locs ls h1 h2 h3 h4 hl)
    | 21, _ => exact lv_tableIn C.1 C.2.1 dL_law_33 (by decide) (by decide) (off := 752) rfl (show ((33 : Nat) : Int) + 752 = ((785 : Nat) : Int) by decide) (lx_grown C hi6 hL hI hC hM K H locs ls h1 h2 h3 h4 hl)
    | 22, _ => exact lv_tableIn C.1 C.2.1 dL_law_33 (by decide) (by decide) (off := 815) rfl (show ((33 : Nat) : Int) + 815 = ((848 : Nat) : Int) by decide) (lx_years C hi6 hL hI hC hM K H locs ls h1 h2 h3 h4 hl)
    | 23, _ => exact lv_tableIn C.1 C.2.1 dL_law_33 (by decide) (by decide) (off := 858) rfl (show ((33 : Nat) : Int) + 858 = ((891 : Nat) : Int) by decide) (lx_image C hi6 hL hI hC hM K H locs ls h1 h2 h3 h4 hl)
    | 24, _ => exact lv_tableIn C.1 C.2.1 dL_law_33 (by decide) (by decide) (off := 871) rfl (show ((33 : Nat) : Int) + 871 = ((904 : Nat) : Int) by decide) (lx_restore C hi6 hL hI hC hM K H locs ls h1 h2 h3 h4 hl)
    | 25, _ => exact lv_tableIn C.1 C.2.1 dL_law_33 (by decide) (by decide) (off := 884) rfl (show ((33 : Nat) : Int) + 884 = ((917 : Nat) : Int) by decide) (lx_count C hi6 hL hI hC hM K H locs ls h1 h2 h3 h4 hl)
    | 26, _ => exact lv_tableIn C.1 C.2.1 dL_law_33 (by decide) (by decide) (off := 907) rfl (show ((33 : Nat) : Int) + 907 = ((940 : Nat) : Int) by decide) (lx_digest C hi6 hL hI hC hM K H locs ls h1 h2 h3 h4 hl)
    | j + 27, hj =>
      exact lv_tableOut (tgt := 954) C.1 C.2.1 dL_law_33 (Or.inr (by rw [nI_toInt (by omega)]; omega)) (by decide) (K S wc wm hI hC hM H locs ls h1 h2 h3 h4 hl)
end LawLoop
