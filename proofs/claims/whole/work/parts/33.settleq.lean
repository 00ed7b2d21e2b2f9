/-! ===== both find the same fewest payments ===== -/
/-- a number of bits -/
def bs_N (P : Nat → Prop) [DecidablePred P] : Nat → Nat := fb_sm (fun k => if P k then 2 ^ k else 0)
theorem bs_lt (P : Nat → Prop) [DecidablePred P] : ∀ n, bs_N P n < 2 ^ n
  | 0 => by show 0 < 1; decide
  | j + 1 => by
    have ih := bs_lt P j
    show bs_N P j + (if P j then 2 ^ j else 0) < 2 ^ (j + 1)
    rw [Nat.pow_succ]
    split <;> omega
theorem bs_hi {P : Nat → Prop} [DecidablePred P] {n k : Nat} (h : n ≤ k) : bs_N P n / 2 ^ k = 0 := Nat.div_eq_of_lt (Nat.lt_of_lt_of_le (bs_lt P n) (Nat.pow_le_pow_right (by decide) h))
theorem bs_bt (P : Nat → Prop) [DecidablePred P] : ∀ n k, k < n → (bt_P (bs_N P n) k ↔ P k)
  | 0, k, h => absurd h (Nat.not_lt_zero _)
  | n + 1, k, h => by
    have e : bs_N P (n + 1) = bs_N P n + (if P n then 2 ^ n else 0) := rfl
    have hp : 0 < 2 ^ k := Nat.two_pow_pos k
    by_cases q : k = n
    · subst q
      by_cases r : P k
      · rw [if_pos r] at e
        have : (bs_N P k + 2 ^ k) / 2 ^ k = 1 := by rw [Nat.add_div_right _ hp, bs_hi (Nat.le_refl _)]
        show bs_N P (k + 1) / 2 ^ k % 2 = 1 ↔ _
        rw [e, this]
        exact ⟨fun _ => r, fun _ => rfl⟩
      · rw [if_neg r] at e
        have e : bs_N P (k + 1) = bs_N P k := e
        show bs_N P (k + 1) / 2 ^ k % 2 = 1 ↔ _
        rw [e, bs_hi (Nat.le_refl _)]
        exact ⟨fun z => absurd z (by decide), fun z => absurd z r⟩
    · have ih := bs_bt P n k (by omega)
      rw [← ih]
      show bs_N P (n + 1) / 2 ^ k % 2 = 1 ↔ bs_N P n / 2 ^ k % 2 = 1
      by_cases r : P n
      · rw [if_pos r] at e
        obtain ⟨i, rfl⟩ : ∃ i, n = k + 1 + i := ⟨n - (k + 1), by omega⟩
        have e2 : 2 ^ (k + 1 + i) = (2 * 2 ^ i) * 2 ^ k := by
          rw [Nat.pow_add, Nat.pow_succ, Nat.mul_assoc, Nat.mul_comm]
        rw [e, e2, Nat.add_mul_div_right _ _ hp]
        omega
      · rw [if_neg r] at e
        have e : bs_N P (n + 1) = bs_N P n := e
        rw [e]
theorem bs_sub {P : Nat → Prop} [DecidablePred P] {Q : Nat → Prop} [DecidablePred Q] {n : Nat} (h : ∀ k, k < n → (P k ↔ Q k)) : bs_N P n = bs_N Q n := fb_sm_cong (fun k hk => by
  by_cases q : P k
  · rw [if_pos q, if_pos ((h k hk).mp q)]
  · rw [if_neg q, if_neg (fun z => q ((h k hk).mpr z))])
theorem b_1a : ∀ S : Nat, S < 32 → ∀ P : Nat, P < 32 → P &&& S = P → P ≤ S := by decide +kernel
theorem b_1b : ∀ S : Nat, S < 32 → ∀ P : Nat, P < 32 → P &&& S = P → (S - P) &&& S = S - P := by decide +kernel
theorem b_1c : ∀ S : Nat, S < 32 → ∀ P : Nat, P < 32 → P &&& S = P → ∀ k : Nat, k < 5 → S / 2 ^ k % 2 = P / 2 ^ k % 2 + (S - P) / 2 ^ k % 2 := by decide +kernel
theorem b_1 (S : Nat) (hS : S < 32) (P : Nat) (hP : P < 32) (h : P &&& S = P) : P ≤ S ∧ (S - P) &&& S = S - P ∧ ∀ k : Nat, k < 5 → (bt_P S k ↔ bt_P P k ∨ bt_P (S - P) k) ∧ ¬ (bt_P P k ∧ bt_P (S - P) k) := by
  refine ⟨b_1a S hS P hP h, b_1b S hS P hP h, fun k hk => ?_⟩
  have := b_1c S hS P hP h k hk
  show (S / 2 ^ k % 2 = 1 ↔ P / 2 ^ k % 2 = 1 ∨ (S - P) / 2 ^ k % 2 = 1) ∧ ¬ (P / 2 ^ k % 2 = 1 ∧ (S - P) / 2 ^ k % 2 = 1)
  omega
theorem b_2a : ∀ S : Nat, S < 32 → ∀ P : Nat, P < 32 → P &&& S = P → P = S ∨ bt_P S (tz_N (S - P)) := by decide +kernel
theorem b_2b : ∀ S : Nat, S < 32 → ∀ P : Nat, P < 32 → P &&& S = P → P = S ∨ P &&& (S - 2 ^ tz_N (S - P)) = P := by decide +kernel
theorem b_2c : ∀ S : Nat, S < 32 → ∀ P : Nat, P < 32 → P &&& S = P → P = S ∨ S - 2 ^ tz_N (S - P) < S := by decide +kernel
theorem b_2 (S : Nat) (hS : S < 32) (P : Nat) (hP : P < 32) (h : P &&& S = P) (hne : P ≠ S) : bt_P S (tz_N (S - P)) ∧ P &&& (S - 2 ^ tz_N (S - P)) = P ∧ S - 2 ^ tz_N (S - P) < S := ⟨(b_2a S hS P hP h).resolve_left hne, (b_2b S hS P hP h).resolve_left hne, (b_2c S hS P hP h).resolve_left hne⟩
theorem b_5 : ∀ S : Nat, S < 32 → ∀ P : Nat, P < 32 → (∀ k : Nat, k < 5 → bt_P P k → bt_P S k) → P &&& S = P := by decide +kernel
theorem b_6 : ∀ nn : Nat, nn ≤ 5 → ∀ S : Nat, S < 2 ^ nn → ∀ j : Nat, j < 5 → bt_P S j → j < nn := by decide +kernel
theorem b_7a : ∀ S : Nat, S < 32 → ∀ j : Nat, j < 5 → bt_P S j → 2 ^ j &&& S = 2 ^ j := by decide +kernel
theorem b_7b : ∀ j : Nat, j < 5 → ∀ k : Nat, k < 5 → (bt_P (2 ^ j) k ↔ k = j) := by decide +kernel
theorem b_3 {P Q S : Nat} (h1 : P &&& Q = P) (h2 : Q &&& S = Q) : P &&& S = P := by
  rw [← h1, Nat.and_assoc, h2]
theorem b_4 {S P k : Nat} (hS : S < 32) (hP : P < 32) (h : P &&& S = P) (hk : k < 5) : bt_P P k → bt_P S k := fun z => ((b_1 S hS P hP h).2.2 k hk).1.mpr (Or.inl z)
/-- the tables' own values -/
def E_N (dd : Nat → Int) (nn g : Nat) : Nat := et_N dd nn (g + 1) g
def G_N (dd : Nat → Int) (nn off g : Nat) : Nat := gt_N dd nn off (g + 1) g
theorem E_st (dd : Nat → Int) (nn g : Nat) : ∀ i, et_N dd nn (g + 1 + i) g = E_N dd nn g
  | 0 => rfl
  | i + 1 => by
    rw [show g + 1 + (i + 1) = (g + i) + 2 by omega, et_N, va_up, if_neg (by omega), show g + i + 1 = g + 1 + i by omega]
    exact E_st dd nn g i
theorem G_st (dd : Nat → Int) (nn off g : Nat) : ∀ i, gt_N dd nn off (g + 1 + i) g = G_N dd nn off g
  | 0 => rfl
  | i + 1 => by
    rw [show g + 1 + (i + 1) = (g + i) + 2 by omega, gt_N, va_up, if_neg (by omega), show g + i + 1 = g + 1 + i by omega]
    exact G_st dd nn off g i
theorem E_lt {dd : Nat → Int} {nn g n : Nat} (h : g < n) : et_N dd nn n g = E_N dd nn g := by
  have := E_st dd nn g (n - (g + 1))
  rw [show g + 1 + (n - (g + 1)) = n by omega] at this
  exact this
theorem G_lt {dd : Nat → Int} {nn off g n : Nat} (h : g < n) : gt_N dd nn off n g = G_N dd nn off g := by
  have := G_st dd nn off g (n - (g + 1))
  rw [show g + 1 + (n - (g + 1)) = n by omega] at this
  exact this
theorem mx_ge {tab : Nat → Nat} {g : Nat} : ∀ {n j : Nat}, j < n → bt_P g j → tab (g - 2 ^ j) ≤ mx_N tab g n
  | 0, j, h, _ => absurd h (Nat.not_lt_zero _)
  | n + 1, j, h, hb => by
    by_cases q : j = n
    · subst q
      rw [mx_N, if_pos hb]
      omega
    · have ih := mx_ge (tab := tab) (show j < n by omega) hb
      rw [mx_N]
      split <;> omega
theorem mx_ex {tab : Nat → Nat} {g : Nat} : ∀ n, mx_N tab g n = 0 ∨ ∃ j, j < n ∧ bt_P g j ∧ mx_N tab g n = tab (g - 2 ^ j)
  | 0 => Or.inl rfl
  | n + 1 => by
    have ih := mx_ex (tab := tab) (g := g) n
    rw [mx_N]
    by_cases q : bt_P g n
    · rw [if_pos q]
      by_cases r : mx_N tab g n ≤ tab (g - 2 ^ n)
      · exact Or.inr ⟨n, by omega, q, by omega⟩
      · rw [show max (mx_N tab g n) (tab (g - 2 ^ n)) = mx_N tab g n by omega]
        rcases ih with ih | ⟨j, h1, h2, h3⟩
        · exact Or.inl ih
        · exact Or.inr ⟨j, by omega, h2, h3⟩
    · rw [if_neg q]
      rcases ih with ih | ⟨j, h1, h2, h3⟩
      · exact Or.inl ih
      · exact Or.inr ⟨j, by omega, h2, h3⟩
theorem gm_ge {dd : Nat → Int} {nn : Nat} {tab : Nat → Nat} {S off : Nat} : ∀ {n T : Nat}, 1 ≤ T → T ≤ n → ge_P dd nn S off T → tab (S - T) + 1 ≤ gm_N dd nn tab S off n
  | 0, T, h1, h2, _ => by omega
  | n + 1, T, h1, h2, hg => by
    by_cases q : T = n + 1
    · subst q
      rw [gm_N, if_pos hg]
      omega
    · have ih := gm_ge (tab := tab) h1 (show T ≤ n by omega) hg
      rw [gm_N]
      split <;> omega
theorem gm_ex {dd : Nat → Int} {nn : Nat} {tab : Nat → Nat} {S off : Nat} : ∀ n, gm_N dd nn tab S off n = 0 ∨ ∃ T, 1 ≤ T ∧ T ≤ n ∧ ge_P dd nn S off T ∧ gm_N dd nn tab S off n = tab (S - T) + 1
  | 0 => Or.inl rfl
  | n + 1 => by
    have ih := gm_ex (dd := dd) (nn := nn) (tab := tab) (S := S) (off := off) n
    rw [gm_N]
    by_cases q : ge_P dd nn S off (n + 1)
    · rw [if_pos q]
      by_cases r : gm_N dd nn tab S off n ≤ tab (S - (n + 1)) + 1
      · exact Or.inr ⟨n + 1, by omega, by omega, q, by omega⟩
      · rw [show max (gm_N dd nn tab S off n) (tab (S - (n + 1)) + 1) = gm_N dd nn tab S off n by omega]
        rcases ih with ih | ⟨j, h0, h1, h2, h3⟩
        · exact Or.inl ih
        · exact Or.inr ⟨j, h0, by omega, h2, h3⟩
    · rw [if_neg q]
      rcases ih with ih | ⟨j, h0, h1, h2, h3⟩
      · exact Or.inl ih
      · exact Or.inr ⟨j, h0, by omega, h2, h3⟩
theorem E_0 (dd : Nat → Int) (nn : Nat) : E_N dd nn 0 = 0 := rfl
theorem E_s {dd : Nat → Int} {nn g : Nat} (h : 0 < g) : E_N dd nn g = mx_N (et_N dd nn g) g nn + (if ss_Z dd nn g = 0 then 1 else 0) := by
  match g, h with
  | g + 1, _ => rw [E_N, et_N, va_up, if_pos rfl]
theorem E_ge {dd : Nat → Int} {nn g j : Nat} (hj : j < nn) (hb : bt_P g j) (h : g - 2 ^ j < g) : E_N dd nn (g - 2 ^ j) + (if ss_Z dd nn g = 0 then 1 else 0) ≤ E_N dd nn g := by
  rw [E_s (g := g) (by omega)]
  have := mx_ge (tab := et_N dd nn g) hj hb
  rw [E_lt h] at this
  omega
theorem E_ex {dd : Nat → Int} {nn g : Nat} (hn : nn ≤ 5) (hg : g < 32) (h0 : 0 < g) : E_N dd nn g = (if ss_Z dd nn g = 0 then 1 else 0) ∨ ∃ j, j < nn ∧ bt_P g j ∧ g - 2 ^ j < g ∧ E_N dd nn g = E_N dd nn (g - 2 ^ j) + (if ss_Z dd nn g = 0 then 1 else 0) := by
  rw [E_s h0]
  rcases mx_ex (tab := et_N dd nn g) (g := g) nn with q | ⟨j, h1, h2, h3⟩
  · rw [q]
    exact Or.inl (by omega)
  · have h4 := (xo_1 g hg j (by omega) h2).2
    rw [h3, E_lt h4]
    exact Or.inr ⟨j, h1, h2, h4, rfl⟩
theorem G_ge {dd : Nat → Int} {nn off S T : Nat} (h1 : 1 ≤ T) (h2 : T ≤ S) (hg : ge_P dd nn S off T) : G_N dd nn off (S - T) + 1 ≤ G_N dd nn off S := by
  match S, h1, h2, hg with
  | 0, h1, h2, _ => exact absurd h2 (by omega)
  | S + 1, h1, h2, hg =>
    have := gm_ge (tab := gt_N dd nn off (S + 1)) h1 h2 hg
    rw [G_lt (show S + 1 - T < S + 1 by omega)] at this
    rw [show G_N dd nn off (S + 1) = gm_N dd nn (gt_N dd nn off (S + 1)) (S + 1) off (S + 1) by rw [G_N, gt_N, va_up, if_pos rfl]]
    exact this
theorem G_ex (dd : Nat → Int) (nn off S : Nat) : G_N dd nn off S = 0 ∨ ∃ T, 1 ≤ T ∧ T ≤ S ∧ ge_P dd nn S off T ∧ G_N dd nn off S = G_N dd nn off (S - T) + 1 := by
  match S with
  | 0 => exact Or.inl rfl
  | S + 1 =>
    have e : G_N dd nn off (S + 1) = gm_N dd nn (gt_N dd nn off (S + 1)) (S + 1) off (S + 1) := by rw [G_N, gt_N, va_up, if_pos rfl]
    rcases gm_ex (dd := dd) (nn := nn) (tab := gt_N dd nn off (S + 1)) (S := S + 1) (off := off) (S + 1) with q | ⟨T, h0, h1, h2, h3⟩
    · exact Or.inl (by rw [e, q])
    · exact Or.inr ⟨T, h0, h1, h2, by rw [e, h3, G_lt (show S + 1 - T < S + 1 by omega)]⟩
theorem ss_ad {dd : Nat → Int} {nn S P : Nat} (hn : nn ≤ 5) (hS : S < 32) (hP : P < 32) (h : P &&& S = P) : ss_Z dd nn S = ss_Z dd nn P + ss_Z dd nn (S - P) := by
  unfold ss_Z
  rw [← fb_si_add]
  refine fb_si_cong (fun k hk => ?_)
  have hb := (b_1 S hS P hP h).2.2 k (by omega)
  by_cases q : bt_P P k
  · rw [if_pos (hb.1.mpr (Or.inl q)), if_pos q, if_neg (fun z => hb.2 ⟨q, z⟩), Int.add_zero]
  · by_cases r : bt_P (S - P) k
    · rw [if_pos (hb.1.mpr (Or.inr r)), if_neg q, if_pos r, Int.zero_add]
    · rw [if_neg (fun z => (hb.1.mp z).elim q r), if_neg q, if_neg r]
      rfl
/-- the even ones in a set -/
def ze_N (dd : Nat → Int) (nn S : Nat) : Nat := fb_sm (fun k => if bt_P S k ∧ dd k = 0 then 1 else 0) nn
theorem ze_ad {dd : Nat → Int} {nn S P : Nat} (hn : nn ≤ 5) (hS : S < 32) (hP : P < 32) (h : P &&& S = P) : ze_N dd nn S = ze_N dd nn P + ze_N dd nn (S - P) := by
  unfold ze_N
  rw [← fb_sm_add]
  refine fb_sm_cong (fun k hk => ?_)
  have hb := (b_1 S hS P hP h).2.2 k (by omega)
  by_cases z : dd k = 0
  · by_cases q : bt_P P k
    · rw [if_pos ⟨hb.1.mpr (Or.inl q), z⟩, if_pos ⟨q, z⟩, if_neg (fun y => hb.2 ⟨q, y.1⟩)]
    · by_cases r : bt_P (S - P) k
      · rw [if_pos ⟨hb.1.mpr (Or.inr r), z⟩, if_neg (fun y => q y.1), if_pos ⟨r, z⟩]
      · rw [if_neg (fun y => (hb.1.mp y.1).elim q r), if_neg (fun y => q y.1), if_neg (fun y => r y.1)]
  · rw [if_neg (fun y => z y.2), if_neg (fun y => z y.2), if_neg (fun y => z y.2)]
theorem ze_1 {dd : Nat → Int} {nn S k : Nat} (hk : k < nn) (hb : bt_P S k) (h : dd k = 0) : 1 ≤ ze_N dd nn S := by
  have := fb_sm_part (fun k => if bt_P S k ∧ dd k = 0 then 1 else 0) hk
  unfold ze_N
  rw [if_pos ⟨hb, h⟩] at this
  omega
theorem ze_s {dd : Nat → Int} {nn k : Nat} (hn : nn ≤ 5) (hk : k < nn) (h : dd k = 0) : ze_N dd nn (2 ^ k) = 1 := by
  have hp := b_7b k (by omega)
  have e := fb_sm_upd (fun _ => 0) 1 hk
  rw [fb_sm_const, Nat.mul_zero] at e
  unfold ze_N
  rw [fb_sm_cong (g := fun j => if j = k then 1 else 0) (fun j hj => by
    by_cases q : j = k
    · subst q
      rw [if_pos rfl, if_pos ⟨(hp j (by omega)).mpr rfl, h⟩]
    · rw [if_neg q, if_neg (fun z => q ((hp j (by omega)).mp z.1))])]
  omega
theorem ze_0 {dd : Nat → Int} {nn S : Nat} (h : ∀ k, k < nn → bt_P S k → dd k ≠ 0) : ze_N dd nn S = 0 := by
  unfold ze_N
  rw [fb_sm_cong (g := fun _ => 0) (fun k hk => if_neg (fun z => h k hk z.1 z.2)), fb_sm_const, Nat.mul_zero]
theorem pw_nn {nn : Nat} (hn : nn ≤ 5) : 2 ^ nn ≤ 32 := Nat.pow_le_pow_right (by decide) hn
theorem E_mono {dd : Nat → Int} {nn : Nat} (hn : nn ≤ 5) : ∀ S, S < 2 ^ nn → ∀ P, P &&& S = P → E_N dd nn P ≤ E_N dd nn S := by
  intro S
  induction S using Nat.strongRecOn with
  | ind S ih =>
    intro hS P hP
    have h32 := pw_nn hn
    have hle : P ≤ S := by rw [← hP]; exact Nat.and_le_right
    by_cases q : P = S
    · rw [q]
      exact Nat.le_refl _
    · obtain ⟨a1, a2, a3⟩ := b_2 S (by omega) P (by omega) hP q
      have hj := b_6 nn hn S hS _ (tz_lt _) a1
      have h1 := E_ge (dd := dd) hj a1 a3
      have h2 := ih _ a3 (by omega) P a2
      omega
theorem E_ev {dd : Nat → Int} {nn : Nat} (hn : nn ≤ 5) : ∀ S, S < 2 ^ nn → ∃ P, P &&& S = P ∧ ss_Z dd nn P = 0 ∧ E_N dd nn P = E_N dd nn S := by
  intro S
  induction S using Nat.strongRecOn with
  | ind S ih =>
    intro hS
    have h32 := pw_nn hn
    by_cases q : ss_Z dd nn S = 0
    · exact ⟨S, Nat.and_self S, q, rfl⟩
    · by_cases h0 : S = 0
      · subst h0
        exact absurd (ss_zero dd nn) q
      · rcases E_ex (dd := dd) hn (show S < 32 by omega) (by omega) with h | ⟨j, h1, h2, h3, h4⟩
        · rw [if_neg q] at h
          exact ⟨0, Nat.zero_and S, ss_zero dd nn, by rw [h]; rfl⟩
        · obtain ⟨P, p1, p2, p3⟩ := ih _ h3 (by omega)
          rw [if_neg q] at h4
          refine ⟨P, b_3 p1 ?_, p2, by omega⟩
          exact b_1b S (by omega) (2 ^ j) (Nat.pow_lt_pow_right (by decide) (show j < 5 by omega)) (b_7a S (by omega) j (by omega) h2)
theorem E_up {dd : Nat → Int} {nn : Nat} (hn : nn ≤ 5) {P Q : Nat} (hQ : Q < 2 ^ nn) (hs : ss_Z dd nn Q = 0) (hP : P &&& Q = P) (hne : P ≠ Q) : E_N dd nn P + 1 ≤ E_N dd nn Q := by
  have h32 := pw_nn hn
  have hle : P ≤ Q := by rw [← hP]; exact Nat.and_le_right
  obtain ⟨a1, a2, a3⟩ := b_2 Q (by omega) P (by omega) hP hne
  have hj := b_6 nn hn Q hQ _ (tz_lt _) a1
  have h1 := E_ge (dd := dd) hj a1 a3
  rw [if_pos hs] at h1
  have h2 := E_mono (dd := dd) hn _ (show Q - 2 ^ tz_N (Q - P) < 2 ^ nn by omega) P a2
  omega
theorem E_add {dd : Nat → Int} {nn : Nat} (hn : nn ≤ 5) {S T : Nat} (hS : S < 2 ^ nn) (hT : T &&& S = T) (h1 : 1 ≤ T) (hs : ss_Z dd nn T = 0) : E_N dd nn (S - T) + 1 ≤ E_N dd nn S := by
  have h32 := pw_nn hn
  have hTle : T ≤ S := by rw [← hT]; exact Nat.and_le_right
  have sT := ss_ad (dd := dd) hn (show S < 32 by omega) (show T < 32 by omega) hT
  obtain ⟨t1, t2, t3⟩ := b_1 S (by omega) T (by omega) hT
  obtain ⟨P, p1, p2, p3⟩ := E_ev (dd := dd) hn (S - T) (by omega)
  have hPle : P ≤ S - T := by rw [← p1]; exact Nat.and_le_right
  obtain ⟨q1, q2, q3⟩ := b_1 (S - T) (by omega) P (by omega) p1
  have sP := ss_ad (dd := dd) hn (show S - T < 32 by omega) (show P < 32 by omega) p1
  have hU : (S - T - P) &&& S = S - T - P := b_3 q2 t2
  obtain ⟨u1, u2, u3⟩ := b_1 S (by omega) (S - T - P) (by omega) hU
  have sU := ss_ad (dd := dd) hn (show S < 32 by omega) (show S - T - P < 32 by omega) hU
  have hPQ : P &&& (S - (S - T - P)) = P := b_5 _ (by omega) _ (by omega) (fun k hk hb => by
    have hR := ((q3 k hk).1).mpr (Or.inl hb)
    have hSk := ((t3 k hk).1).mpr (Or.inr hR)
    have hno : ¬ bt_P (S - T - P) k := fun z => (q3 k hk).2 ⟨hb, z⟩
    exact (((u3 k hk).1).mp hSk).resolve_left hno)
  have h := E_up (dd := dd) hn (show S - (S - T - P) < 2 ^ nn by omega) (by omega) hPQ (by omega)
  have hm := E_mono (dd := dd) hn S hS _ u2
  omega
theorem G_mono {dd : Nat → Int} {nn : Nat} (off : Nat) : ∀ P, P < 32 → ∀ S, S < 32 → P &&& S = P → G_N dd nn off P ≤ G_N dd nn off S := by
  intro P
  induction P using Nat.strongRecOn with
  | ind P ih =>
    intro hP S hS h
    rcases G_ex dd nn off P with q | ⟨T, h1, h2, ⟨g1, g2, g3⟩, h4⟩
    · omega
    · have hPle : P ≤ S := by rw [← h]; exact Nat.and_le_right
      have hTS : T &&& S = T := b_3 g1 h
      have hs := G_ge (dd := dd) (nn := nn) (off := off) h1 (show T ≤ S by omega) ⟨hTS, g2, g3⟩
      obtain ⟨t1, t2, t3⟩ := b_1 P hP T (by omega) g1
      obtain ⟨s1, s2, s3⟩ := b_1 S hS T (by omega) hTS
      have := ih (P - T) (by omega) (by omega) (S - T) (by omega) (b_5 _ (by omega) _ (by omega) (fun k hk hb => by
        have hPk := ((t3 k hk).1).mpr (Or.inr hb)
        have hSk := b_4 hS hP h hk hPk
        exact (((s3 k hk).1).mp hSk).resolve_left (fun z => (t3 k hk).2 ⟨z, hb⟩)))
      omega
theorem G_rm {dd : Nat → Int} {nn off p : Nat} (hoff : off < 32) (hp : p < 5) (hno : ¬ bt_P off p) : ∀ S, S < 32 → bt_P S p → G_N dd nn off S ≤ G_N dd nn off (S - 2 ^ p) := by
  intro S
  induction S using Nat.strongRecOn with
  | ind S ih =>
    intro hS hb
    have hp2 : 2 ^ p < 32 := Nat.pow_lt_pow_right (by decide) hp
    rcases G_ex dd nn off S with q | ⟨T, h1, h2, ⟨g1, g2, g3⟩, h4⟩
    · omega
    · have hT : T < 32 := by omega
      obtain ⟨t1, t2, t3⟩ := b_1 S hS T hT g1
      have hTp : ¬ bt_P T p := fun z => hno (b_4 hoff hT g2 hp z)
      have hpS := b_7a S hS p hp hb
      obtain ⟨s1, s2, s3⟩ := b_1 S hS (2 ^ p) hp2 hpS
      have hTS : T &&& (S - 2 ^ p) = T := b_5 _ (by omega) _ hT (fun k hk z => by
        have hSk := b_4 hS hT g1 hk z
        exact (((s3 k hk).1).mp hSk).resolve_left (fun y => hTp (by rw [← (b_7b p hp k hk).mp y]; exact z)))
      have hTle : T ≤ S - 2 ^ p := by rw [← hTS]; exact Nat.and_le_right
      have hs := G_ge (dd := dd) (nn := nn) (off := off) h1 hTle ⟨hTS, g2, g3⟩
      have hbT : bt_P (S - T) p := (((t3 p hp).1).mp hb).resolve_left hTp
      have := ih (S - T) (by omega) (by omega) hbT
      rw [Nat.sub_right_comm] at this
      omega
theorem EG {dd : Nat → Int} {nn off : Nat} (hn : nn ≤ 5) (hoff : off < 2 ^ nn) (ho : ∀ k, k < nn → (bt_P off k ↔ ¬ dd k = 0)) : ∀ S, S < 2 ^ nn → E_N dd nn S = G_N dd nn off S + ze_N dd nn S := by
  have h32 := pw_nn hn
  intro S
  induction S using Nat.strongRecOn with
  | ind S ih =>
    intro hS
    apply Nat.le_antisymm
    · obtain ⟨P, p1, p2, p3⟩ := E_ev (dd := dd) hn S hS
      have hPle : P ≤ S := by rw [← p1]; exact Nat.and_le_right
      by_cases q : P = S
      · subst q
        by_cases h0 : P = 0
        · subst h0
          exact Nat.zero_le _
        · have hQ : ∃ Q, Q &&& P = Q ∧ Q ≠ P ∧ ss_Z dd nn Q = 0 ∧ E_N dd nn P = E_N dd nn Q + 1 := by
            rcases E_ex (dd := dd) hn (show P < 32 by omega) (by omega) with h | ⟨j, h1, h2, h3, h4⟩
            · rw [if_pos p2] at h
              exact ⟨0, Nat.zero_and P, by omega, ss_zero dd nn, by rw [h]; rfl⟩
            · rw [if_pos p2] at h4
              obtain ⟨Q, q1, q2, q3⟩ := E_ev (dd := dd) hn (P - 2 ^ j) (by omega)
              have hle : Q ≤ P - 2 ^ j := by rw [← q1]; exact Nat.and_le_right
              refine ⟨Q, b_3 q1 ?_, by omega, q2, by omega⟩
              exact b_1b P (by omega) (2 ^ j) (Nat.pow_lt_pow_right (by decide) (show j < 5 by omega)) (b_7a P (by omega) j (by omega) h2)
          obtain ⟨Q, q1, q2, q3, q4⟩ := hQ
          have hle : Q ≤ P := by rw [← q1]; exact Nat.and_le_right
          obtain ⟨t1, t2, t3⟩ := b_1 P (by omega) Q (by omega) q1
          have sQ := ss_ad (dd := dd) hn (show P < 32 by omega) (show Q < 32 by omega) q1
          have z := ze_ad (dd := dd) hn (show P < 32 by omega) (show Q < 32 by omega) q1
          have e := ih Q (by omega) (by omega)
          by_cases hz : ∃ k, k < nn ∧ bt_P (P - Q) k ∧ dd k = 0
          · obtain ⟨k, k1, k2, k3⟩ := hz
            have g := G_mono (dd := dd) (nn := nn) off Q (by omega) P (by omega) q1
            have z1 := ze_1 k1 k2 k3
            omega
          · have hT : (P - Q) &&& off = P - Q := b_5 _ (by omega) _ (by omega) (fun k hk hb => by
              have hkn := b_6 nn hn (P - Q) (by omega) k hk hb
              exact (ho k hkn).mpr (fun y => hz ⟨k, hkn, hb, y⟩))
            have g := G_ge (dd := dd) (nn := nn) (off := off) (show 1 ≤ P - Q by omega) (show P - Q ≤ P by omega) ⟨t2, hT, by omega⟩
            rw [show P - (P - Q) = Q by omega] at g
            omega
      · have e := ih P (by omega) (by omega)
        have g := G_mono (dd := dd) (nn := nn) off P (by omega) S (by omega) p1
        have z := ze_ad (dd := dd) hn (show S < 32 by omega) (show P < 32 by omega) p1
        omega
    · by_cases hz : ∃ p, p < nn ∧ bt_P S p ∧ dd p = 0
      · obtain ⟨p, h1, h2, h3⟩ := hz
        have hpS := b_7a S (by omega) p (by omega) h2
        have hp2 : 2 ^ p < 32 := Nat.pow_lt_pow_right (by decide) (show p < 5 by omega)
        have hpos : 0 < 2 ^ p := Nat.two_pow_pos p
        have hle := b_1a S (by omega) (2 ^ p) hp2 hpS
        have e := ih (S - 2 ^ p) (by omega) (by omega)
        have g := G_rm (dd := dd) (nn := nn) (off := off) (by omega) (show p < 5 by omega) (fun z => (ho p h1).mp z h3) S (by omega) h2
        have z := ze_ad (dd := dd) hn (show S < 32 by omega) hp2 hpS
        have z1 := ze_s (dd := dd) hn h1 h3
        have hss : ss_Z dd nn (2 ^ p) = 0 := by
          unfold ss_Z
          rw [fb_si_cong (g := fun k => (0 : Int) * dd k) (fun k hk => by
            rw [Int.zero_mul]
            by_cases y : bt_P (2 ^ p) k
            · rw [if_pos y, (b_7b p (by omega) k (by omega)).mp y, h3]
            · rw [if_neg y]), fb_si_mul, Int.zero_mul]
        have a := E_add (dd := dd) hn hS hpS (by omega) hss
        omega
      · have z0 := ze_0 (dd := dd) (nn := nn) (S := S) (fun k hk hb z => hz ⟨k, hk, hb, z⟩)
        rw [z0]
        rcases G_ex dd nn off S with q | ⟨T, h1, h2, ⟨g1, g2, g3⟩, h4⟩
        · omega
        · have a := E_add (dd := dd) hn hS g1 h1 g3
          have e := ih (S - T) (by omega) (by omega)
          omega
theorem G_off {dd : Nat → Int} {nn off : Nat} (hn : nn ≤ 5) (hoff : off < 2 ^ nn) (ho : ∀ k, k < nn → (bt_P off k ↔ ¬ dd k = 0)) : ∀ S, S < 2 ^ nn → G_N dd nn off S ≤ G_N dd nn off off := by
  have h32 := pw_nn hn
  intro S
  induction S using Nat.strongRecOn with
  | ind S ih =>
    intro hS
    by_cases hz : ∃ p, p < nn ∧ bt_P S p ∧ dd p = 0
    · obtain ⟨p, h1, h2, h3⟩ := hz
      have hp2 : 2 ^ p < 32 := Nat.pow_lt_pow_right (by decide) (show p < 5 by omega)
      have hpos : 0 < 2 ^ p := Nat.two_pow_pos p
      have hle := b_1a S (by omega) (2 ^ p) hp2 (b_7a S (by omega) p (by omega) h2)
      have g := G_rm (dd := dd) (nn := nn) (off := off) (by omega) (show p < 5 by omega) (fun z => (ho p h1).mp z h3) S (by omega) h2
      have e := ih (S - 2 ^ p) (by omega) (by omega)
      omega
    · exact G_mono off S (by omega) off (by omega) (b_5 _ (by omega) _ (by omega) (fun k hk hb => by
        have hkn := b_6 nn hn S hS k hk hb
        exact (ho k hkn).mpr (fun y => hz ⟨k, hkn, hb, y⟩)))
theorem b_8 : ∀ nn : Nat, nn ≤ 5 → ∀ k : Nat, k < nn → bt_P (2 ^ nn - 1) k := by decide +kernel
theorem i_can (a b c : Int32) : a + b - (c + a) = b - c := by
  rw [Int32.sub_eq_add_neg, Int32.sub_eq_add_neg, Int32.neg_add, Int32.sub_eq_add_neg, Int32.add_comm a b, Int32.add_assoc, ← Int32.add_assoc a, Int32.add_comm a (-c), Int32.add_assoc (-c), Int32.add_right_neg, Int32.add_zero]
theorem st_sg {nn : Nat} (ow : Nat → Nat) (hn : nn ≤ 5) : st_I nn ow = sg_I nn ow := by
  unfold st_I sg_I
  generalize dd_Z nn ow = dd
  have h32 := pw_nn hn
  have hpos : 0 < 2 ^ nn := Nat.two_pow_pos nn
  have hoff := of_lt dd nn
  have eo : of_B dd nn = bs_N (fun p => ¬ dd p = 0) nn := fb_sm_cong (fun k _ => by
    by_cases q : dd k = 0
    · rw [if_pos q, if_neg (fun z => z q)]
    · rw [if_neg q, if_pos q])
  have ho : ∀ k, k < nn → (bt_P (of_B dd nn) k ↔ ¬ dd k = 0) := fun k hk => by
    rw [eo]
    exact bs_bt (fun p => ¬ dd p = 0) nn k hk
  generalize of_B dd nn = off at hoff ho
  have hE := EG hn hoff ho (2 ^ nn - 1) (by omega)
  have hG : G_N dd nn off (2 ^ nn - 1) = G_N dd nn off off := Nat.le_antisymm (G_off hn hoff ho _ (by omega)) (G_mono off off (by omega) _ (by omega) (b_5 _ (by omega) _ (by omega) (fun k hk hb => b_8 nn hn k (b_6 nn hn off hoff k hk hb))))
  have hz : ze_N dd nn (2 ^ nn - 1) + pn_N off = nn := by
    have e1 : pn_N off = fb_sm (fun k => off / 2 ^ k % 2) nn := by
      unfold pn_N
      have := fb_sm_split (fun k => off / 2 ^ k % 2) nn (6 - nn)
      rw [show nn + (6 - nn) = 6 by omega] at this
      rw [this, fb_sm_cong (f := fun k => off / 2 ^ (nn + k) % 2) (g := fun _ => 0) (fun k _ => by
        rw [Nat.div_eq_of_lt (Nat.lt_of_lt_of_le hoff (Nat.pow_le_pow_right (by decide) (by omega)))]), fb_sm_const]
      omega
    rw [e1]
    unfold ze_N
    rw [← fb_sm_add, fb_sm_cong (g := fun _ => 1) (fun k hk => by
      have hf := b_8 nn hn k hk
      have hk2 := ho k hk
      by_cases q : dd k = 0
      · rw [if_pos ⟨hf, q⟩]
        have : ¬ off / 2 ^ k % 2 = 1 := fun z => hk2.mp z q
        omega
      · rw [if_neg (fun z => q z.2)]
        have : off / 2 ^ k % 2 = 1 := hk2.mpr q
        omega), fb_sm_const, Nat.mul_one]
  rw [E_lt (show 2 ^ nn - 1 < 2 ^ nn by omega), G_lt hoff, hE, hG]
  generalize G_N dd nn off off = g
  have hz2 : nI nn = nI (ze_N dd nn (2 ^ nn - 1)) + nI (pn_N off) := by rw [nI_add, hz]
  rw [hz2, ← nI_add g]
  exact i_can _ _ _
