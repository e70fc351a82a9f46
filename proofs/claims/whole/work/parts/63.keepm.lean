/-! the noons that may be undone: the reference's -/
theorem shiftB_q (n : Nat) : ∀ (M : xM) (k : Int), 0 ≤ k → k ≤ 126 → 126 - k < (n : Int) → yk (fX12_keeps_L11 n M k) fun M' => (∀ o, o ≠ 97 → M' o = M o) ∧ ∀ j, M' 97 j = if k ≤ j ∧ j < 126 then M 97 (j + 14) else M 97 j := by
  induction n with
  | zero => intro M k h0 h1 h2; omega
  | succ n ih =>
    intro M k h0 h1 h2
    unfold fX12_keeps_L11
    by_cases h : k < 126
    · rw [if_pos (by rw [wr_id (by omega) (by omega), wr_id (by omega) (by omega)]; exact h), xrd_at (by omega) (by omega) (by omega), xwt_at (by omega) (by omega) (by omega)]
      refine yk.mono (ih _ (k + 1) (by omega) (by omega) (by omega)) ?_
      intro M' q
      refine ⟨fun o ho => by rw [q.1 o ho, xup_o ho], ?_⟩
      intro j
      rw [q.2 j]
      by_cases e : j = k
      · subst e
        rw [if_neg (by omega), xup_e rfl, if_pos (by omega)]
      · rw [xup_n e]
        by_cases h5 : k ≤ j ∧ j < 126
        · rw [if_pos (by omega), if_pos h5, xup_n (by omega)]
        · rw [if_neg (by omega), if_neg h5]
    · rw [if_neg (by rw [wr_id (by omega) (by omega), wr_id (by omega) (by omega)]; exact h)]
      exact ⟨_, rfl, fun _ _ => rfl, fun j => by rw [if_neg (by omega)]⟩
theorem coinsB_q {b : Int} (hb : 0 ≤ b ∧ b + 14 ≤ 140) (n : Nat) : ∀ (M : xM) (p : Int), 0 ≤ p → p ≤ 10 → 10 - p < (n : Int) → yk (fX12_keeps_L98 n M b p) fun M' => (∀ o, o ≠ 97 → M' o = M o) ∧ ∀ j, M' 97 j = if b + 3 + p ≤ j ∧ j < b + 13 then M 95 (23 + 4 * (j - (b + 3))) else M 97 j := by
  induction n with
  | zero => intro M p h0 h1 h2; omega
  | succ n ih =>
    intro M p h0 h1 h2
    unfold fX12_keeps_L98
    by_cases h : p < 10
    · rw [if_pos (by rw [wr_id (by omega) (by omega), wr_id (by omega) (by omega)]; exact h), of0_e (a := 23 + 4 * p) (by omega) (by omega) (by omega), xb_some, xwt_at (by omega) (by omega) (by omega)]
      refine yk.mono (ih _ (p + 1) (by omega) (by omega) (by omega)) ?_
      intro M' q
      refine ⟨fun o ho => by rw [q.1 o ho, xup_o ho], ?_⟩
      intro j
      rw [q.2 j, xup_o (show 95 ≠ 97 by omega)]
      by_cases e : j = b + 3 + p
      · have e2 : j - (b + 3) = p := by omega
        rw [if_neg (by omega), xup_e e, if_pos (by omega), e2]
      · rw [xup_n e]
        by_cases h5 : b + 3 + p ≤ j ∧ j < b + 13
        · rw [if_pos (by omega), if_pos h5]
        · rw [if_neg (by omega), if_neg h5]
    · rw [if_neg (by rw [wr_id (by omega) (by omega), wr_id (by omega) (by omega)]; exact h)]
      exact ⟨_, rfl, fun _ _ => rfl, fun j => by rw [if_neg (by omega)]⟩
theorem keepsM_e {M : xM} (hb : 0 ≤ M 94 3 ∧ M 94 3 ≤ 10) : yk (fX12_keeps M) fun M' => (∀ o, o ≠ 94 → o ≠ 97 → M' o = M o) ∧ (∀ j, j ≠ 3 → M' 94 j = M 94 j) ∧ M' 94 3 = kB1 (M 94 3) + 1 ∧ M' 97 = keepB (M 95) (M 97) (M 94 3) := by
  have kr : 0 ≤ kB1 (M 94 3) ∧ kB1 (M 94 3) ≤ 9 := by
    unfold kB1
    split <;> omega
  -- behind the shift
  have tail : ∀ M1 : xM, (∀ o, o ≠ 94 → o ≠ 97 → M1 o = M o) → (∀ j, j ≠ 3 → M1 94 j = M 94 j) → M1 94 3 = kB1 (M 94 3) → (∀ j, M1 97 j = if M 94 3 = 10 ∧ 0 ≤ j ∧ j < 126 then M 97 (j + 14) else M 97 j) → yk (xwt M1 97 140 (14 * (M1 94 3)) (M1 95 1) fun M3 => xwt M3 97 140 ((14 * (M1 94 3)) + 1) (M3 95 2) fun M4 => xwt M4 97 140 ((14 * (M1 94 3)) + 2) (M4 95 3) fun M5 => xb (fX12_keeps_L98 xfuel M5 (14 * (M1 94 3)) 0) fun M9 => xlet (xup M9 94 3 ((M9 94 3) + 1)) fun M11 => some M11) fun M' => (∀ o, o ≠ 94 → o ≠ 97 → M' o = M o) ∧ (∀ j, j ≠ 3 → M' 94 j = M 94 j) ∧ M' 94 3 = kB1 (M 94 3) + 1 ∧ M' 97 = keepB (M 95) (M 97) (M 94 3) := by
    intro M1 f1 f2 f3 f4
    have w := f1 95 (by omega) (by omega)
    rw [f3]
    generalize hk : kB1 (M 94 3) = k at *
    rw [xwt_at (by omega) (by omega) (by omega), xwt_at (by omega) (by omega) (by omega), xwt_at (by omega) (by omega) (by omega), yk_xb]
    refine yk.mono (coinsB_q (b := 14 * k) (by omega) xfuel _ 0 (by omega) (by omega) (by unfold xfuel; omega)) ?_
    intro M9 q
    rw [yk_xlet, yk_some]
    have g94 : M9 94 = M1 94 := by rw [q.1 94 (by omega), xup_o (by omega), xup_o (by omega), xup_o (by omega)]
    refine ⟨?_, ?_, ?_, ?_⟩
    · intro o o1 o2
      rw [xup_o o1, q.1 o o2, xup_o o2, xup_o o2, xup_o o2]
      exact f1 o o1 o2
    · intro j hj
      rw [xup_n hj, g94]
      exact f2 j hj
    · rw [xup_e rfl, g94, f3]
    · funext j
      rw [xup_o (by omega), q.2 j]
      unfold keepB
      rw [hk]
      simp (disch := omega) only [xup_o, w]
      rw [xup_s, xup_s, xup_s, f4 j]
      by_cases c0 : j = 14 * k
      · rw [if_neg (by omega), if_neg (by omega), if_neg (by omega), if_pos c0, if_pos c0]
      · rw [if_neg (c := j = 14 * k) c0, if_neg (c := j = 14 * k) c0]
        by_cases c1 : j = 14 * k + 1
        · rw [if_neg (by omega), if_neg (by omega), if_pos c1, if_pos c1]
        · rw [if_neg (c := j = 14 * k + 1) c1, if_neg (c := j = 14 * k + 1) c1]
          by_cases c2 : j = 14 * k + 2
          · rw [if_neg (by omega), if_pos c2, if_pos c2]
          · rw [if_neg (c := j = 14 * k + 2) c2, if_neg (c := j = 14 * k + 2) c2]
            by_cases c3 : 14 * k + 3 ≤ j ∧ j < 14 * k + 13
            · rw [if_pos (by omega), if_pos c3]
            · rw [if_neg (by omega), if_neg c3]
  unfold fX12_keeps
  rw [yk_xj]
  have e10 : wr 10 = 10 := by decide
  rw [e10, wr_id (by omega) (by omega)]
  by_cases h : M 94 3 = 10
  · rw [if_pos h, yk_xb]
    refine yk.mono (shiftB_q xfuel M 0 (by omega) (by omega) (by unfold xfuel; omega)) ?_
    intro M14 q
    rw [yk_xlet]
    refine tail _ ?_ ?_ ?_ ?_
    · intro o o1 o2
      rw [xup_o o1, q.1 o o2]
    · intro j hj
      rw [xup_n hj, q.1 94 (by omega)]
    · rw [xup_e rfl, q.1 94 (by omega)]
      unfold kB1
      rw [if_pos h]
      omega
    · intro j
      rw [xup_o (by omega), q.2 j]
      by_cases h5 : 0 ≤ j ∧ j < 126
      · rw [if_pos h5, if_pos ⟨h, h5⟩]
      · rw [if_neg h5, if_neg (fun w => h5 w.2)]
  · rw [if_neg h]
    refine tail M (fun _ _ _ => rfl) (fun _ _ => rfl) ?_ ?_
    · unfold kB1
      rw [if_neg h]
    · intro j
      rw [if_neg (fun w => h w.1)]
