/-! a noon: the reference's book -/
theorem shiftW_q {t : Int} (n : Nat) : ∀ (M : xM) (k : Int), 1490 ≤ k → k ≤ 2308 → 2308 - k < (n : Int) → yk (fX12_writes_L17 n M t k) fun M' => (∀ o, o ≠ 95 → M' o = M o) ∧ ∀ j, M' 95 j = if k ≤ j ∧ j < 2308 then M 95 (j + 2) else M 95 j := by
  induction n with
  | zero => intro M k h0 h1 h2; omega
  | succ n ih =>
    intro M k h0 h1 h2
    unfold fX12_writes_L17
    by_cases h : k < 2308
    · rw [if_pos (by rw [wr_id (by omega) (by omega), wr_id (by omega) (by omega)]; exact h), xrd_at (by omega) (by omega) (by omega), xwt_at (by omega) (by omega) (by omega)]
      refine yk.mono (ih _ (k + 1) (by omega) (by omega) (by omega)) ?_
      intro M' q
      refine ⟨fun o ho => by rw [q.1 o ho, xup_o ho], ?_⟩
      intro j
      rw [q.2 j]
      by_cases e : j = k
      · subst e
        rw [if_neg (by omega), xup_e rfl, if_pos (by omega)]
      · rw [xup_n e]
        by_cases h5 : k ≤ j ∧ j < 2308
        · rw [if_pos (by omega), if_pos h5, xup_n (by omega)]
        · rw [if_neg (by omega), if_neg h5]
    · rw [if_neg (by rw [wr_id (by omega) (by omega), wr_id (by omega) (by omega)]; exact h)]
      exact ⟨_, rfl, fun _ _ => rfl, fun j => by rw [if_neg (by omega)]⟩
theorem writesM_e {M : xM} {t : Int} (h9 : 0 ≤ M 95 9 ∧ M 95 9 ≤ 410) : yk (fX12_writes M t) fun M' => (∀ o, o ≠ 95 → M' o = M o) ∧ ∀ j, M' 95 j = if j = 9 then min (M 95 9 + 1) 410 else if 1490 ≤ j ∧ j < 2310 then (if M 95 9 = 410 then (if j < 2308 then M 95 (j + 2) else if j = 2308 then M 95 2 else t) else if j = 1490 + 2 * M 95 9 then M 95 2 else if j = 1491 + 2 * M 95 9 then t else M 95 j) else M 95 j := by
  unfold fX12_writes
  rw [yk_xj]
  have e410 : wr 410 = 410 := by decide
  rw [e410, wr_id (x := M 95 9) (by omega) (by omega)]
  by_cases h : M 95 9 = 410
  · rw [if_pos h, yk_xb]
    refine yk.mono (shiftW_q xfuel M 1490 (by omega) (by omega) (by unfold xfuel; omega)) ?_
    intro M8 q
    have c9 : M8 95 9 = 410 := by rw [q.2 9, if_neg (by omega)]; exact h
    have c2 : M8 95 2 = M 95 2 := by rw [q.2 2, if_neg (by omega)]
    rw [yk_xlet]
    have d9 : xup M8 95 9 (M8 95 9 - 1) 95 9 = 409 := by rw [xup_e rfl, c9]; omega
    have d2 : xup M8 95 9 (M8 95 9 - 1) 95 2 = M 95 2 := by rw [xup_n (by omega)]; exact c2
    dsimp only
    rw [d9, xwt_at (by omega) (by omega) (by omega), d2]
    have d9' : xup (xup M8 95 9 (M8 95 9 - 1)) 95 (1490 + 2 * 409) (M 95 2) 95 9 = 409 := by rw [xup_n (by omega)]; exact d9
    rw [d9', xwt_at (by omega) (by omega) (by omega), yk_xlet, yk_some]
    have d9'' : xup (xup (xup M8 95 9 (M8 95 9 - 1)) 95 (1490 + 2 * 409) (M 95 2)) 95 (1490 + 2 * 409 + 1) t 95 9 = 409 := by rw [xup_n (by omega)]; exact d9'
    rw [d9'']
    refine ⟨fun o ho => by rw [xup_o ho, xup_o ho, xup_o ho, xup_o ho, q.1 o ho], ?_⟩
    intro j
    rw [xup_s, xup_s, xup_s, xup_s, q.2 j, h]
    by_cases j9 : j = 9
    · rw [if_pos j9, if_pos j9]
      omega
    · rw [if_neg (c := j = 9) j9, if_neg (c := j = 9) j9, if_neg (c := j = 9) j9]
      by_cases hb : 1490 ≤ j ∧ j < 2310
      · rw [if_pos hb, if_pos rfl]
        by_cases a : j < 2308
        · rw [if_pos a, if_neg (by omega), if_neg (by omega), if_pos ⟨hb.1, a⟩]
        · rw [if_neg a]
          by_cases b : j = 2308
          · rw [if_pos b, if_neg (by omega), if_pos (by omega)]
          · rw [if_neg b, if_pos (by omega)]
      · rw [if_neg hb, if_neg (by omega), if_neg (by omega), if_neg (by omega)]
  · rw [if_neg h]
    dsimp only
    rw [xwt_at (by omega) (by omega) (by omega)]
    have d9' : xup M 95 (1490 + 2 * M 95 9) (M 95 2) 95 9 = M 95 9 := xup_n (by omega)
    rw [d9', xwt_at (by omega) (by omega) (by omega), yk_xlet, yk_some]
    have d9'' : xup (xup M 95 (1490 + 2 * M 95 9) (M 95 2)) 95 (1490 + 2 * M 95 9 + 1) t 95 9 = M 95 9 := by rw [xup_n (by omega)]; exact d9'
    rw [d9'']
    refine ⟨fun o ho => by rw [xup_o ho, xup_o ho, xup_o ho], ?_⟩
    intro j
    rw [xup_s, xup_s, xup_s]
    by_cases j9 : j = 9
    · rw [if_pos j9, if_pos j9]
      omega
    · rw [if_neg (c := j = 9) j9, if_neg (c := j = 9) j9]
      by_cases hb : 1490 ≤ j ∧ j < 2310
      · rw [if_pos hb, if_neg h]
        by_cases a : j = 1490 + 2 * M 95 9
        · rw [if_pos a, if_neg (by omega), if_pos a]
        · rw [if_neg (c := j = 1490 + 2 * M 95 9) a]
          by_cases b : j = 1491 + 2 * M 95 9
          · rw [if_pos (show j = 1490 + 2 * M 95 9 + 1 by omega), if_pos b]
            try rw [if_neg a]
          · rw [if_neg (show ¬ j = 1490 + 2 * M 95 9 + 1 by omega), if_neg b]
            try rw [if_neg a]
      · rw [if_neg hb, if_neg (by omega), if_neg (by omega)]
