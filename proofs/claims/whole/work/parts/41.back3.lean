/-! turns told back: the class -/
theorem den1_q {a b d : Int} (hd : 0 ≤ d ∧ d < 40) (n : Nat) : ∀ (M : xM) (k : Int), 4 ≤ M 1 0 ∧ M 1 0 ≤ 24 → 0 ≤ k → k ≤ M 1 0 → M 1 0 - k < n → yk (fX8_countRows_L24 n M a b d k) fun M' => (∀ o, o ≠ 78 → M' o = M o) ∧ ∀ j, M' 78 j = if d * 24 + k ≤ j ∧ j < d * 24 + M 1 0 then 0 else M 78 j := by
  induction n with
  | zero => intro M k h0 h1 h2; omega
  | succ n ih =>
    intro M k hN h0 h1 h2
    unfold fX8_countRows_L24
    by_cases h : k < M 1 0
    · rw [if_pos (by rw [wr_id (by omega) (by omega), wr_id (by omega) (by omega)]; exact h), xwt_at (by omega) (by omega) (by omega)]
      have w : xup M 78 (d * 24 + k) 0 1 = M 1 := xup_o (by omega)
      refine yk.mono (ih _ (k + 1) (by rw [w]; exact hN) (by omega) (by rw [w]; omega) (by rw [w]; omega)) ?_
      intro M' q
      rw [w] at q
      refine ⟨fun o ho => by rw [q.1 o ho, xup_o ho], ?_⟩
      intro j
      rw [q.2 j]
      by_cases hj : j = d * 24 + k
      · rw [xup_e hj, if_neg (by omega), if_pos (by omega)]
      · rw [xup_n hj]
        by_cases h5 : d * 24 + k ≤ j ∧ j < d * 24 + M 1 0
        · rw [if_pos (by omega), if_pos h5]
        · rw [if_neg (by omega), if_neg h5]
    · rw [if_neg (by rw [wr_id (by omega) (by omega), wr_id (by omega) (by omega)]; exact h)]
      exact ⟨_, rfl, fun o ho => rfl, fun j => by rw [if_neg (by omega)]⟩
theorem den2_q {a b m N : Int} (hm : 1 ≤ m ∧ m ≤ 40) (hN : 4 ≤ N ∧ N ≤ 24) (n : Nat) : ∀ (M : xM) (v : Int), M 1 0 = N → M 75 2 = m → 0 ≤ v → v ≤ m → m - v < n → (∀ d q, 0 ≤ d → d < v → 0 ≤ q → q < N → M 78 (d * 24 + q) = 0) → yk (fX8_countRows_L12 n M a b v) fun M' => (∀ o, o ≠ 78 → M' o = M o) ∧ ∀ d q, 0 ≤ d → d < m → 0 ≤ q → q < N → M' 78 (d * 24 + q) = 0 := by
  induction n with
  | zero => intro M v hM h0 h1 h2; omega
  | succ n ih =>
    intro M v hM hM2 h0 h1 h2 hz
    unfold fX8_countRows_L12
    by_cases h : v < m
    · rw [if_pos (by rw [hM2, wr_id (by omega) (by omega), wr_id (by omega) (by omega)]; exact h), yk_xb]
      refine yk.mono (den1_q (by omega) xfuel M 0 (by omega) (by omega) (by omega) (by unfold xfuel; omega)) ?_
      intro M1 q1
      refine yk.mono (ih M1 (v + 1) (by rw [q1.1 1 (by omega)]; exact hM) (by rw [q1.1 75 (by omega)]; exact hM2) (by omega) (by omega) (by omega) ?_) ?_
      · intro d q d0 d1 q0 q2
        rw [q1.2, hM]
        by_cases e : d = v
        · rw [if_pos (by omega)]
        · rw [if_neg (by omega)]
          exact hz d q d0 (by omega) q0 q2
      · intro M2 q2
        exact ⟨fun o ho => by rw [q2.1 o ho, q1.1 o ho], q2.2⟩
    · rw [if_neg (by rw [hM2, wr_id (by omega) (by omega), wr_id (by omega) (by omega)]; exact h)]
      exact ⟨_, rfl, fun o ho => rfl, fun d q d0 d1 q0 q1 => hz d q d0 (by omega) q0 q1⟩
theorem deny_q {l d p la N pl : Int} (hd : 0 ≤ d ∧ d < 40) (hl : 0 ≤ l ∧ l < 40) (hN : 4 ≤ N ∧ N ≤ 24) (hp : 0 ≤ p ∧ p < 10) (hpl : 0 ≤ pl ∧ pl < 24) (hla : 0 ≤ la ∧ la < 24) (n : Nat) : ∀ (M : xM) (k : Int), M 1 0 = N → M 25 l = p → M 26 l = la → M 6 p = pl → 0 ≤ k → k ≤ N → N - k < n → yk (fX8_denyUnlike_L3 n M l d k) fun M' => (∀ o, o ≠ 78 → M' o = M o) ∧ ∀ j, M' 78 j = if (d * 24 + k ≤ j ∧ j < d * 24 + N) ∧ (pl + (j - d * 24)) % N ≠ la then 1 else M 78 j := by
  induction n with
  | zero => intro M k h0 h1 h2; omega
  | succ n ih =>
    intro M k e1 e2 e3 e4 h0 h1 h2
    unfold fX8_denyUnlike_L3
    by_cases h : k < N
    · have md := md_rng (a := pl + k) (n := N) (by omega)
      have ean : fX1_angleOf M p k = some ((pl + k) % N) := by
        unfold fX1_angleOf
        rw [xrd_at (by omega) (by omega) (by omega), e4, e1, wrap_eq (by omega) (by omega) (by omega) (by omega)]
        rfl
      rw [if_pos (by rw [e1, wr_id (by omega) (by omega), wr_id (by omega) (by omega)]; exact h), xrd_at (by omega) (by omega) (by omega), e2, ean, xb_some, xrd_at (by omega) (by omega) (by omega), e3, wr_id (by omega) (by omega), wr_id (by omega) (by omega)]
      by_cases hq : (pl + k) % N = la
      · rw [if_pos hq]
        refine yk.mono (ih M (k + 1) e1 e2 e3 e4 (by omega) (by omega) (by omega)) ?_
        intro M' q
        refine ⟨q.1, ?_⟩
        intro j
        rw [q.2 j]
        by_cases hj : j = d * 24 + k
        · have e9 : j - d * 24 = k := by omega
          rw [if_neg (by omega), if_neg (by rw [e9]; exact fun w => w.2 hq)]
        · by_cases h5 : (d * 24 + k ≤ j ∧ j < d * 24 + N) ∧ (pl + (j - d * 24)) % N ≠ la
          · rw [if_pos ⟨by omega, h5.2⟩, if_pos h5]
          · rw [if_neg (fun w => h5 ⟨by omega, w.2⟩), if_neg h5]
      · rw [if_neg hq, xwt_at (by omega) (by omega) (by omega)]
        refine yk.mono (ih _ (k + 1) (by rw [xup_o (by omega)]; exact e1) (by rw [xup_o (by omega)]; exact e2) (by rw [xup_o (by omega)]; exact e3) (by rw [xup_o (by omega)]; exact e4) (by omega) (by omega) (by omega)) ?_
        intro M' q
        refine ⟨fun o ho => by rw [q.1 o ho, xup_o ho], ?_⟩
        intro j
        rw [q.2 j]
        by_cases hj : j = d * 24 + k
        · have e9 : j - d * 24 = k := by omega
          rw [if_neg (by omega), xup_e hj, if_pos ⟨by omega, by rw [e9]; exact hq⟩]
        · rw [xup_n hj]
          by_cases h5 : (d * 24 + k ≤ j ∧ j < d * 24 + N) ∧ (pl + (j - d * 24)) % N ≠ la
          · rw [if_pos ⟨by omega, h5.2⟩, if_pos h5]
          · rw [if_neg (fun w => h5 ⟨by omega, w.2⟩), if_neg h5]
    · rw [if_neg (by rw [e1, wr_id (by omega) (by omega), wr_id (by omega) (by omega)]; exact h)]
      exact ⟨_, rfl, fun o ho => rfl, fun j => by rw [if_neg (by omega)]⟩
section CB
variable {W : Int → Int} {M0 : xM} {a b : Int}
theorem den3_q (i : rI M0 W) (g : gW W) (ha : 0 ≤ a) (hb : b ≤ 9999) (hm : 1 ≤ b - a + 1 ∧ b - a + 1 ≤ 40) (m : Nat) : ∀ (n : Nat) (M : xM) (v : Nat), (∀ o, o < 75 → M o = M0 o) → (v : Int) + m = W 8 → m < n → (∀ d q, 0 ≤ d → d < b - a + 1 → 0 ≤ q → q < W 0 → M 78 (d * 24 + q) = if nB (sBad W (a + d) q) v = true then 0 else 1) → yk (fX8_countRows_L62 n M a b v) fun M' => (∀ o, o ≠ 78 → M' o = M o) ∧ ∀ d q, 0 ≤ d → d < b - a + 1 → 0 ≤ q → q < W 0 → M' 78 (d * 24 + q) = if sGoes W (a + d) q = true then 0 else 1 := by
  have gb := g.1
  have iB := i.1
  unfold gB at gb
  unfold rB at iB
  induction m with
  | zero =>
    intro n M v hM h1 h2 hz
    obtain ⟨n', rfl⟩ : ∃ n', n = n' + 1 := ⟨n - 1, by omega⟩
    unfold fX8_countRows_L62
    rw [hM 23 (by omega), iB.2.2.2.2, if_neg (by rw [wr_id (by omega) (by omega), wr_id (by omega) (by omega)]; omega)]
    refine ⟨_, rfl, fun o ho => rfl, ?_⟩
    have e : v = (W 8).toNat := by omega
    rw [e] at hz
    exact hz
  | succ m ih =>
    intro n M v hM h1 h2 hz
    obtain ⟨n', rfl⟩ : ∃ n', n = n' + 1 := ⟨n - 1, by omega⟩
    have il := i.2.2.2.2.2.2.2.1 v (by omega) (by omega)
    have gl := g.2.2.2.2.2.2.2.2.1 v (by omega) (by omega)
    have gp := (g.2.2.2.2.1 _ gl.2.1.1 gl.2.1.2).1
    have ip := (i.2.2.2.2.1 _ gl.2.1.1 gl.2.1.2).1
    have e3 : (v : Int) + 1 = ((v + 1 : Nat) : Int) := by omega
    have nb : ∀ d q, nB (sBad W (a + d) q) (v + 1) = (nB (sBad W (a + d) q) v && !sBad W (a + d) q v) := fun d q => rfl
    unfold fX8_countRows_L62
    rw [if_pos (by rw [hM 23 (by omega), iB.2.2.2.2, wr_id (by omega) (by omega), wr_id (by omega) (by omega)]; omega), xrd_at (by omega) (by omega) (by omega), xrd_at (by omega) (by omega) (by omega), hM 24 (by omega), il.1, within_eq (by omega) (by omega) (by omega) (by omega) (by omega) (by omega), e3]
    by_cases hin : a ≤ W (490 + 3 * (v : Int)) ∧ W (490 + 3 * (v : Int)) ≤ b
    · rw [if_pos (by rw [decide_eq_true_eq]; exact hin), yk_xb]
      unfold fX8_denyUnlike
      rw [yk_xb]
      refine yk.mono (deny_q (N := W 0) (p := W (491 + 3 * (v : Int))) (la := W (492 + 3 * (v : Int))) (pl := W (20 + 4 * W (491 + 3 * (v : Int)))) (by omega) (by omega) (by omega) (by omega) (by omega) (by omega) xfuel M 0 (by rw [hM 1 (by omega)]; exact iB.1.1) (by rw [hM 25 (by omega)]; exact il.2.1) (by rw [hM 26 (by omega)]; exact il.2.2) (by rw [hM 6 (by omega)]; exact ip) (by omega) (by omega) (by unfold xfuel; omega)) ?_
      intro M1 q1
      rw [yk_some]
      refine yk.mono (ih n' M1 (v + 1) (fun o ho => by rw [q1.1 o (by omega), hM o ho]) (by omega) (by omega) ?_) ?_
      · intro d q d0 d1 q0 q2
        rw [q1.2, nb d q, hz d q d0 d1 q0 q2]
        by_cases e : d = W (490 + 3 * (v : Int)) - a
        · have e9 : d * 24 + q - (W (490 + 3 * (v : Int)) - a) * 24 = q := by omega
          by_cases hbq : (W (20 + 4 * W (491 + 3 * (v : Int))) + q) % W 0 = W (492 + 3 * (v : Int))
          · have sb : sBad W (a + d) q v = false := by unfold sBad; rw [decide_eq_false_iff_not]; exact fun w => w.2 hbq
            rw [if_neg (by rw [e9]; exact fun w => w.2 hbq), sb, Bool.not_false, Bool.and_true]
          · have sb : sBad W (a + d) q v = true := by unfold sBad; rw [decide_eq_true_eq]; exact ⟨by omega, hbq⟩
            rw [if_pos ⟨by omega, by rw [e9]; exact hbq⟩, sb, Bool.not_true, Bool.and_false]
            rfl
        · have sb : sBad W (a + d) q v = false := by unfold sBad; rw [decide_eq_false_iff_not]; intro w; omega
          rw [if_neg (by omega), sb, Bool.not_false, Bool.and_true]
      · intro M2 q2
        exact ⟨fun o ho => by rw [q2.1 o ho, q1.1 o ho], q2.2⟩
    · rw [if_neg (by rw [decide_eq_true_eq]; exact hin)]
      refine ih n' M (v + 1) hM (by omega) (by omega) ?_
      intro d q d0 d1 q0 q2
      have sb : sBad W (a + d) q v = false := by unfold sBad; rw [decide_eq_false_iff_not]; intro w; omega
      rw [nb d q, hz d q d0 d1 q0 q2, sb, Bool.not_false, Bool.and_true]
theorem waysK1_q {N m : Int} (hm : 0 ≤ m ∧ m ≤ 40) (hN : 4 ≤ N ∧ N ≤ 24) (n : Nat) : ∀ (M : xM) (k : Int), M 75 2 = m → 0 ≤ k → k ≤ N → N - k < n → yk (fX8_countWays_L2 n M N k) fun M' => (∀ o, o ≠ 77 → M' o = M o) ∧ ∀ j, M' 77 j = if m * 24 + k ≤ j ∧ j < m * 24 + N then 1 else M 77 j := by
  induction n with
  | zero => intro M k h0 h1 h2; omega
  | succ n ih =>
    intro M k e1 h0 h1 h2
    unfold fX8_countWays_L2
    by_cases h : k < N
    · rw [if_pos (by rw [wr_id (by omega) (by omega), wr_id (by omega) (by omega)]; exact h), e1, xwt_at (by omega) (by omega) (by omega)]
      refine yk.mono (ih _ (k + 1) (by rw [xup_o (by omega)]; exact e1) (by omega) (by omega) (by omega)) ?_
      intro M' q
      refine ⟨fun o ho => by rw [q.1 o ho, xup_o ho], ?_⟩
      intro j
      rw [q.2 j]
      by_cases hj : j = m * 24 + k
      · rw [xup_e hj, if_neg (by omega), if_pos (by omega)]
      · rw [xup_n hj]
        by_cases h5 : m * 24 + k ≤ j ∧ j < m * 24 + N
        · rw [if_pos (by omega), if_pos h5]
        · rw [if_neg (by omega), if_neg h5]
    · rw [if_neg (by rw [wr_id (by omega) (by omega), wr_id (by omega) (by omega)]; exact h)]
      exact ⟨_, rfl, fun o ho => rfl, fun j => by rw [if_neg (by omega)]⟩
theorem behind_e {M : xM} {d k : Int} {r : Nat} (hd : 0 ≤ d ∧ d < 40) (hk : 0 ≤ k ∧ k < 24) (h78 : M 78 (d * 24 + k) = if sGoes W (b - r) k = true then 0 else 1) (h77 : M 77 ((d + 1) * 24 + k) = sWy W b r k) : fX8_waysBehind M d k = some (if sGoes W (b - r) k = true then sWy W b r k else 0) := by
  unfold fX8_waysBehind
  rw [xrd_at (by omega) (by omega) (by omega), h78]
  by_cases h : sGoes W (b - r) k = true
  · rw [if_pos h, if_pos h, if_pos (by decide), xrd_at (by omega) (by omega) (by omega), h77]
  · rw [if_neg h, if_neg h, if_neg (by decide)]
theorem waysK2_q {M : xM} {d k : Int} {r : Nat} (hN : 4 ≤ W 0 ∧ W 0 ≤ 24) (hd : 0 ≤ d ∧ d < 40) (hk : 0 ≤ k ∧ k < W 0) (h78 : ∀ q, 0 ≤ q → q < W 0 → M 78 (d * 24 + q) = if sGoes W (b - r) q = true then 0 else 1) (h77 : ∀ q, 0 ≤ q → q < W 0 → M 77 ((d + 1) * 24 + q) = sWy W b r q) {x : Int} {n : Nat} (hn : 4 ≤ n) : fX8_countWays_L52 n M (W 0) d k x 0 = some (x + (if sGoes W (b - r) ((k + 0) % W 0) = true then sWy W b r ((k + 0) % W 0) else 0) + (if sGoes W (b - r) ((k + 1) % W 0) = true then sWy W b r ((k + 1) % W 0) else 0) + (if sGoes W (b - r) ((k + -1) % W 0) = true then sWy W b r ((k + -1) % W 0) else 0)) := by
  have step : ∀ (n : Nat) (y j t : Int), 0 ≤ j → j < 3 → ([0, 1, -1] : List Int).getD j.toNat 0 = t → -1 ≤ t ∧ t ≤ 1 → fX8_countWays_L52 (n + 1) M (W 0) d k y j = fX8_countWays_L52 n M (W 0) d k (y + (if sGoes W (b - r) ((k + t) % W 0) = true then sWy W b r ((k + t) % W 0) else 0)) (j + 1) := by
    intro n y j t j0 j1 ht ht2
    have md := md_rng (a := k + t) (n := W 0) (by omega)
    conv => lhs; unfold fX8_countWays_L52
    rw [if_pos (by rw [wr_id (by omega) (by omega), wr_id (by omega) (by omega)]; omega), xtb_at (by omega) (by omega) (by omega), ht, wrap_eq (by omega) (by omega) (by omega) (by omega), xb_some, behind_e (W := W) (b := b) (r := r) hd (by omega) (h78 _ md.1 md.2) (h77 _ md.1 md.2), xb_some]
  obtain ⟨n', rfl⟩ : ∃ n', n = n' + 1 + 1 + 1 + 1 := ⟨n - 4, by omega⟩
  have z1 : (0 : Int) + 1 = 1 := by omega
  have z2 : (1 : Int) + 1 = 2 := by omega
  rw [step _ _ 0 0 (by omega) (by omega) rfl (by omega), z1, step _ _ 1 1 (by omega) (by omega) rfl (by omega), z2, step _ _ 2 (-1) (by omega) (by omega) rfl (by omega)]
  unfold fX8_countWays_L52
  rw [if_neg (by decide)]
theorem minL_e {x y : Int} (hx : -9000000000000000000 ≤ x ∧ x ≤ 9000000000000000000) (hy : -9000000000000000000 ≤ y ∧ y ≤ 9000000000000000000) : xminL x y = min x y := by
  unfold xminL
  rw [wl_i (by omega) (by omega), wl_i (by omega) (by omega)]
  split <;> omega
theorem waysK3_q {d : Int} {r : Nat} (hN : 4 ≤ W 0 ∧ W 0 ≤ 24) (hd : 0 ≤ d ∧ d < 40) (n : Nat) : ∀ (M : xM) (k : Int), 0 ≤ k → k ≤ W 0 → W 0 - k < n → (∀ q, 0 ≤ q → q < W 0 → M 78 (d * 24 + q) = if sGoes W (b - r) q = true then 0 else 1) → (∀ q, 0 ≤ q → q < W 0 → M 77 ((d + 1) * 24 + q) = sWy W b r q) → yk (fX8_countWays_L41 n M (W 0) d k) fun M' => (∀ o, o ≠ 77 → M' o = M o) ∧ (∀ j, ¬ (d * 24 + k ≤ j ∧ j < d * 24 + W 0) → M' 77 j = M 77 j) ∧ ∀ q, k ≤ q → q < W 0 → M' 77 (d * 24 + q) = sWy W b (r + 1) q := by
  induction n with
  | zero => intro M k h0 h1 h2; omega
  | succ n ih =>
    intro M k h0 h1 h2 h78 h77
    unfold fX8_countWays_L41
    by_cases h : k < W 0
    · rw [if_pos (by rw [wr_id (by omega) (by omega), wr_id (by omega) (by omega)]; exact h), waysK2_q (b := b) (r := r) hN hd ⟨h0, h⟩ h78 h77 (by unfold xfuel; omega), xb_some]
      have es : sWy W b (r + 1) k = min ((if sGoes W (b - r) ((k + 0) % W 0) = true then sWy W b r ((k + 0) % W 0) else 0) + (if sGoes W (b - r) ((k + 1) % W 0) = true then sWy W b r ((k + 1) % W 0) else 0) + (if sGoes W (b - r) ((k + -1) % W 0) = true then sWy W b r ((k + -1) % W 0) else 0)) 100000000000000000 := rfl
      have bd : ∀ q, 0 ≤ (if sGoes W (b - r) q = true then sWy W b r q else 0) ∧ (if sGoes W (b - r) q = true then sWy W b r q else 0) ≤ 100000000000000000 := by
        intro q
        have := sWy_rng W b r q
        split <;> omega
      have b0 := bd ((k + 0) % W 0)
      have b1 := bd ((k + 1) % W 0)
      have b2 := bd ((k + -1) % W 0)
      rw [xwt_at (by omega) (by omega) (by omega), minL_e (by omega) (by omega), Int.zero_add, ← es]
      refine yk.mono (ih _ (k + 1) (by omega) (by omega) (by omega) ?_ ?_) ?_
      · intro q q0 q1
        rw [xup_o (by omega)]
        exact h78 q q0 q1
      · intro q q0 q1
        rw [xup_n (by omega)]
        exact h77 q q0 q1
      · intro M' hM'
        refine ⟨fun o ho => by rw [hM'.1 o ho, xup_o ho], fun j hj => by rw [hM'.2.1 j (by omega), xup_n (by omega)], ?_⟩
        intro q q0 q1
        by_cases e : q = k
        · subst e
          rw [hM'.2.1 _ (by omega), xup_e rfl]
        · exact hM'.2.2 q (by omega) q1
    · rw [if_neg (by rw [wr_id (by omega) (by omega), wr_id (by omega) (by omega)]; exact h)]
      exact ⟨_, rfl, fun o ho => rfl, fun j hj => rfl, fun q q0 q1 => by omega⟩
theorem waysK4_q {m : Int} (hN : 4 ≤ W 0 ∧ W 0 ≤ 24) (hm : m = b - a + 1) (hm2 : 1 ≤ m ∧ m ≤ 40) (n : Nat) : ∀ (M : xM) (i : Int), -1 ≤ i → i < m → i + 1 < n → (∀ d q, 0 ≤ d → d < m → 0 ≤ q → q < W 0 → M 78 (d * 24 + q) = if sGoes W (a + d) q = true then 0 else 1) → (∀ d q, i < d → d ≤ m → 0 ≤ q → q < W 0 → M 77 (d * 24 + q) = sWy W b (m - d).toNat q) → yk (fX8_countWays_L35 n M (W 0) i) fun M' => (∀ o, o ≠ 77 → M' o = M o) ∧ ∀ d q, 0 ≤ d → d ≤ m → 0 ≤ q → q < W 0 → M' 77 (d * 24 + q) = sWy W b (m - d).toNat q := by
  induction n with
  | zero => intro M i h0 h1 h2; omega
  | succ n ih =>
    intro M i h0 h1 h2 h78 hw
    unfold fX8_countWays_L35
    by_cases h : i < 0
    · rw [if_pos (by rw [wr_id (by omega) (by omega)]; exact h)]
      exact ⟨_, rfl, fun o ho => rfl, fun d q d0 d1 q0 q1 => hw d q (by omega) d1 q0 q1⟩
    · rw [if_neg (by rw [wr_id (by omega) (by omega)]; exact h), yk_xb]
      have er : a + i = b - ((m - (i + 1)).toNat : Int) := by omega
      refine yk.mono (waysK3_q (b := b) (r := (m - (i + 1)).toNat) hN (by omega) xfuel M 0 (by omega) (by omega) (by unfold xfuel; omega) (fun q q0 q1 => by rw [← er]; exact h78 i q (by omega) h1 q0 q1) (fun q q0 q1 => hw (i + 1) q (by omega) (by omega) q0 q1)) ?_
      intro M1 q1
      have e4 : i + -1 = i - 1 := by omega
      rw [e4]
      refine yk.mono (ih M1 (i - 1) (by omega) (by omega) (by omega) ?_ ?_) ?_
      · intro d q d0 d1 q0 q2
        rw [q1.1 78 (by omega)]
        exact h78 d q d0 d1 q0 q2
      · intro d q d0 d1 q0 q2
        by_cases e : d = i
        · subst e
          have e5 : (m - d).toNat = (m - (d + 1)).toNat + 1 := by omega
          rw [q1.2.2 q q0 q2, e5]
        · rw [q1.2.1 _ (by omega)]
          exact hw d q (by omega) d1 q0 q2
      · intro M2 q2
        exact ⟨fun o ho => by rw [q2.1 o ho, q1.1 o ho], q2.2⟩
end CB
