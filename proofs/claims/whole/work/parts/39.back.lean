/-! turns told back: how many rows go on from an angle -/
theorem xb_some {α β : Type} {a : α} {F : α → Option β} : xb (some a) F = F a := rfl
def nB (P : Int → Bool) : Nat → Bool
  | 0 => true
  | n + 1 => nB P n && !P n
theorem nB_all {P : Int → Bool} (n : Nat) : nB P n = true ↔ ∀ i : Nat, i < n → P i = false := by
  induction n with
  | zero => exact ⟨fun _ i h => by omega, fun _ => rfl⟩
  | succ n ih =>
    show (nB P n && !P n) = true ↔ _
    rw [Bool.and_eq_true, ih]
    constructor
    · intro h i hi
      by_cases e : i = n
      · subst e
        have := h.2
        cases hp : P i
        · rfl
        · rw [hp] at this; cases this
      · exact h.1 i (by omega)
    · intro h
      refine ⟨fun i hi => h i (by omega), ?_⟩
      rw [h n (by omega)]
      rfl
def sBad (W : Int → Int) (d an i : Int) : Bool := decide (W (490 + 3 * i) = d ∧ (W (20 + 4 * W (491 + 3 * i)) + an) % W 0 ≠ W (492 + 3 * i))
def sGoes (W : Int → Int) (d an : Int) : Bool := nB (sBad W d an) (W 8).toNat
def sTn (k : Nat) : Int := match k with
  | 0 => 0
  | 1 => 1
  | _ => -1
def sWy (W : Int → Int) (b : Int) : Nat → Int → Int
  | 0, _ => 1
  | r + 1, k => min ((if sGoes W (b - r) ((k + 0) % W 0) = true then sWy W b r ((k + 0) % W 0) else 0) + (if sGoes W (b - r) ((k + 1) % W 0) = true then sWy W b r ((k + 1) % W 0) else 0) + (if sGoes W (b - r) ((k + -1) % W 0) = true then sWy W b r ((k + -1) % W 0) else 0)) 100000000000000000
theorem sWy_rng (W : Int → Int) (b : Int) (r : Nat) : ∀ k, 0 ≤ sWy W b r k ∧ sWy W b r k ≤ 100000000000000000 := by
  induction r with
  | zero =>
    intro k
    have e : sWy W b 0 k = 1 := rfl
    rw [e]
    omega
  | succ r ih =>
    intro k
    have h0 := ih ((k + 0) % W 0)
    have h1 := ih ((k + 1) % W 0)
    have h2 := ih ((k + -1) % W 0)
    unfold sWy
    generalize sWy W b r ((k + 0) % W 0) = x at *
    generalize sWy W b r ((k + 1) % W 0) = y at *
    generalize sWy W b r ((k + -1) % W 0) = z at *
    repeat' split
    all_goals omega
theorem goes_q {M : xM} {d an : Int} (gL : gLog (M 95)) (gP : gPlot (M 95)) (gb : gB (M 95)) (hd : -2147483648 ≤ d ∧ d < 2147483648) (han : -1000000 ≤ an ∧ an ≤ 1000000) (m : Nat) : ∀ (n i : Nat), (i : Int) + m = M 95 8 → m < n → (∀ j : Nat, j < i → sBad (M 95) d an j = false) → fX12_goesWith_L2 n M d an i = some (if sGoes (M 95) d an = true then .inl () else .inr false) := by
  unfold gB at gb
  induction m with
  | zero =>
    intro n i h1 h2 h3
    obtain ⟨n', rfl⟩ : ∃ n', n = n' + 1 := ⟨n - 1, by omega⟩
    unfold fX12_goesWith_L2
    have e : sGoes (M 95) d an = true := (nB_all _).mpr (fun j hj => h3 j (by omega))
    rw [if_neg (by rw [wr_id (by omega) (by omega), wr_id (by omega) (by omega)]; omega), if_pos e]
  | succ m ih =>
    intro n i h1 h2 h3
    obtain ⟨n', rfl⟩ : ∃ n', n = n' + 1 := ⟨n - 1, by omega⟩
    have g := gL i (by omega) (by omega)
    have gp := (gP (M 95 (491 + 3 * (i : Int))) g.2.1.1 g.2.1.2).1
    have md := md_rng (a := M 95 (20 + 4 * M 95 (491 + 3 * (i : Int))) + an) (n := M 95 0) (by omega)
    have a1 : 490 + 3 * (i : Int) + 1 = 491 + 3 * i := by omega
    have a2 : 490 + 3 * (i : Int) + 2 = 492 + 3 * i := by omega
    have e3 : (i : Int) + 1 = ((i + 1 : Nat) : Int) := by omega
    have n1 : sBad (M 95) d an i = false → ∀ j : Nat, j < i + 1 → sBad (M 95) d an j = false := by
      intro hb j hj
      by_cases e : j = i
      · rw [e]; exact hb
      · exact h3 j (by omega)
    unfold fX12_goesWith_L2
    rw [if_pos (by rw [wr_id (by omega) (by omega), wr_id (by omega) (by omega)]; omega), xrd_at (by omega) (by omega) (by omega), wr_id (x := M 95 (490 + 3 * (i : Int))) (by omega) (by omega), wr_id (x := d) hd.1 hd.2]
    by_cases hd1 : M 95 (490 + 3 * (i : Int)) = d
    · rw [if_pos hd1, a1, xrd_at (by omega) (by omega) (by omega), of0_e (a := 20 + 4 * M 95 (491 + 3 * (i : Int))) (by omega) (by omega) (by omega)]
      rw [xb_some, modulo_eq (by omega) (by omega) (by omega) (by omega), a2, xb_some, xrd_at (by omega) (by omega) (by omega), wr_id (by omega) (by omega), wr_id (by omega) (by omega)]
      by_cases hb : (M 95 (20 + 4 * M 95 (491 + 3 * (i : Int))) + an) % M 95 0 = M 95 (492 + 3 * (i : Int))
      · rw [if_pos hb, e3]
        exact ih n' (i + 1) (by omega) (by omega) (n1 (by unfold sBad; rw [decide_eq_false_iff_not]; intro q; exact q.2 hb))
      · rw [if_neg hb, if_neg]
        intro q
        have := (nB_all _).mp q i (by omega)
        unfold sBad at this
        rw [decide_eq_false_iff_not] at this
        exact this ⟨hd1, hb⟩
    · rw [if_neg hd1, e3]
      exact ih n' (i + 1) (by omega) (by omega) (n1 (by unfold sBad; rw [decide_eq_false_iff_not]; intro q; exact hd1 q.1))
theorem goes_e {M : xM} {d an : Int} (gL : gLog (M 95)) (gP : gPlot (M 95)) (gb : gB (M 95)) (hd : -2147483648 ≤ d ∧ d < 2147483648) (han : -1000000 ≤ an ∧ an ≤ 1000000) : fX12_goesWith M d an = some (sGoes (M 95) d an) := by
  have gb' := gb
  unfold gB at gb'
  have q := goes_q gL gP gb hd han (M 95 8).toNat xfuel 0 (by omega) (by unfold xfuel; omega) (fun j hj => by omega)
  have z0 : ((0 : Nat) : Int) = 0 := rfl
  rw [z0] at q
  unfold fX12_goesWith
  rw [q]
  by_cases h : sGoes (M 95) d an = true
  · rw [if_pos h, h]
    rfl
  · rw [if_neg h]
    have : sGoes (M 95) d an = false := by simpa using h
    rw [this]
    rfl
/-! the reference's rows -/
theorem waysM1_q {a m : Int} (hm : 0 ≤ m ∧ m ≤ 40) (n : Nat) : ∀ (M : xM) (k : Int), 4 ≤ M 95 0 ∧ M 95 0 ≤ 24 → 0 ≤ k → k ≤ M 95 0 → M 95 0 - k < n → yk (fX12_laysWays_L9 n M a m k) fun M' => (∀ o, o ≠ 110 → M' o = M o) ∧ ∀ j, M' 110 j = if 24 * m + k ≤ j ∧ j < 24 * m + M 95 0 then 1 else M 110 j := by
  induction n with
  | zero => intro M k h0 h1 h2; omega
  | succ n ih =>
    intro M k hN h0 h1 h2
    unfold fX12_laysWays_L9
    by_cases h : k < M 95 0
    · rw [if_pos (by rw [wr_id (by omega) (by omega), wr_id (by omega) (by omega)]; exact h), xwt_at (by omega) (by omega) (by omega)]
      have w : xup M 110 (24 * m + k) 1 95 = M 95 := xup_o (by omega)
      refine yk.mono (ih _ (k + 1) (by rw [w]; exact hN) (by omega) (by rw [w]; omega) (by rw [w]; omega)) ?_
      intro M' q
      rw [w] at q
      refine ⟨fun o ho => by rw [q.1 o ho, xup_o ho], ?_⟩
      intro j
      rw [q.2 j]
      by_cases hj : j = 24 * m + k
      · rw [xup_e hj, if_neg (by omega), if_pos (by omega)]
      · rw [xup_n hj]
        by_cases h5 : 24 * m + k ≤ j ∧ j < 24 * m + M 95 0
        · rw [if_pos (by omega), if_pos h5]
        · rw [if_neg (by omega), if_neg h5]
    · rw [if_neg (by rw [wr_id (by omega) (by omega), wr_id (by omega) (by omega)]; exact h)]
      exact ⟨_, rfl, fun o ho => rfl, fun j => by rw [if_neg (by omega)]⟩
/-- three turns' rows, summed in the reference's order -/
theorem waysM2_q {M : xM} {a i k b : Int} {r : Nat} (gL : gLog (M 95)) (gP : gPlot (M 95)) (gb : gB (M 95)) (ha : 0 ≤ a ∧ a ≤ 9999) (hi : 0 ≤ i ∧ i < 40) (hb : a + i = b - r) (hk : 0 ≤ k ∧ k < M 95 0) (hw : ∀ q, 0 ≤ q → q < M 95 0 → M 110 (24 * (i + 1) + q) = sWy (M 95) b r q) {x : Int} {n : Nat} (hn : 4 ≤ n) : fX12_laysWays_L69 n M a i k x (-1) = some (x + (if sGoes (M 95) (b - r) ((k + -1) % M 95 0) = true then sWy (M 95) b r ((k + -1) % M 95 0) else 0) + (if sGoes (M 95) (b - r) ((k + 0) % M 95 0) = true then sWy (M 95) b r ((k + 0) % M 95 0) else 0) + (if sGoes (M 95) (b - r) ((k + 1) % M 95 0) = true then sWy (M 95) b r ((k + 1) % M 95 0) else 0)) := by
  have gb' := gb
  unfold gB at gb'
  have step : ∀ (n : Nat) (y t : Int), -1 ≤ t → t < 2 → fX12_laysWays_L69 (n + 1) M a i k y t = fX12_laysWays_L69 n M a i k (y + (if sGoes (M 95) (b - r) ((k + t) % M 95 0) = true then sWy (M 95) b r ((k + t) % M 95 0) else 0)) (t + 1) := by
    intro n y t t0 t1
    have md := md_rng (a := k + t) (n := M 95 0) (by omega)
    conv => lhs; unfold fX12_laysWays_L69
    rw [if_pos (by rw [wr_id (by omega) (by omega), wr_id (by omega) (by omega)]; omega), modulo_eq (by omega) (by omega) (by omega) (by omega), xb_some, goes_e gL gP gb (by omega) (by omega), hb, xb_some]
    by_cases h : sGoes (M 95) (b - r) ((k + t) % M 95 0) = true
    · rw [if_pos h, if_pos h]
      rw [xb_some, xrd_at (by omega) (by omega) (by omega), hw _ md.1 md.2]
    · rw [if_neg h, if_neg h, Int.add_zero]
  obtain ⟨n', rfl⟩ : ∃ n', n = n' + 1 + 1 + 1 + 1 := ⟨n - 4, by omega⟩
  have z1 : (-1 : Int) + 1 = 0 := by omega
  have z2 : (0 : Int) + 1 = 1 := by omega
  rw [step _ _ _ (by omega) (by omega), z1, step _ _ _ (by omega) (by omega), z2, step _ _ _ (by omega) (by omega)]
  unfold fX12_laysWays_L69
  rw [if_neg (by decide)]
theorem waysM3_q {a i b : Int} {r : Nat} {W : Int → Int} (gL : gLog W) (gP : gPlot W) (gb : gB W) (ha : 0 ≤ a ∧ a ≤ 9999) (hi : 0 ≤ i ∧ i < 40) (hb : a + i = b - r) (n : Nat) : ∀ (M : xM) (k : Int), M 95 = W → 0 ≤ k → k ≤ W 0 → W 0 - k < n → (∀ q, 0 ≤ q → q < W 0 → M 110 (24 * (i + 1) + q) = sWy W b r q) → yk (fX12_laysWays_L52 n M a i k) fun M' => (∀ o, o ≠ 110 → M' o = M o) ∧ (∀ j, ¬ (24 * i + k ≤ j ∧ j < 24 * i + W 0) → M' 110 j = M 110 j) ∧ ∀ q, k ≤ q → q < W 0 → M' 110 (24 * i + q) = sWy W b (r + 1) q := by
  have gb' := gb
  unfold gB at gb'
  induction n with
  | zero => intro M k h0 h1 h2; omega
  | succ n ih =>
    intro M k hM h0 h1 h2 hw
    subst hM
    unfold fX12_laysWays_L52
    by_cases h : k < M 95 0
    · rw [if_pos (by rw [wr_id (by omega) (by omega), wr_id (by omega) (by omega)]; exact h), waysM2_q (b := b) (r := r) gL gP gb ha hi hb ⟨h0, h⟩ hw (by unfold xfuel; omega)]
      have s0 := sWy_rng (M 95) b r ((k + 0) % M 95 0)
      have s1 := sWy_rng (M 95) b r ((k + 1) % M 95 0)
      have s2 := sWy_rng (M 95) b r ((k + -1) % M 95 0)
      have es : sWy (M 95) b (r + 1) k = min ((if sGoes (M 95) (b - r) ((k + 0) % M 95 0) = true then sWy (M 95) b r ((k + 0) % M 95 0) else 0) + (if sGoes (M 95) (b - r) ((k + 1) % M 95 0) = true then sWy (M 95) b r ((k + 1) % M 95 0) else 0) + (if sGoes (M 95) (b - r) ((k + -1) % M 95 0) = true then sWy (M 95) b r ((k + -1) % M 95 0) else 0)) 100000000000000000 := rfl
      rw [yk_xb, yk_some, yk_xj]
      have b0 : 0 ≤ (if sGoes (M 95) (b - r) ((k + 0) % M 95 0) = true then sWy (M 95) b r ((k + 0) % M 95 0) else 0) ∧ (if sGoes (M 95) (b - r) ((k + 0) % M 95 0) = true then sWy (M 95) b r ((k + 0) % M 95 0) else 0) ≤ 100000000000000000 := by split <;> omega
      have b1 : 0 ≤ (if sGoes (M 95) (b - r) ((k + 1) % M 95 0) = true then sWy (M 95) b r ((k + 1) % M 95 0) else 0) ∧ (if sGoes (M 95) (b - r) ((k + 1) % M 95 0) = true then sWy (M 95) b r ((k + 1) % M 95 0) else 0) ≤ 100000000000000000 := by split <;> omega
      have b2 : 0 ≤ (if sGoes (M 95) (b - r) ((k + -1) % M 95 0) = true then sWy (M 95) b r ((k + -1) % M 95 0) else 0) ∧ (if sGoes (M 95) (b - r) ((k + -1) % M 95 0) = true then sWy (M 95) b r ((k + -1) % M 95 0) else 0) ≤ 100000000000000000 := by split <;> omega
      generalize (if sGoes (M 95) (b - r) ((k + 0) % M 95 0) = true then sWy (M 95) b r ((k + 0) % M 95 0) else 0) = x0 at *
      generalize (if sGoes (M 95) (b - r) ((k + 1) % M 95 0) = true then sWy (M 95) b r ((k + 1) % M 95 0) else 0) = x1 at *
      generalize (if sGoes (M 95) (b - r) ((k + -1) % M 95 0) = true then sWy (M 95) b r ((k + -1) % M 95 0) else 0) = x2 at *
      have fin : ∀ v : Int, v = sWy (M 95) b (r + 1) k → yk (xwt M 110 984 ((24 * i) + k) v fun M15 => fX12_laysWays_L52 n M15 a i (k + 1)) fun M' => (∀ o, o ≠ 110 → M' o = M o) ∧ (∀ j, ¬ (24 * i + k ≤ j ∧ j < 24 * i + M 95 0) → M' 110 j = M 110 j) ∧ ∀ q, k ≤ q → q < M 95 0 → M' 110 (24 * i + q) = sWy (M 95) b (r + 1) q := by
        intro v hv
        rw [xwt_at (by omega) (by omega) (by omega)]
        refine yk.mono (ih _ (k + 1) (xup_o (by omega)) (by omega) (by omega) (by omega) ?_) ?_
        · intro q q0 q1
          rw [xup_n (by omega)]
          exact hw q q0 q1
        · intro M' hM'
          refine ⟨fun o ho => by rw [hM'.1 o ho, xup_o ho], fun j hj => by rw [hM'.2.1 j (by omega), xup_n (by omega)], ?_⟩
          intro q q0 q1
          by_cases e : q = k
          · subst e
            rw [hM'.2.1 _ (by omega), xup_e rfl, hv]
          · exact hM'.2.2 q (by omega) q1
      unfold xlcmp
      rw [wl_i (by omega) (by omega), wl_i (by omega) (by omega)]
      have c1 : wr (-1) = -1 := by decide
      have c2 : wr 0 = 0 := by decide
      have c3 : wr 1 = 1 := by decide
      by_cases hc : 100000000000000000 < 0 + x2 + x0 + x1
      · rw [if_neg (show ¬ 0 + x2 + x0 + x1 < 100000000000000000 by omega), if_neg (show ¬ 0 + x2 + x0 + x1 = 100000000000000000 by omega), c3, if_pos (by omega)]
        exact fin _ (by omega)
      · have c4 : ¬ 0 < wr (if 0 + x2 + x0 + x1 < 100000000000000000 then -1 else if 0 + x2 + x0 + x1 = 100000000000000000 then 0 else 1) := by
          split
          · rw [c1]; omega
          · rw [if_pos (by omega), c2]; omega
        rw [if_neg c4]
        exact fin _ (by omega)
    · rw [if_neg (by rw [wr_id (by omega) (by omega), wr_id (by omega) (by omega)]; exact h)]
      exact ⟨_, rfl, fun o ho => rfl, fun j hj => rfl, fun q q0 q1 => by omega⟩
