/-! turns told back: the reference -/
theorem waysM4_q {a m b : Int} {W : Int → Int} (gL : gLog W) (gP : gPlot W) (gb : gB W) (ha : 0 ≤ a ∧ a ≤ 9999) (hm : m = b - a + 1) (hm2 : 1 ≤ m ∧ m ≤ 40) (n : Nat) : ∀ (M : xM) (i : Int), M 95 = W → -1 ≤ i → i < m → i + 1 < n → (∀ d q, i < d → d ≤ m → 0 ≤ q → q < W 0 → M 110 (24 * d + q) = sWy W b (m - d).toNat q) → yk (fX12_laysWays_L44 n M a i) fun M' => (∀ o, o ≠ 110 → M' o = M o) ∧ ∀ d q, 0 ≤ d → d ≤ m → 0 ≤ q → q < W 0 → M' 110 (24 * d + q) = sWy W b (m - d).toNat q := by
  have gb' := gb
  unfold gB at gb'
  induction n with
  | zero => intro M i hM h0 h1 h2; omega
  | succ n ih =>
    intro M i hM h0 h1 h2 hw
    unfold fX12_laysWays_L44
    by_cases h : i < 0
    · rw [if_pos (by rw [wr_id (by omega) (by omega)]; exact h)]
      exact ⟨_, rfl, fun o ho => rfl, fun d q d0 d1 q0 q1 => hw d q (by omega) d1 q0 q1⟩
    · rw [if_neg (by rw [wr_id (by omega) (by omega)]; exact h), yk_xb]
      have er : ((m - (i + 1)).toNat : Int) = m - (i + 1) := by omega
      refine yk.mono (waysM3_q (b := b) (r := (m - (i + 1)).toNat) gL gP gb ha (by omega) (by omega) xfuel M 0 hM (by omega) (by omega) (by unfold xfuel; omega) (fun q q0 q1 => hw (i + 1) q (by omega) (by omega) q0 q1)) ?_
      intro M1 q1
      have e4 : i + -1 = i - 1 := by omega
      rw [e4]
      refine yk.mono (ih M1 (i - 1) (by rw [q1.1 95 (by omega)]; exact hM) (by omega) (by omega) (by omega) ?_) ?_
      · intro d q d0 d1 q0 q2
        by_cases e : d = i
        · subst e
          have e5 : (m - d).toNat = (m - (d + 1)).toNat + 1 := by omega
          rw [q1.2.2 q q0 q2, e5]
        · rw [q1.2.1 _ (by omega)]
          exact hw d q (by omega) d1 q0 q2
      · intro M2 q2
        exact ⟨fun o ho => by rw [q2.1 o ho, q1.1 o ho], q2.2⟩
theorem laysWays_e {M : xM} {a b : Int} (gL : gLog (M 95)) (gP : gPlot (M 95)) (gb : gB (M 95)) (ha : 0 ≤ a ∧ a ≤ 9999) (hm : 1 ≤ b - a + 1 ∧ b - a + 1 ≤ 40) : yk (fX12_laysWays M a b) fun M' => (∀ o, o ≠ 110 → M' o = M o) ∧ ∀ d q, 0 ≤ d → d ≤ b - a + 1 → 0 ≤ q → q < M 95 0 → M' 110 (24 * d + q) = sWy (M 95) b (b - a + 1 - d).toNat q := by
  have gb' := gb
  unfold gB at gb'
  unfold fX12_laysWays
  rw [yk_xb]
  refine yk.mono (waysM1_q (a := a) (m := b - a + 1) (by omega) xfuel M 0 (by omega) (by omega) (by omega) (by unfold xfuel; omega)) ?_
  intro M1 q1
  have w := q1.1 95 (by omega)
  rw [yk_xb]
  refine yk.mono (waysM4_q (b := b) gL gP gb ha rfl hm xfuel M1 _ w (by omega) (by omega) (by unfold xfuel; omega) ?_) ?_
  · intro d q d0 d1 q0 q2
    have e : d = b - a + 1 := by omega
    subst e
    have e5 : (b - a + 1 - (b - a + 1)).toNat = 0 := by omega
    rw [q1.2, if_pos (by omega), e5]
    rfl
  · intro M2 q2
    rw [yk_some]
    exact ⟨fun o ho => by rw [q2.1 o ho, q1.1 o ho], q2.2⟩
theorem fI_snoc (P : Int → Bool) (m : Nat) : ∀ i : Int, 0 ≤ i → fI P i (m + 1) = if fI P i m = -1 then (if P (i + m) = true then i + m else -1) else fI P i m := by
  induction m with
  | zero =>
    intro i hi
    have e0 : fI P i 0 = -1 := rfl
    have e1 : fI P i (0 + 1) = if P i = true then i else -1 := rfl
    have e2 : i + ((0 : Nat) : Int) = i := by simp
    rw [e0, e1, e2, if_pos rfl]
  | succ m ih =>
    intro i hi
    have e2 : i + ((m + 1 : Nat) : Int) = i + 1 + m := by omega
    rw [e2]
    by_cases h : P i = true
    · rw [fI_t (m := m + 1) h, fI_t (m := m) h, if_neg (by omega)]
    · rw [fI_f (m := m + 1) h, fI_f (m := m) h, ih (i + 1) (by omega)]
def sTot (f : Int → Int) : Nat → Int
  | 0 => 0
  | n + 1 => sTot f n + f n
def sPos (f : Int → Int) (k : Int) : Bool := decide (0 < f k)
theorem xlcmp_0 {x : Int} (h : 0 ≤ x ∧ x ≤ 9000000000000000000) : (0 < wr (xlcmp x 0) ↔ 0 < x) ∧ (wr (xlcmp x 0) = 0 ↔ x = 0) := by
  unfold xlcmp
  rw [wl_i (by omega) (by omega), wl_i (by omega) (by omega), if_neg (by omega)]
  by_cases e : x = 0
  · rw [if_pos e]
    have : wr 0 = 0 := by decide
    rw [this]
    omega
  · rw [if_neg e]
    have : wr 1 = 1 := by decide
    rw [this]
    omega
theorem sumM_q {M : xM} {a w : Int} {f : Int → Int} {N : Nat} (hN : N ≤ 24) (hf : ∀ q : Int, 0 ≤ q → q < N → M 110 q = f q ∧ 0 ≤ f q ∧ f q ≤ 100000000000000000) (k : Nat) : ∀ (n : Nat) (x v : Int), k ≤ N → k < n → fX12_back_L86 n M a w x v ((k : Int) - 1) = some (x + sTot f k, if fI (sPos f) 0 k = -1 then v else fI (sPos f) 0 k) := by
  induction k with
  | zero =>
    intro n x v h1 h2
    obtain ⟨n', rfl⟩ : ∃ n', n = n' + 1 := ⟨n - 1, by omega⟩
    unfold fX12_back_L86
    have e0 : fI (sPos f) 0 0 = -1 := rfl
    have e1 : sTot f 0 = 0 := rfl
    rw [if_pos (by decide), e0, if_pos rfl, e1, Int.add_zero]
  | succ k ih =>
    intro n x v h1 h2
    obtain ⟨n', rfl⟩ : ∃ n', n = n' + 1 := ⟨n - 1, by omega⟩
    have hk := hf k (by omega) (by omega)
    have e0 : ((k + 1 : Nat) : Int) - 1 = k := by omega
    have e1 : sTot f (k + 1) = sTot f k + f k := rfl
    have e2 : (k : Int) + -1 = (k : Int) - 1 := by omega
    have sn := fI_snoc (sPos f) k 0 (by omega)
    have e3 : (0 : Int) + (k : Int) = k := by omega
    rw [e3] at sn
    have fr := fI_rng (sPos f) k 0
    unfold fX12_back_L86
    rw [e0, if_neg (by rw [wr_id (by omega) (by omega)]; omega), xrd_at (by omega) (by omega) (by omega), xrd_at (by omega) (by omega) (by omega), hk.1, e2, ih n' _ _ (by omega) (by omega), ih n' _ _ (by omega) (by omega), e1, sn]
    have e5 : x + f k + sTot f k = x + (sTot f k + f k) := by omega
    rw [e5]
    by_cases hp : 0 < f k
    · have hq : sPos f k = true := by unfold sPos; rw [decide_eq_true_eq]; exact hp
      rw [if_pos ((xlcmp_0 (by omega)).1.mpr hp), hq, if_pos rfl]
      by_cases h3 : fI (sPos f) 0 k = -1
      · rw [if_pos h3, if_neg (show ¬ (k : Int) = -1 by omega)]
      · rw [if_neg h3, if_neg h3]
    · have hq : ¬ sPos f k = true := by unfold sPos; rw [decide_eq_true_eq]; exact hp
      rw [if_neg (fun q => hp ((xlcmp_0 (by omega)).1.mp q)), if_neg hq]
      by_cases h3 : fI (sPos f) 0 k = -1
      · rw [if_pos h3, if_pos h3, if_pos rfl]
      · rw [if_neg h3, if_neg h3, if_neg h3]
/-- the first turn from which rows go on -/
def sGoP (W : Int → Int) (b : Int) (r : Nat) (an : Int) : Bool := sGoes W (b - r) an && decide (0 < sWy W b r an)
def sFt (W : Int → Int) (b : Int) (r : Nat) (an : Int) : Int := if sGoP W b r ((an + 0) % W 0) = true then 0 else if sGoP W b r ((an + 1) % W 0) = true then 1 else if sGoP W b r ((an + -1) % W 0) = true then -1 else 0
def sTa (W : Int → Int) (b : Int) : Nat → Int → Nat → Int
  | 0, _, _ => 0
  | r + 1, an, 0 => sFt W b r an
  | r + 1, an, j + 1 => sTa W b r ((an + sFt W b r an) % W 0) j
theorem sFt_pos {W : Int → Int} {b an : Int} {r : Nat} (h : 0 < sWy W b (r + 1) an) : sGoP W b r ((an + sFt W b r an) % W 0) = true := by
  unfold sFt
  by_cases h0 : sGoP W b r ((an + 0) % W 0) = true
  · rw [if_pos h0]; exact h0
  · rw [if_neg h0]
    by_cases h1 : sGoP W b r ((an + 1) % W 0) = true
    · rw [if_pos h1]; exact h1
    · rw [if_neg h1]
      by_cases h2 : sGoP W b r ((an + -1) % W 0) = true
      · rw [if_pos h2]; exact h2
      · exfalso
        have z : ∀ k, ¬ sGoP W b r k = true → (if sGoes W (b - r) k = true then sWy W b r k else 0) = 0 := by
          intro k hk
          have s := sWy_rng W b r k
          unfold sGoP at hk
          split
          · rename_i g
            rw [g, Bool.true_and, decide_eq_true_eq] at hk
            omega
          · rfl
        have e : sWy W b (r + 1) an = min ((if sGoes W (b - r) ((an + 0) % W 0) = true then sWy W b r ((an + 0) % W 0) else 0) + (if sGoes W (b - r) ((an + 1) % W 0) = true then sWy W b r ((an + 1) % W 0) else 0) + (if sGoes W (b - r) ((an + -1) % W 0) = true then sWy W b r ((an + -1) % W 0) else 0)) 100000000000000000 := rfl
        rw [e, z _ h0, z _ h1, z _ h2] at h
        exact absurd h (by decide)
theorem sGoP_pos {W : Int → Int} {b an : Int} {r : Nat} (h : sGoP W b r an = true) : 0 < sWy W b r an := by
  unfold sGoP at h
  rw [Bool.and_eq_true, decide_eq_true_eq] at h
  exact h.2
theorem sFt_rng (W : Int → Int) (b : Int) (r : Nat) (an : Int) : -1 ≤ sFt W b r an ∧ sFt W b r an ≤ 1 := by
  unfold sFt
  repeat' split
  all_goals omega
theorem turnOf_e {k : Int} (h : 0 ≤ k ∧ k ≤ 2) : fX12_turnOf k = if k = 2 then -1 else k := by
  unfold fX12_turnOf
  rw [wr_id (by omega) (by omega), wr_id (by omega) (by omega)]
section TM
variable {M : xM} {a b w : Int} (gL : gLog (M 95)) (gP : gPlot (M 95)) (gb : gB (M 95)) (ha : 0 ≤ a ∧ a ≤ 9999) (hm : 1 ≤ b - a + 1 ∧ b - a + 1 ≤ 40) (hw : ∀ d q, 0 ≤ d → d ≤ b - a + 1 → 0 ≤ q → q < M 95 0 → M 110 (24 * d + q) = sWy (M 95) b (b - a + 1 - d).toNat q)
theorem turnM_q {an i : Int} {r : Nat} (gL : gLog (M 95)) (gP : gPlot (M 95)) (gb : gB (M 95)) (ha : 0 ≤ a ∧ a ≤ 9999) (hm : 1 ≤ b - a + 1 ∧ b - a + 1 ≤ 40) (hw : ∀ d q, 0 ≤ d → d ≤ b - a + 1 → 0 ≤ q → q < M 95 0 → M 110 (24 * d + q) = sWy (M 95) b (b - a + 1 - d).toNat q) (hi : 0 ≤ i ∧ i < b - a + 1) (hr : (r : Int) = b - a - i) (han : 0 ≤ an ∧ an < M 95 0) (hp : 0 < sWy (M 95) b (r + 1) an) {n : Nat} (hn : 3 ≤ n) : ∃ k, (0 ≤ k ∧ k ≤ 2) ∧ fX12_back_L189 n M a w an i 0 = some k ∧ fX12_turnOf k = sFt (M 95) b r an := by
  have gb' := gb
  unfold gB at gb'
  have er : (b - a + 1 - (i + 1)).toNat = r := by omega
  have step : ∀ (n : Nat) (k : Int), 0 ≤ k → k ≤ 2 → fX12_back_L189 (n + 1) M a w an i k = if sGoP (M 95) b r ((an + fX12_turnOf k) % M 95 0) = true then some k else fX12_back_L189 n M a w an i (k + 1) := by
    intro n k k0 k1
    have te := turnOf_e ⟨k0, k1⟩
    have tr : -1 ≤ fX12_turnOf k ∧ fX12_turnOf k ≤ 2 := by rw [te]; split <;> omega
    have md := md_rng (a := an + fX12_turnOf k) (n := M 95 0) (by omega)
    have eb : a + i = b - r := by omega
    have sr := sWy_rng (M 95) b r ((an + fX12_turnOf k) % M 95 0)
    conv => lhs; unfold fX12_back_L189
    rw [modulo_eq (by omega) (by omega) (by omega) (by omega), xb_some, goes_e gL gP gb (by omega) (by omega), eb, xb_some]
    unfold sGoP
    by_cases h : sGoes (M 95) (b - r) ((an + fX12_turnOf k) % M 95 0) = true
    · rw [if_pos h, xb_some, xrd_at (by omega) (by omega) (by omega), hw (i + 1) _ (by omega) (by omega) md.1 md.2, er, h, Bool.true_and]
      by_cases hz : sWy (M 95) b r ((an + fX12_turnOf k) % M 95 0) = 0
      · rw [if_pos ((xlcmp_0 (by omega)).2.mpr hz), if_neg (by rw [decide_eq_true_eq]; omega)]
      · rw [if_neg (fun q => hz ((xlcmp_0 (by omega)).2.mp q)), if_pos (by rw [decide_eq_true_eq]; omega)]
    · rw [if_neg h, if_neg]
      rw [Bool.and_eq_true]
      exact fun q => h q.1
  obtain ⟨n', rfl⟩ : ∃ n', n = n' + 1 + 1 + 1 := ⟨n - 3, by omega⟩
  have t0 : fX12_turnOf 0 = 0 := by decide
  have t1 : fX12_turnOf 1 = 1 := by decide
  have t2 : fX12_turnOf 2 = -1 := by decide
  have z1 : (0 : Int) + 1 = 1 := by omega
  have z2 : (1 : Int) + 1 = 2 := by omega
  have sp := sFt_pos hp
  unfold sFt at sp ⊢
  rw [step _ 0 (by omega) (by omega), t0]
  by_cases h0 : sGoP (M 95) b r ((an + 0) % M 95 0) = true
  · rw [if_pos h0, if_pos h0]
    exact ⟨0, by omega, rfl, t0⟩
  · rw [if_neg h0] at sp ⊢
    rw [if_neg h0, z1, step _ 1 (by omega) (by omega), t1]
    by_cases h1 : sGoP (M 95) b r ((an + 1) % M 95 0) = true
    · rw [if_pos h1, if_pos h1]
      exact ⟨1, by omega, rfl, t1⟩
    · rw [if_neg h1] at sp ⊢
      rw [if_neg h1, z2, step _ 2 (by omega) (by omega), t2]
      by_cases h2 : sGoP (M 95) b r ((an + -1) % M 95 0) = true
      · rw [if_pos h2, if_pos h2]
        exact ⟨2, by omega, rfl, t2⟩
      · rw [if_neg h2] at sp
        exact (h0 sp).elim
theorem turnsM_q (gL : gLog (M 95)) (gP : gPlot (M 95)) (gb : gB (M 95)) (ha : 0 ≤ a ∧ a ≤ 9999) (hm : 1 ≤ b - a + 1 ∧ b - a + 1 ≤ 40) (hw : ∀ d q, 0 ≤ d → d ≤ b - a + 1 → 0 ≤ q → q < M 95 0 → M 110 (24 * d + q) = sWy (M 95) b (b - a + 1 - d).toNat q) (j : Nat) : ∀ (n : Nat) (i an t : Int) (r : Nat), 0 ≤ i → (r : Int) = b - a - i → i + j = w - 10 → j ≤ r → 0 ≤ an ∧ an < M 95 0 → 0 < sWy (M 95) b (r + 1) an → j + 1 < n → fX12_back_L177 n M a w an t i = some (sTa (M 95) b (r + 1) an j) := by
  have gb' := gb
  unfold gB at gb'
  induction j with
  | zero =>
    intro n i an t r h0 h1 h2 h3 h4 h5 h6
    obtain ⟨n', rfl⟩ : ∃ n', n = n' + 1 + 1 := ⟨n - 2, by omega⟩
    obtain ⟨k, k1, k2, k3⟩ := turnM_q (w := w) gL gP gb ha hm hw (i := i) (r := r) (by omega) h1 h4 h5 (n := xfuel) (by unfold xfuel; omega)
    have sr := sFt_rng (M 95) b r an
    unfold fX12_back_L177
    rw [if_neg (by rw [wr_id (by omega) (by omega), wr_id (by omega) (by omega)]; omega), k2, xb_some, k3, modulo_eq (by omega) (by omega) (by omega) (by omega), xb_some]
    unfold fX12_back_L177
    rw [if_pos (by rw [wr_id (by omega) (by omega), wr_id (by omega) (by omega)]; omega)]
    rfl
  | succ j ih =>
    intro n i an t r h0 h1 h2 h3 h4 h5 h6
    obtain ⟨n', rfl⟩ : ∃ n', n = n' + 1 := ⟨n - 1, by omega⟩
    obtain ⟨k, k1, k2, k3⟩ := turnM_q (w := w) gL gP gb ha hm hw (i := i) (r := r) (by omega) h1 h4 h5 (n := xfuel) (by unfold xfuel; omega)
    have sr := sFt_rng (M 95) b r an
    obtain ⟨r', rfl⟩ : ∃ r', r = r' + 1 := ⟨r - 1, by omega⟩
    have sp := sGoP_pos (sFt_pos h5)
    have md := md_rng (a := an + sFt (M 95) b (r' + 1) an) (n := M 95 0) (by omega)
    unfold fX12_back_L177
    rw [if_neg (by rw [wr_id (by omega) (by omega), wr_id (by omega) (by omega)]; omega), k2, xb_some, k3, modulo_eq (by omega) (by omega) (by omega) (by omega), xb_some]
    rw [ih n' (i + 1) _ _ r' (by omega) (by omega) (by omega) (by omega) md sp (by omega)]
    rfl
end TM
