/-! of -/
theorem bt_hi {s : Int} {n k : Nat} (h0 : 0 ≤ s) (h1 : s < 2 ^ n) (hk : n ≤ k) : bt s k = 0 := by
  unfold bt
  have e : ((k : Int)).toNat = k := by omega
  rw [e]
  have h2 : (2 : Int) ^ n ≤ 2 ^ k := by
    have := Nat.pow_le_pow_right (n := 2) (by decide) hk
    have q : (((2 ^ n : Nat)) : Int) ≤ ((2 ^ k : Nat) : Int) := by omega
    simpa using q
  rw [Int.ediv_eq_zero_of_lt h0 (by omega)]
  rfl
theorem cnt_hi {s : Int} {n : Nat} (h0 : 0 ≤ s) (h1 : s < 2 ^ n) (m : Nat) : cnt s (n + m) = cnt s n := by
  induction m with
  | zero => rfl
  | succ m ih =>
    show cnt s (n + m) + bt s ((n + m : Nat) : Int) = cnt s n
    rw [ih, bt_hi h0 h1 (by omega)]
    omega
theorem cnt_less {s p : Int} (hp : 0 ≤ p) (hb : bt s p = 0) (n : Nat) : cnt s n ≤ n - if p < n then 1 else 0 := by
  induction n with
  | zero =>
    rw [if_neg (by omega)]
    exact Int.le_refl _
  | succ n ih =>
    show cnt s n + bt s n ≤ _
    have b := bt_rng s n
    by_cases e : (n : Int) = p
    · rw [if_pos (by omega), e, hb]
      rw [if_neg (by omega)] at ih
      omega
    · by_cases h : p < n
      · rw [if_pos (by omega)]
        rw [if_pos h] at ih
        omega
      · rw [if_neg (by omega)]
        rw [if_neg h] at ih
        omega
def facN : Nat → Int
  | 0 => 1
  | n + 1 => ((n : Int) + 1) * facN n
theorem orders_q {M : xM} (v : Nat) : ∀ n, v < n → v ≤ 12 → fX12_orders n M v = some (facN v) := by
  induction v with
  | zero =>
    intro n h1 h2
    obtain ⟨n', rfl⟩ : ∃ n', n = n' + 1 := ⟨n - 1, by omega⟩
    unfold fX12_orders
    rw [if_pos (by decide)]
    rfl
  | succ v ih =>
    intro n h1 h2
    obtain ⟨n', rfl⟩ : ∃ n', n = n' + 1 := ⟨n - 1, by omega⟩
    unfold fX12_orders
    by_cases h : v = 0
    · subst h
      rw [if_pos (by decide)]
      rfl
    · rw [if_neg (by rw [wr_id (by omega) (by omega), wr_id (by omega) (by omega)]; omega)]
      have e : ((v + 1 : Nat) : Int) - 1 = v := by omega
      rw [e, ih n' (by omega) (by omega)]
      rfl
theorem fac_tb : ∀ c : Nat, c < 10 → ([1, 1, 2, 6, 24, 120, 720, 5040, 40320, 362880] : List Int).getD c 0 = facN c := by decide
theorem ordersM_e {M : xM} {c : Int} (h : 0 ≤ c ∧ c ≤ 9) : fX12_orders 40 M c = some (facN c.toNat) := by
  obtain ⟨k, rfl⟩ := Int.eq_ofNat_of_zero_le h.1
  exact orders_q k 40 (by omega) (by omega)
theorem ordersK_e {W : Int → Int} {M : xM} {c : Int} (i5 : M 5 0 = W 5) (h5 : 0 ≤ W 5 ∧ W 5 ≤ 10) (h : 0 ≤ c ∧ c ≤ W 5 - 1) : fX4_orders M c = some (facN c.toNat * facN (W 5 - 1 - c).toNat) := by
  unfold fX4_orders
  rw [i5, within_eq (by omega) (by omega) (by omega) (by omega) (by omega) (by omega), within_eq (by omega) (by omega) (by omega) (by omega) (by omega) (by omega), if_pos (by rw [decide_eq_true_eq]; omega), if_pos (by rw [decide_eq_true_eq]; omega), xtb_at (by omega) (by omega) (by omega), xtb_at (by omega) (by omega) (by omega), fac_tb _ (by omega), fac_tb _ (by omega)]
theorem sAll_lt {W : Int → Int} : sAll W < 2 ^ (W 5).toNat := by
  unfold sAll
  omega
theorem pow_q {M : xM} {p v v' : Int} (iP : rPlot M (M 95)) (gP : gPlot (M 95)) (i5 : M 5 0 = M 95 5) (h5 : 0 ≤ M 95 5 ∧ M 95 5 ≤ 10) (hp : 0 ≤ p ∧ p < M 95 5) (hv : (v = 1 ∧ v' = 0) ∨ (v = 0 ∧ v' = 1)) (n : Nat) : ∀ s x : Int, 0 ≤ s → s ≤ sAll (M 95) + 1 → sAll (M 95) + 1 - s < n → ∃ r, fX4_power_L20 n M p v (sAll (M 95)) (sWt (M 95) (sAll (M 95)) (M 95 5).toNat / 2) x s = some r ∧ fX12_pivots_L5 n M p v' x s = some r := by
  have ar := sAll_rng h5
  have tr := sWt_rng gP (sAll (M 95)) (M 95 5).toNat (by omega)
  have al := sAll_lt (W := M 95)
  have c7 := (iP p hp.1 hp.2).2.1
  have g7 := (gP p hp.1 hp.2).2.1
  induction n with
  | zero => intro s x h0 h1 h2; omega
  | succ n ih =>
    intro s x h0 h1 h2
    unfold fX4_power_L20 fX12_pivots_L5
    rw [allM_e h5, wr_id (x := sAll (M 95)) (by omega) (by omega), wr_id (x := s) (by omega) (by omega)]
    by_cases h : sAll (M 95) < s
    · rw [if_pos h, if_pos h]
      exact ⟨_, rfl, rfl⟩
    · have nx := fun y => ih (s + 1) y (by omega) (by omega) (by omega)
      have sr := sWt_rng gP s (M 95 5).toNat (by omega)
      have b := bt_rng s p
      have e1 : wr 1 = 1 := by decide
      rw [if_neg h, if_neg h, weightOf_e iP gP h5 i5 (by omega), bit_eq (by omega) (by omega) (by omega) (by omega), e1, wr_id (x := bt s p) (by omega) (by omega)]
      by_cases hb : bt s p = 0
      · have so := sWt_or (W := M 95) (k := (M 95 5).toNat) (set := s) (p := p) (by omega) ⟨h0, by omega⟩ (by omega) hb (M 95 5).toNat
        rw [if_pos (by omega)] at so
        have ob := (or_bit (s := s) (i := p) (n := (M 95 5).toNat) (by omega) h0 (by omega) hp.1 (by omega)).1
        have ob2 : xor_ s (xshl 1 p) < 2147483648 := by
          have : (2 : Int) ^ (M 95 5).toNat ≤ 1024 := by
            have := ar
            unfold sAll at this
            omega
          omega
        rw [if_neg (show ¬ bt s p = 1 by omega), enoughM_e gP h5 (by omega), enoughM_e gP h5 ⟨ob.1, ob2⟩, so]
        unfold sEn
        generalize hT : sWt (M 95) (sAll (M 95)) (M 95 5).toNat = T at *
        generalize hw : sWt (M 95) s (M 95 5).toNat = w at *
        show ∃ r, (if bt s p = 0 then (if wr (T / 2) < wr w then _ else _) else _) = some r ∧ (if decide (T < 2 * w) = true then _ else _) = some r
        rw [if_pos hb, wr_id (x := T / 2) (by omega) (by omega), wr_id (x := w) (by omega) (by omega)]
        by_cases hA : T < 2 * w
        · rw [if_pos (show T / 2 < w by omega), if_pos (show decide (T < 2 * w) = true by rw [decide_eq_true_eq]; exact hA)]
          exact nx x
        · rw [if_neg (show ¬ T / 2 < w by omega), if_neg (show ¬ decide (T < 2 * w) = true by rw [decide_eq_true_eq]; exact hA), xrd_at hp.1 (by omega) (by omega), c7]
          show ∃ r, (if T / 2 < wr (w + M 95 (21 + 4 * p)) then _ else _) = some r ∧ (if decide (T < 2 * (w + M 95 (21 + 4 * p))) = true then _ else _) = some r
          rw [wr_id (x := w + M 95 (21 + 4 * p)) (by omega) (by omega)]
          by_cases hB : T < 2 * (w + M 95 (21 + 4 * p))
          · rw [if_pos (show T / 2 < w + M 95 (21 + 4 * p) by omega), if_pos (show decide (T < 2 * (w + M 95 (21 + 4 * p))) = true by rw [decide_eq_true_eq]; exact hB)]
            have cl := cnt_less (s := s) hp.1 hb (M 95 5).toNat
            rw [if_pos (by omega)] at cl
            have ch := cnt_hi (s := s) (n := (M 95 5).toNat) h0 (by omega) (24 - (M 95 5).toNat)
            have e24 : (M 95 5).toNat + (24 - (M 95 5).toNat) = 24 := by omega
            rw [e24] at ch
            have cr := cnt_rng s 24
            rcases hv with ⟨rfl, rfl⟩ | ⟨rfl, rfl⟩
            · have z1 : ¬ wr 1 = 0 := by decide
              have z2 : wr 0 = 0 := by decide
              rw [if_neg z1, if_pos z2, bitc_e (by omega), ordersK_e i5 h5 (by omega), count_e (by omega)]
              show ∃ r, _ ∧ (xb (fX12_orders 40 M (cnt s 24)) fun r8 => xb (some (cnt s 24)) fun r10 => xb (fX12_orders 40 M (((M 95 5) - 1) - r10)) fun r12 => fX12_pivots_L5 n M p 0 (x + (r8 * r12)) (s + 1)) = some r
              rw [ordersM_e (by omega)]
              show ∃ r, _ ∧ (xb (fX12_orders 40 M (((M 95 5) - 1) - cnt s 24)) fun r12 => fX12_pivots_L5 n M p 0 (x + (facN (cnt s 24).toNat * r12)) (s + 1)) = some r
              rw [ordersM_e (by omega)]
              exact nx _
            · have z1 : wr 0 = 0 := by decide
              have z2 : ¬ wr 1 = 0 := by decide
              rw [if_pos z1, if_neg z2]
              exact nx _
          · rw [if_neg (show ¬ T / 2 < w + M 95 (21 + 4 * p) by omega), if_neg (show ¬ decide (T < 2 * (w + M 95 (21 + 4 * p))) = true by rw [decide_eq_true_eq]; exact hB)]
            exact nx x
      · rw [if_pos (show bt s p = 1 by omega)]
        show ∃ r, (if bt s p = 0 then _ else _) = some r ∧ _
        rw [if_neg hb]
        exact nx x
theorem tc_of {ph : Bool} {c : Int} {M : xM} {a b : Int} (I : Inv ph c M) (ha : -2147483648 ≤ a ∧ a < 2147483648) (hb : -2147483648 ≤ b ∧ b < 2147483648) : yk (fX11_of M a b) fun q => yk (fX12_of M a b) fun z => q = z := by
  have iB := I.1.1
  have gb := I.2.1.1
  unfold rB at iB
  unfold gB at gb
  have iP := I.1.2.2.2.2.1
  have gP := I.2.1.2.2.2.2.1
  by_cases g : (0 ≤ a ∧ a < M 95 5) ∧ (0 ≤ b ∧ b ≤ 6)
  · have p1 := iP a g.1.1 g.1.2
    have p2 := gP a g.1.1 g.1.2
    have ar := sAll_rng (W := M 95) (by omega)
    have tr := sWt_rng gP (sAll (M 95)) (M 95 5).toNat (by omega)
    have md := md_rng (a := M 95 (20 + 4 * a) + M 95 1) (n := M 95 0) (by omega)
    have half : xdiv (sWt (M 95) (sAll (M 95)) (M 95 5).toNat) 2 = sWt (M 95) (sAll (M 95)) (M 95 5).toNat / 2 := by
      unfold xdiv
      rw [wr_id (by omega) (by omega), wr_id (by omega) (by omega), Int.tdiv_eq_ediv_of_nonneg tr.1]
    have pw : ∀ v v' : Int, (v = 1 ∧ v' = 0) ∨ (v = 0 ∧ v' = 1) → ∃ r, fX4_power M a v = some r ∧ fX12_pivots M a v' = some r := by
      intro v v' hv
      obtain ⟨r, e1, e2⟩ := pow_q (p := a) iP gP (by omega) (by omega) g.1 hv xfuel 0 0 (by omega) (by omega) (by unfold xfuel; omega)
      refine ⟨r, ?_, ?_⟩
      · unfold fX4_power
        rw [allK_e (W := M 95) (by omega) (by omega), weightOf_e iP gP (by omega) (by omega) (by omega)]
        show (xb (fX4_power_L20 xfuel M a v (sAll (M 95)) (xdiv (sWt (M 95) (sAll (M 95)) (M 95 5).toNat) 2) 0 0) fun y8 => some y8) = some r
        rw [half, e1]
        rfl
      · unfold fX12_pivots
        rw [e2]
        rfl
    have e : b = 0 ∨ b = 1 ∨ b = 2 ∨ b = 3 ∨ b = 4 ∨ b = 5 ∨ b = 6 := by omega
    have n0 : 20 + 4 * a + 0 = 20 + 4 * a := by omega
    have n1 : 20 + 4 * a + 1 = 21 + 4 * a := by omega
    have n2 : 20 + 4 * a + 2 = 22 + 4 * a := by omega
    have n3 : 20 + 4 * a + 3 = 23 + 4 * a := by omega
    rcases e with rfl | rfl | rfl | rfl | rfl | rfl | rfl
    · unfold fX11_of fX4_has fX12_of fX12_isPlot fX12_of0
      simp (disch := omega) only [yk_xb, yk_xb2, yk_some, yk_xlet, yk_xj, within_eq, isIn_eq, decide_eq_true_eq, if_pos, if_neg, xwt_at, xrd_at, xix_at, wr_id, forget_e, forget0_e, forgets_e, ↓reduceIte, xup_o, xup_n, xup_e, xfi_o, xfi_e, xcl_o, xcl_e, and_self, and_true, true_and, true_or, or_true, eq_self, Int.le_refl, n0, n1, n2, n3, p1]
    · unfold fX11_of fX4_has fX12_of fX12_isPlot fX12_of0
      simp (disch := omega) only [yk_xb, yk_xb2, yk_some, yk_xlet, yk_xj, within_eq, isIn_eq, decide_eq_true_eq, if_pos, if_neg, xwt_at, xrd_at, xix_at, wr_id, forget_e, forget0_e, forgets_e, ↓reduceIte, xup_o, xup_n, xup_e, xfi_o, xfi_e, xcl_o, xcl_e, and_self, and_true, true_and, true_or, or_true, eq_self, Int.le_refl, n0, n1, n2, n3, p1]
    · unfold fX11_of fX4_has fX12_of fX12_isPlot fX12_of0
      simp (disch := omega) only [yk_xb, yk_xb2, yk_some, yk_xlet, yk_xj, within_eq, isIn_eq, decide_eq_true_eq, if_pos, if_neg, xwt_at, xrd_at, xix_at, wr_id, forget_e, forget0_e, forgets_e, ↓reduceIte, xup_o, xup_n, xup_e, xfi_o, xfi_e, xcl_o, xcl_e, and_self, and_true, true_and, true_or, or_true, eq_self, Int.le_refl, n0, n1, n2, n3, p1]
    · unfold fX11_of fX4_has fX12_of fX12_isPlot fX12_of0
      simp (disch := omega) only [yk_xb, yk_xb2, yk_some, yk_xlet, yk_xj, within_eq, isIn_eq, decide_eq_true_eq, if_pos, if_neg, xwt_at, xrd_at, xix_at, wr_id, forget_e, forget0_e, forgets_e, ↓reduceIte, xup_o, xup_n, xup_e, xfi_o, xfi_e, xcl_o, xcl_e, and_self, and_true, true_and, true_or, or_true, eq_self, Int.le_refl, n0, n1, n2, n3, p1]
    · unfold fX11_of fX4_has fX1_angleOf fX12_of fX12_isPlot fX12_of0
      simp (disch := omega) only [yk_xb, yk_xb2, yk_some, yk_xlet, yk_xj, within_eq, isIn_eq, decide_eq_true_eq, if_pos, if_neg, xwt_at, xrd_at, xix_at, wr_id, forget_e, forget0_e, forgets_e, ↓reduceIte, xup_o, xup_n, xup_e, xfi_o, xfi_e, xcl_o, xcl_e, and_self, and_true, true_and, true_or, or_true, eq_self, Int.le_refl, n0, p1, iB.1.1, iB.1.2.1, wrap_eq, modulo_eq]
    · obtain ⟨r, e1, e2⟩ := pw 1 0 (Or.inl ⟨rfl, rfl⟩)
      unfold fX11_of fX4_has fX12_of fX12_isPlot
      simp (disch := omega) only [yk_xb, yk_xb2, yk_some, yk_xlet, yk_xj, within_eq, isIn_eq, decide_eq_true_eq, if_pos, if_neg, xwt_at, xrd_at, xix_at, wr_id, forget_e, forget0_e, forgets_e, ↓reduceIte, xup_o, xup_n, xup_e, xfi_o, xfi_e, xcl_o, xcl_e, and_self, and_true, true_and, true_or, or_true, eq_self, Int.le_refl, e1, e2]
    · obtain ⟨r, e1, e2⟩ := pw 0 1 (Or.inr ⟨rfl, rfl⟩)
      unfold fX11_of fX4_has fX12_of fX12_isPlot
      simp (disch := omega) only [yk_xb, yk_xb2, yk_some, yk_xlet, yk_xj, within_eq, isIn_eq, decide_eq_true_eq, if_pos, if_neg, xwt_at, xrd_at, xix_at, wr_id, forget_e, forget0_e, forgets_e, ↓reduceIte, xup_o, xup_n, xup_e, xfi_o, xfi_e, xcl_o, xcl_e, and_self, and_true, true_and, true_or, or_true, eq_self, Int.le_refl, e1, e2]
  · have e1 : fX11_of M a b = some (-100000) := by
      unfold fX11_of fX4_has
      simp (disch := omega) only [within_eq, isIn_eq, decide_eq_true_eq, xwt_at, xrd_at, xix_at, wr_id]
      repeat' split
      all_goals first | (exfalso; omega; done) | rfl
    have e2 : fX12_of M a b = some (-100000) := by
      unfold fX12_of fX12_isPlot
      simp (disch := omega) only [within_eq, isIn_eq, decide_eq_true_eq, xwt_at, xrd_at, xix_at, wr_id]
      repeat' split
      all_goals first | (exfalso; omega; done) | rfl
    exact ⟨_, e1, _, e2, rfl⟩
