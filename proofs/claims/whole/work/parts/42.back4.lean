/-! back -/
theorem sumK_q {M : xM} {f : Int → Int} {N : Nat} (hN : N ≤ 24) (h1 : M 1 0 = N) (hf : ∀ q : Int, 0 ≤ q → q < N → M 77 q = f q) (m : Nat) : ∀ (n k : Nat) (x : Int), k + m = N → m < n → fX8_countRows_L131 n M x k = some (x + sTot f (k + m) - sTot f k) := by
  induction m with
  | zero =>
    intro n k x h2 h3
    obtain ⟨n', rfl⟩ : ∃ n', n = n' + 1 := ⟨n - 1, by omega⟩
    unfold fX8_countRows_L131
    rw [h1, if_neg (by rw [wr_id (by omega) (by omega), wr_id (by omega) (by omega)]; omega)]
    congr 1
    show _ = x + sTot f k - sTot f k
    omega
  | succ m ih =>
    intro n k x h2 h3
    obtain ⟨n', rfl⟩ : ∃ n', n = n' + 1 := ⟨n - 1, by omega⟩
    have e1 : sTot f (k + 1) = sTot f k + f k := rfl
    have e2 : k + 1 + m = k + (m + 1) := by omega
    have e3 : (k : Int) + 1 = ((k + 1 : Nat) : Int) := by omega
    unfold fX8_countRows_L131
    rw [if_pos (by rw [h1, wr_id (by omega) (by omega), wr_id (by omega) (by omega)]; omega), xrd_at (by omega) (by omega) (by omega), hf k (by omega) (by omega), e3, ih n' (k + 1) _ (by omega) (by omega), e2, e1]
    congr 1
    omega
theorem sTot_rng {f : Int → Int} {c : Int} (n : Nat) (h : ∀ q : Int, 0 ≤ q → q < n → 0 ≤ f q ∧ f q ≤ c) : 0 ≤ sTot f n ∧ sTot f n ≤ c * (n : Int) := by
  induction n with
  | zero => exact ⟨Int.le_refl _, by simp [sTot]⟩
  | succ n ih =>
    have a := ih (fun q q0 q1 => h q q0 (by omega))
    have b := h n (by omega) (by omega)
    have e1 : sTot f (n + 1) = sTot f n + f n := rfl
    have e2 : c * ((n + 1 : Nat) : Int) = c * (n : Int) + c := by
      have : ((n + 1 : Nat) : Int) = (n : Int) + 1 := by omega
      rw [this, Int.mul_add, Int.mul_one]
    rw [e1, e2]
    omega
theorem sTot_0 {f : Int → Int} (n : Nat) (h : ∀ q : Int, 0 ≤ q → q < n → 0 ≤ f q) : sTot f n = 0 ↔ fI (sPos f) 0 n = -1 := by
  induction n with
  | zero => exact ⟨fun _ => rfl, fun _ => rfl⟩
  | succ n ih =>
    have a := ih (fun q q0 q1 => h q q0 (by omega))
    have b := h n (by omega) (by omega)
    have e1 : sTot f (n + 1) = sTot f n + f n := rfl
    have t0 : 0 ≤ sTot f n := by
      clear ih a e1 b
      induction n with
      | zero => exact Int.le_refl _
      | succ n ih2 =>
        show 0 ≤ sTot f n + f n
        have := ih2 (fun q q0 q1 => h q q0 (by omega))
        have := h n (by omega) (by omega)
        omega
    have sn := fI_snoc (sPos f) n 0 (by omega)
    have e3 : (0 : Int) + (n : Int) = n := by omega
    rw [e3] at sn
    have fr := fI_rng (sPos f) n 0
    rw [e1, sn]
    by_cases hz : fI (sPos f) 0 n = -1
    · rw [if_pos hz]
      have z := a.mpr hz
      by_cases hp : 0 < f n
      · rw [if_pos (by unfold sPos; rw [decide_eq_true_eq]; exact hp)]
        omega
      · rw [if_neg (by unfold sPos; rw [decide_eq_true_eq]; exact hp)]
        omega
    · rw [if_neg hz]
      have z : sTot f n ≠ 0 := fun q => hz (a.mp q)
      omega
theorem fI_eq {P : Int → Bool} {t : Int} (n : Nat) (h0 : 0 ≤ t ∧ t < n) (hp : P t = true) (hq : ∀ q, 0 ≤ q → q < t → P q = false) : fI P 0 n = t := by
  have fr := fI_rng P n 0
  have nn : fI P 0 n ≠ -1 := by
    clear fr
    induction n with
    | zero => omega
    | succ n ih =>
      have sn := fI_snoc P n 0 (by omega)
      have e3 : (0 : Int) + (n : Int) = n := by omega
      rw [e3] at sn
      rw [sn]
      by_cases hz : fI P 0 n = -1
      · have e : t = n := by
          by_cases hlt : t < n
          · exact (ih ⟨h0.1, hlt⟩ hz).elim
          · omega
        rw [if_pos hz, ← e, if_pos hp]
        omega
      · rw [if_neg hz]
        exact hz
  have fr2 := fr.resolve_left nn
  by_cases h1 : fI P 0 n < t
  · have := hq _ fr2.1 h1
    rw [fr2.2.2] at this
    cases this
  · by_cases h2 : fI P 0 n = t
    · exact h2
    · exfalso
      -- a place before the first one
      have key : ∀ (m : Nat) (i : Int), 0 ≤ i → i ≤ t → t < i + m → fI P i m ≤ t := by
        intro m
        induction m with
        | zero => intro i a b c; omega
        | succ m ih =>
          intro i a b c
          by_cases hi : P i = true
          · rw [fI_t hi]; exact b
          · rw [fI_f hi]
            by_cases e : i = t
            · rw [e] at hi; exact (hi hp).elim
            · exact ih (i + 1) (by omega) (by omega) (by omega)
      have := key n 0 (by omega) h0.1 (by omega)
      omega
section CF
variable {W : Int → Int} {a b : Int}
theorem countRows_e {M : xM} (i : rI M W) (g : gW W) (ha : 0 ≤ a) (hb : b ≤ 9999) (hm : 1 ≤ b - a + 1 ∧ b - a + 1 ≤ 40) : yk (fX8_countRows M a b) fun q => q.1 = min (sTot (sWy W b (b - a + 1).toNat) (W 0).toNat) 100000000000000000 ∧ (∀ o, (o < 75 ∨ 78 < o) → q.2 o = M o) ∧ q.2 75 2 = b - a + 1 ∧ (∀ d q', 0 ≤ d → d < b - a + 1 → 0 ≤ q' → q' < W 0 → q.2 78 (d * 24 + q') = if sGoes W (a + d) q' = true then 0 else 1) ∧ ∀ d q', 0 ≤ d → d ≤ b - a + 1 → 0 ≤ q' → q' < W 0 → q.2 77 (d * 24 + q') = sWy W b (b - a + 1 - d).toNat q' := by
  have gb := g.1
  have iB := i.1
  unfold gB at gb
  unfold rB at iB
  unfold fX8_countRows
  rw [yk_xlet, yk_xb]
  refine yk.mono (den2_q (m := b - a + 1) (N := W 0) hm (by omega) xfuel _ 0 (by rw [xup_o (by omega)]; exact iB.1.1) (by rw [xup_e rfl]) (by omega) (by omega) (by unfold xfuel; omega) (fun d q d0 d1 => by omega)) ?_
  intro M1 q1
  have f1 : ∀ o, o < 75 → M1 o = M o := fun o ho => by rw [q1.1 o (by omega), xup_o (by omega)]
  rw [yk_xb]
  refine yk.mono (den3_q i g ha hb hm (W 8).toNat xfuel M1 0 f1 (by omega) (by unfold xfuel; omega) ?_) ?_
  · intro d q d0 d1 q0 q2
    have e : nB (sBad W (a + d) q) 0 = true := rfl
    rw [if_pos e]
    exact q1.2 d q d0 d1 q0 q2
  · intro M2 q2
    have f2 : ∀ o, o < 75 → M2 o = M o := fun o ho => by rw [q2.1 o (by omega), f1 o ho]
    have e752 : M2 75 2 = b - a + 1 := by rw [q2.1 75 (by omega), q1.1 75 (by omega), xup_e rfl]
    have e10 : M2 1 0 = W 0 := by rw [f2 1 (by omega)]; exact iB.1.1
    rw [yk_xb]
    unfold fX8_countWays
    rw [e10, yk_xb]
    refine yk.mono (waysK1_q (m := b - a + 1) (by omega) (by omega) xfuel M2 0 e752 (by omega) (by omega) (by unfold xfuel; omega)) ?_
    intro M3 q3
    have e753 : M3 75 2 = b - a + 1 := by rw [q3.1 75 (by omega)]; exact e752
    rw [e753, yk_xb]
    refine yk.mono (waysK4_q (W := W) (a := a) (b := b) (by omega) rfl hm xfuel M3 _ (by omega) (by omega) (by unfold xfuel; omega) ?_ ?_) ?_
    · intro d q d0 d1 q0 qq
      rw [q3.1 78 (by omega)]
      exact q2.2 d q d0 d1 q0 qq
    · intro d q d0 d1 q0 qq
      have e : d = b - a + 1 := by omega
      subst e
      have e5 : (b - a + 1 - (b - a + 1)).toNat = 0 := by omega
      rw [q3.2, if_pos (by omega), e5]
      rfl
    · intro M4 q4
      have f4 : ∀ o, (o < 75 ∨ 78 < o) → M4 o = M o := fun o ho => by rw [q4.1 o (by omega), q3.1 o (by omega), q2.1 o (by omega), q1.1 o (by omega), xup_o (by omega)]
      rw [yk_some, yk_xb]
      have e14 : M4 1 0 = ((W 0).toNat : Int) := by rw [f4 1 (by omega), iB.1.1]; omega
      have sq := sumK_q (M := M4) (f := sWy W b (b - a + 1).toNat) (N := (W 0).toNat) (by omega) e14 (by
        intro q q0 qq
        have := q4.2 0 q (by omega) (by omega) q0 (by omega)
        have e6 : (0 : Int) * 24 + q = q := by omega
        have e7 : b - a + 1 - 0 = b - a + 1 := by omega
        rw [e6, e7] at this
        exact this) (W 0).toNat xfuel 0 0 (by omega) (by unfold xfuel; omega)
      have z0 : ((0 : Nat) : Int) = 0 := rfl
      have e8 : sTot (sWy W b (b - a + 1).toNat) 0 = 0 := rfl
      rw [z0, Nat.zero_add, e8] at sq
      rw [sq, yk_some, yk_some]
      have tr := sTot_rng (f := sWy W b (b - a + 1).toNat) (c := 100000000000000000) (W 0).toNat (fun q _ _ => sWy_rng W b _ q)
      refine ⟨?_, f4, ?_, ?_, q4.2⟩
      · show xminL _ _ = _
        rw [minL_e (by omega) (by omega)]
        congr 1
        omega
      · show M4 75 2 = _
        rw [q4.1 75 (by omega)]
        exact e753
      · intro d q d0 d1 q0 qq
        show M4 78 _ = _
        rw [q4.1 78 (by omega), q3.1 78 (by omega)]
        exact q2.2 d q d0 d1 q0 qq
theorem start_q {f : Int → Int} {N : Int} (hN : 4 ≤ N ∧ N ≤ 24) (hf : ∀ q, 0 ≤ q → q < N → 0 ≤ f q ∧ f q ≤ 100000000000000000) {p : Int} (hp : (0 ≤ p ∧ p < N) ∧ 0 < f p) (n : Nat) : ∀ (M : xM) (s : Int), (∀ q, 0 ≤ q → q < N → M 77 q = f q) → M 75 0 = s → 0 ≤ s → s < N → (∀ q, 0 ≤ q → q < s → f q = 0) → N - s < n → yk (fX8_findFirst_L5 n M N) fun M' => (∀ o, o ≠ 75 → M' o = M o) ∧ (∀ j, j ≠ 0 → M' 75 j = M 75 j) ∧ (0 ≤ M' 75 0 ∧ M' 75 0 < N) ∧ 0 < f (M' 75 0) ∧ ∀ q, 0 ≤ q → q < M' 75 0 → f q = 0 := by
  induction n with
  | zero => intro M s h0 h1 h2 h3 h4 h5; omega
  | succ n ih =>
    intro M s h77 h0 h1 h2 h3 h4
    have hs := hf s h1 h2
    unfold fX8_findFirst_L5
    rw [h0]
    by_cases h : s < N - 1
    · rw [if_pos (by rw [wr_id (by omega) (by omega), wr_id (by omega) (by omega)]; exact h), xrd_at (by omega) (by omega) (by omega), h77 s h1 h2]
      by_cases hz : f s = 0
      · rw [if_pos ((xlcmp_0 (by omega)).2.mpr hz), yk_xlet]
        refine yk.mono (ih _ (s + 1) (fun q q0 q1 => by rw [xup_o (by omega)]; exact h77 q q0 q1) (by rw [xup_e rfl]) (by omega) (by omega) ?_ (by omega)) ?_
        · intro q q0 q1
          by_cases e : q = s
          · rw [e]; exact hz
          · exact h3 q q0 (by omega)
        · intro M' q
          exact ⟨fun o ho => by rw [q.1 o ho, xup_o ho], fun j hj => by rw [q.2.1 j hj, xup_n hj], q.2.2⟩
      · rw [if_neg (fun w => hz ((xlcmp_0 (by omega)).2.mp w))]
        refine ⟨_, rfl, fun o ho => rfl, fun j hj => rfl, ?_⟩
        rw [h0]
        exact ⟨⟨h1, h2⟩, by omega, h3⟩
    · rw [if_neg (by rw [wr_id (by omega) (by omega), wr_id (by omega) (by omega)]; exact h)]
      refine ⟨_, rfl, fun o ho => rfl, fun j hj => rfl, ?_⟩
      rw [h0]
      refine ⟨⟨h1, h2⟩, ?_, h3⟩
      have : ¬ p < s := fun w => by
        have := h3 p hp.1.1 w
        omega
      have e : p = s := by omega
      rw [← e]
      exact hp.2
theorem firstK_e {M : xM} {d an : Int} {r : Nat} (hN : 4 ≤ W 0 ∧ W 0 ≤ 24) (hd : 0 ≤ d ∧ d < 40) (han : 0 ≤ an ∧ an < W 0) (h78 : ∀ q, 0 ≤ q → q < W 0 → M 78 (d * 24 + q) = if sGoes W (b - r) q = true then 0 else 1) (h77 : ∀ q, 0 ≤ q → q < W 0 → M 77 ((d + 1) * 24 + q) = sWy W b r q) : fX8_firstTurn M d an (W 0) = some (sFt W b r an) := by
  have step : ∀ (n : Nat) (j t : Int), 0 ≤ j → j < 3 → ([0, 1, -1] : List Int).getD j.toNat 0 = t → -1 ≤ t ∧ t ≤ 1 → fX8_firstTurn_L3 (n + 1) M d an (W 0) j = if sGoP W b r ((an + t) % W 0) = true then some (.inr t) else fX8_firstTurn_L3 n M d an (W 0) (j + 1) := by
    intro n j t j0 j1 ht ht2
    have md := md_rng (a := an + t) (n := W 0) (by omega)
    have sr := sWy_rng W b r ((an + t) % W 0)
    conv => lhs; unfold fX8_firstTurn_L3
    rw [if_pos (by rw [wr_id (by omega) (by omega), wr_id (by omega) (by omega)]; omega), xtb_at (by omega) (by omega) (by omega), ht, wrap_eq (by omega) (by omega) (by omega) (by omega), xb_some, behind_e (W := W) (b := b) (r := r) hd (by omega) (h78 _ md.1 md.2) (h77 _ md.1 md.2), xb_some, xtb_at (by omega) (by omega) (by omega), ht]
    unfold sGoP
    by_cases h : sGoes W (b - r) ((an + t) % W 0) = true
    · rw [if_pos h, h, Bool.true_and]
      by_cases hp : 0 < sWy W b r ((an + t) % W 0)
      · rw [if_pos ((xlcmp_0 (by omega)).1.mpr hp), if_pos (by rw [decide_eq_true_eq]; exact hp)]
      · rw [if_neg (fun w => hp ((xlcmp_0 (by omega)).1.mp w)), if_neg (by rw [decide_eq_true_eq]; exact hp)]
    · have e0 : ¬ 0 < wr (xlcmp 0 0) := by decide
      rw [if_neg h, if_neg e0, if_neg]
      rw [Bool.and_eq_true]
      exact fun q => h q.1
  have hx : ∃ y, xfuel = y + 1 + 1 + 1 + 1 := ⟨999996, by unfold xfuel; omega⟩
  obtain ⟨y, hy⟩ := hx
  have z1 : (0 : Int) + 1 = 1 := by omega
  have z2 : (1 : Int) + 1 = 2 := by omega
  unfold fX8_firstTurn sFt
  rw [hy, step _ 0 0 (by omega) (by omega) rfl (by omega)]
  by_cases h0 : sGoP W b r ((an + 0) % W 0) = true
  · rw [if_pos h0, if_pos h0]
    rfl
  · rw [if_neg h0, if_neg h0, z1, step _ 1 1 (by omega) (by omega) rfl (by omega)]
    by_cases h1 : sGoP W b r ((an + 1) % W 0) = true
    · rw [if_pos h1, if_pos h1]
      rfl
    · rw [if_neg h1, if_neg h1, z2, step _ 2 (-1) (by omega) (by omega) rfl (by omega)]
      by_cases h2 : sGoP W b r ((an + -1) % W 0) = true
      · rw [if_pos h2, if_pos h2]
        rfl
      · rw [if_neg h2, if_neg h2]
        unfold fX8_firstTurn_L3
        rw [if_neg (by decide)]
        rfl
theorem turnsK_q {m : Int} (hN : 4 ≤ W 0 ∧ W 0 ≤ 24) (hm : m = b - a + 1) (hm2 : 1 ≤ m ∧ m ≤ 40) (r : Nat) : ∀ (n : Nat) (M : xM) (d an : Int), 0 ≤ d → d + r = m → 0 ≤ an ∧ an < W 0 → r < n → M 75 2 = m → (∀ d q, 0 ≤ d → d < m → 0 ≤ q → q < W 0 → M 78 (d * 24 + q) = if sGoes W (a + d) q = true then 0 else 1) → (∀ d q, 0 ≤ d → d ≤ m → 0 ≤ q → q < W 0 → M 77 (d * 24 + q) = sWy W b (m - d).toNat q) → yk (fX8_findFirst_L49 n M (W 0) an d) fun M' => (∀ o, o ≠ 76 → M' o = M o) ∧ (∀ j, j < d → M' 76 j = M 76 j) ∧ ∀ j : Nat, j < r → M' 76 (d + j) = sTa W b r an j := by
  induction r with
  | zero =>
    intro n M d an h0 h1 h2 h3 h4 h5 h6
    obtain ⟨n', rfl⟩ : ∃ n', n = n' + 1 := ⟨n - 1, by omega⟩
    unfold fX8_findFirst_L49
    rw [h4, if_neg (by rw [wr_id (by omega) (by omega), wr_id (by omega) (by omega)]; omega)]
    exact ⟨_, rfl, fun o ho => rfl, fun j hj => rfl, fun j hj => by omega⟩
  | succ r ih =>
    intro n M d an h0 h1 h2 h3 h4 h5 h6
    obtain ⟨n', rfl⟩ : ∃ n', n = n' + 1 := ⟨n - 1, by omega⟩
    have er : a + d = b - (r : Int) := by omega
    have er2 : (m - (d + 1)).toNat = r := by omega
    have ft := firstK_e (M := M) (W := W) (b := b) (d := d) (an := an) (r := r) hN (by omega) h2 (fun q q0 q1 => by rw [← er]; exact h5 d q h0 (by omega) q0 q1) (fun q q0 q1 => by have := h6 (d + 1) q (by omega) (by omega) q0 q1; rw [er2] at this; exact this)
    have sr := sFt_rng W b r an
    have md := md_rng (a := an + sFt W b r an) (n := W 0) (by omega)
    unfold fX8_findFirst_L49
    rw [if_pos (by rw [h4, wr_id (by omega) (by omega), wr_id (by omega) (by omega)]; omega), ft, xb_some, xwt_at (by omega) (by omega) (by omega), xrd_at (by omega) (by omega) (by omega), xup_e rfl, wrap_eq (by omega) (by omega) (by omega) (by omega), xb_some]
    refine yk.mono (ih n' _ (d + 1) _ (by omega) (by omega) md (by omega) (by rw [xup_o (by omega)]; exact h4) (fun d q d0 d1 q0 q1 => by rw [xup_o (by omega)]; exact h5 d q d0 d1 q0 q1) (fun d q d0 d1 q0 q1 => by rw [xup_o (by omega)]; exact h6 d q d0 d1 q0 q1)) ?_
    intro M' q
    refine ⟨fun o ho => by rw [q.1 o ho, xup_o ho], fun j hj => by rw [q.2.1 j (by omega), xup_n (by omega)], ?_⟩
    intro j hj
    cases j with
    | zero =>
      have e0 : d + ((0 : Nat) : Int) = d := by omega
      rw [e0, q.2.1 d (by omega), xup_e rfl]
      rfl
    | succ j =>
      have e0 : d + ((j + 1 : Nat) : Int) = d + 1 + j := by omega
      rw [e0, q.2.2 j (by omega)]
      rfl
end CF
