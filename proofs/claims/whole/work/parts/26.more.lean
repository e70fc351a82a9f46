/-! turned, boat, quarrel -/
theorem turned_q {M : xM} {d : Int} (gK : gBook (M 95)) (gb : gB (M 95)) (hd : -2147483648 ≤ d ∧ d < 2147483648) (n : Nat) : ∀ i : Int, -1 ≤ i → i < M 95 9 → i + 1 < n → fX12_turned_L10 n M d i = some (if M 95 2 - min (M 95 9) 400 ≤ d ∧ d ≤ M 95 2 - M 95 9 + i then .inr (M 95 (1491 + 2 * (d - M 95 2 + M 95 9)) + 2) else .inl ()) := by
  unfold gB at gb
  induction n with
  | zero => intro i h0 h1 h2; omega
  | succ n ih =>
    intro i h0 h1 h2
    unfold fX12_turned_L10
    by_cases h : i < 0 ∨ i < M 95 9 - 400
    · rw [if_neg (show ¬ (M 95 2 - min (M 95 9) 400 ≤ d ∧ d ≤ M 95 2 - M 95 9 + i) by omega)]
      by_cases h' : i < 0
      · simp (disch := omega) only [wr_id, if_pos]
      · simp (disch := omega) only [wr_id, if_pos, if_neg]
    · have g := gK i (by omega) h1
      have r := ih (i - 1) (by omega) (by omega) (by omega)
      have a1 : 1490 + 2 * i + 1 = 1491 + 2 * i := by omega
      simp (disch := omega) only [wr_id, if_neg, xrd_at, g.1, a1]
      by_cases e : M 95 2 - M 95 9 + i = d
      · have e3 : d - M 95 2 + M 95 9 = i := by omega
        rw [if_pos e, if_pos (by omega), e3]
      · rw [if_neg e]
        have e4 : i + -1 = i - 1 := by omega
        rw [e4, r]
        by_cases e5 : M 95 2 - min (M 95 9) 400 ≤ d ∧ d ≤ M 95 2 - M 95 9 + i
        · rw [if_pos e5, if_pos (by omega)]
        · rw [if_neg e5, if_neg (by omega)]
theorem tc_turned {ph : Bool} {c : Int} {M : xM} {a : Int} (I : Inv ph c M) (ha : -2147483648 ≤ a ∧ a < 2147483648) : yk (fX11_turned M a) fun q => yk (fX12_turned M a) fun z => q = z := by
  have iB := I.1.1
  have gb := I.2.1.1
  unfold rB at iB
  unfold gB at gb
  have q := turned_q (d := a) I.2.1.2.2.1 I.2.1.1 ha xfuel (M 95 9 - 1) (by omega) (by omega) (by unfold xfuel; omega)
  have k := I.1.2.2.1
  have gk := I.2.1.2.2.1
  by_cases g : M 95 2 - min (M 95 9) 400 ≤ a ∧ a < M 95 2
  · rw [if_pos (by omega)] at q
    have e := k (a - M 95 2 + M 95 9) (by omega) (by omega)
    have e1 : M 95 2 - M 95 9 + (a - M 95 2 + M 95 9) = a := by omega
    rw [e1] at e
    have md := md_rng (a := a) (n := 410) (by omega)
    unfold fX11_turned fX1_bookCell fX12_turned
    rw [q]
    simp (disch := omega) only [yk_xb, yk_some, yk_xs0, Sum.elim_inr, wr_id, if_pos, if_neg, floorMod_eq, xrd_at]
    rw [e]
  · rw [if_neg (by omega)] at q
    unfold fX11_turned fX12_turned
    rw [q]
    by_cases h : a < M 95 2
    · simp (disch := omega) only [yk_some, yk_xs0, Sum.elim_inl, wr_id, if_pos]
    · simp (disch := omega) only [yk_some, yk_xs0, Sum.elim_inl, wr_id, if_neg]
theorem boat_q {M : xM} {p ds an : Int} (iN : M 1 0 = M 95 0) (i6 : M 6 p = M 95 (20 + 4 * p)) (i4 : rPlan M (M 95)) (g4 : gPlan (M 95)) (gb : gB (M 95)) (gp : 0 ≤ M 95 (20 + 4 * p) ∧ M 95 (20 + 4 * p) < 24) (hp : 0 ≤ p ∧ p < 10) (hds : 0 ≤ ds ∧ ds < 60) (han : 0 ≤ an ∧ an < 24) (n : Nat) : ∀ i a : Int, 0 ≤ i → i ≤ 60 → 60 - i < n → -i ≤ a → a ≤ 24 + i → ∃ r, fX11_boat_L49 n M p ds an (a % M 95 0) i = some r ∧ fX12_boat_L39 n M p ds an a i = some r := by
  unfold gB at gb
  induction n with
  | zero => intro i a h0 h1 h2 h3 h4; omega
  | succ n ih =>
    intro i a h0 h1 h2 h3 h4
    unfold fX11_boat_L49 fX12_boat_L39
    by_cases h : i < 60
    · have c := i4 i h0 h
      have g := g4 i h0 h
      have md := md_rng (a := a) (n := M 95 0) (by omega)
      have md2 := md_rng (a := a + M 95 (70 + i)) (n := M 95 0) (by omega)
      have md3 := md_rng (a := M 95 (20 + 4 * p) + (a + M 95 (70 + i))) (n := M 95 0) (by omega)
      have e1 : (a % M 95 0 + M 95 (70 + i)) % M 95 0 = (a + M 95 (70 + i)) % M 95 0 := Int.emod_add_emod _ _ _
      have e2 : (M 95 (20 + 4 * p) + (a + M 95 (70 + i)) % M 95 0) % M 95 0 = (M 95 (20 + 4 * p) + (a + M 95 (70 + i))) % M 95 0 := Int.add_emod_emod _ _ _
      have a1 : 20 + 4 * p + 0 = 20 + 4 * p := by omega
      unfold fX1_angleOf fX12_of0
      simp (disch := omega) only [wr_id, if_pos, xrd_at, c, iN, wrap_eq, modulo_eq, xb, e1, i6, a1, e2]
      have r := ih (i + 1) (a + M 95 (70 + i)) (by omega) (by omega) (by omega) (by omega) (by omega)
      split
      · exact r
      · split
        · exact ⟨_, rfl, rfl⟩
        · exact r
    · simp (disch := omega) only [wr_id, if_neg]
      exact ⟨_, rfl, rfl⟩
theorem tc_boat {ph : Bool} {c : Int} {M : xM} {a b d : Int} (I : Inv ph c M) (ha : -2147483648 ≤ a ∧ a < 2147483648) (hb : -2147483648 ≤ b ∧ b < 2147483648) (hd : -2147483648 ≤ d ∧ d < 2147483648) : yk (fX11_boat M a b d) fun q => yk (fX12_boat M a b d) fun z => q = z := by
  have iB := I.1.1
  have gb := I.2.1.1
  unfold rB at iB
  unfold gB at gb
  by_cases g : (0 ≤ a ∧ a < M 95 5) ∧ (0 ≤ b ∧ b ≤ 59) ∧ (0 ≤ d ∧ d < M 95 0)
  · have p1 := (I.1.2.2.2.2.1 a (by omega) (by omega)).1
    have p2 := (I.2.1.2.2.2.2.1 a (by omega) (by omega)).1
    obtain ⟨r, q1, q2⟩ := boat_q (p := a) (ds := b) (an := d) (by omega) p1 I.1.2.2.2.1 I.2.1.2.2.2.1 I.2.1.1 (by omega) (by omega) (by omega) (by omega) xfuel 0 (M 95 1) (by omega) (by omega) (by unfold xfuel; omega) (by omega) (by omega)
    have e : M 95 1 % M 95 0 = M 1 1 := by rw [Int.emod_eq_of_lt (by omega) (by omega)]; omega
    rw [e] at q1
    unfold fX11_boat fX4_has fX1_hasAngle fX12_boat fX12_isPlot fX12_isAngle
    simp (disch := omega) only [within_eq, isIn_eq, decide_eq_true_eq, if_pos, q1, q2]
    cases r with
    | inl u => exact ⟨_, rfl, _, rfl, rfl⟩
    | inr v => exact ⟨_, rfl, _, rfl, rfl⟩
  · have e1 : fX11_boat M a b d = some (-1) := by
      unfold fX11_boat fX4_has fX1_hasAngle
      simp (disch := omega) only [within_eq, isIn_eq, decide_eq_true_eq, xwt_at, xrd_at, xix_at, wr_id]
      repeat' split
      all_goals first | (exfalso; omega; done) | rfl
    have e2 : fX12_boat M a b d = some (-1) := by
      unfold fX12_boat fX12_isPlot fX12_isAngle
      simp (disch := omega) only [within_eq, isIn_eq, decide_eq_true_eq, xwt_at, xrd_at, xix_at, wr_id]
      repeat' split
      all_goals first | (exfalso; omega; done) | rfl
    exact ⟨_, e1, _, e2, rfl⟩
/-- two promises against one another -/
def sOdds (W : Int → Int) (i j : Int) : Bool := decide (W (374 + 5 * i) = 0 ∧ W (374 + 5 * j) = 0 ∧ W (370 + 5 * i) = W (370 + 5 * j) ∧ W (371 + 5 * i) ≠ W (371 + 5 * j) ∧ W (372 + 5 * i) ≤ W (373 + 5 * j) ∧ W (372 + 5 * j) ≤ W (373 + 5 * i))
theorem disagree_e {W : Int → Int} {M : xM} {i j : Int} (iP : rProm M W) (gP : gProm W) (i7 : M 17 0 = W 7) (h7 : (0 ≤ W 7 ∧ W 7 ≤ 24) ∧ W 5 ≤ 10) (hi : 0 ≤ i ∧ i < W 7) (hj : 0 ≤ j ∧ j < W 7) : fX5_disagree M i j = some (sOdds W i j) := by
  have s1 := stands_e (i := i) iP i7 h7.1 (by omega)
  have s2 := stands_e (i := j) iP i7 h7.1 (by omega)
  have c1 := iP.2 i hi.1 hi.2
  have c2 := iP.2 j hj.1 hj.2
  have g1 := gP.1 i hi.1 hi.2
  have g2 := gP.1 j hj.1 hj.2
  unfold fX5_disagree sOdds
  rw [s1, s2]
  simp (disch := omega) only [decide_eq_true_eq, xrd_at, c1, c2, wr_id]
  symm
  repeat' split
  all_goals first | (exfalso; omega; done) | (rw [decide_eq_true (by omega)]; done) | (rw [decide_eq_false (by omega)]; done)
theorem odds_e {M : xM} {i j : Int} (gP : gProm (M 95)) (h7 : (0 ≤ M 95 7 ∧ M 95 7 ≤ 24) ∧ M 95 5 ≤ 10) (hi : 0 ≤ i ∧ i < M 95 7) (hj : 0 ≤ j ∧ j < M 95 7) (hn : i ≠ j) : fX12_areAtOdds M i j = some (sOdds (M 95) i j) := by
  have s1 := standsM_e (i := i) gP h7.1 hi
  have s2 := standsM_e (i := j) gP h7.1 hj
  have g1 := gP.1 i hi.1 hi.2
  have g2 := gP.1 j hj.1 hj.2
  have a0 : ∀ x : Int, 370 + 5 * x + 1 = 371 + 5 * x := fun x => by omega
  have a1 : ∀ x : Int, 370 + 5 * x + 2 = 372 + 5 * x := fun x => by omega
  have a2 : ∀ x : Int, 370 + 5 * x + 3 = 373 + 5 * x := fun x => by omega
  unfold fX12_areAtOdds sOdds
  rw [s1, s2]
  simp (disch := omega) only [xb, decide_eq_true_eq, xrd_at, a0, a1, a2, wr_id, if_neg]
  symm
  repeat' split
  all_goals first | (exfalso; omega; done) | (rw [decide_eq_true (by omega)]; done) | (rw [decide_eq_false (by omega)]; done)
theorem sOdds_sym (W : Int → Int) (i j : Int) : sOdds W i j = sOdds W j i := by
  unfold sOdds
  rw [decide_eq_decide]
  omega
theorem quar_q {M : xM} {v : Int} (iP : rProm M (M 95)) (gP : gProm (M 95)) (i7 : M 17 0 = M 95 7) (h7 : (0 ≤ M 95 7 ∧ M 95 7 ≤ 24) ∧ M 95 5 ≤ 10) (hv : 0 ≤ v ∧ v < M 95 7) (n : Nat) : ∀ i : Int, 0 ≤ i → i ≤ v → v - i < n → ∃ r, fX5_firstQuarrel_L12 n M v i = some r ∧ fX12_quarrel_L15 n M v i = some r := by
  induction n with
  | zero => intro i h0 h1 h2; omega
  | succ n ih =>
    intro i h0 h1 h2
    unfold fX5_firstQuarrel_L12 fX12_quarrel_L15
    by_cases h : i < v
    · have r := ih (i + 1) (by omega) (by omega) (by omega)
      rw [disagree_e iP gP i7 h7 (by omega) hv, odds_e gP h7 hv (by omega) (by omega), sOdds_sym]
      simp (disch := omega) only [wr_id, if_pos, xb]
      split
      · exact ⟨_, rfl, rfl⟩
      · exact r
    · simp (disch := omega) only [wr_id, if_neg]
      exact ⟨_, rfl, rfl⟩
theorem quar_p {M : xM} (iP : rProm M (M 95)) (gP : gProm (M 95)) (i7 : M 17 0 = M 95 7) (h7 : (0 ≤ M 95 7 ∧ M 95 7 ≤ 24) ∧ M 95 5 ≤ 10) (n : Nat) : ∀ (n' : Nat) (i : Int), 0 ≤ i → i ≤ M 95 7 → M 95 7 - i < n → M 95 7 - i < n' → ∃ r, fX5_firstQuarrel_L2 n M i = some r ∧ fX12_quarrel_L2 n' M i = some r := by
  induction n with
  | zero => intro n' i h0 h1 h2; omega
  | succ n ih =>
    intro n' i h0 h1 h2 h3
    obtain ⟨k, rfl⟩ : ∃ k, n' = k + 1 := ⟨n' - 1, by omega⟩
    unfold fX5_firstQuarrel_L2 fX12_quarrel_L2
    by_cases h : i < M 95 7
    · obtain ⟨r, e1, e2⟩ := quar_q (v := i) iP gP i7 h7 ⟨h0, h⟩ xfuel 0 (by omega) h0 (by unfold xfuel; omega)
      have q := ih k (i + 1) (by omega) (by omega) (by omega) (by omega)
      rw [e1, e2]
      simp (disch := omega) only [wr_id, if_pos]
      cases r with
      | inl u => exact q
      | inr v => exact ⟨_, rfl, rfl⟩
    · simp (disch := omega) only [wr_id, if_neg]
      exact ⟨_, rfl, rfl⟩
theorem quar_0 {M : xM} {n : Nat} (h : 0 ≤ M 95 7 ∧ M 95 7 ≤ 24) : fX12_quarrel_L2 (n + 1) M 0 = if M 95 7 = 0 then some (.inl ()) else fX12_quarrel_L2 n M 1 := by
  have k : fX12_quarrel_L15 xfuel M 0 0 = some (.inl ()) := by
    generalize hx : xfuel = x
    obtain ⟨y, rfl⟩ : ∃ y, x = y + 1 := ⟨x - 1, by unfold xfuel at hx; omega⟩
    unfold fX12_quarrel_L15
    simp (disch := omega) only [wr_id, if_neg]
  have e01 : (0 : Int) + 1 = 1 := rfl
  conv => lhs; unfold fX12_quarrel_L2
  rw [k, e01]
  by_cases h0 : M 95 7 = 0
  · simp (disch := omega) only [wr_id, if_pos, if_neg]
  · simp (disch := omega) only [wr_id, if_pos, if_neg]
    rfl
theorem tc_quarrel {ph : Bool} {c : Int} {M : xM} (I : Inv ph c M) : yk (fX11_quarrel M) fun q => yk (fX12_quarrel M) fun z => q = z := by
  have iB := I.1.1
  have gb := I.2.1.1
  unfold rB at iB
  unfold gB at gb
  have iP := I.1.2.2.2.2.2.2.1
  have gP := I.2.1.2.2.2.2.2.2.2.1
  have hx : ∃ y, xfuel = y + 1 ∧ 100 < y := ⟨999999, by unfold xfuel; omega, by omega⟩
  obtain ⟨y, hy, hy2⟩ := hx
  have e2 := quar_0 (M := M) (n := y) (by omega)
  unfold fX11_quarrel fX5_firstQuarrel fX12_quarrel
  rw [hy, e2]
  by_cases h : M 95 7 = 0
  · rw [if_pos h]
    unfold fX5_firstQuarrel_L2
    simp (disch := omega) only [wr_id, if_neg]
    exact ⟨_, rfl, _, rfl, rfl⟩
  · rw [if_neg h]
    obtain ⟨r, e1, e2⟩ := quar_p iP gP (by omega) (by omega) (y + 1) y 1 (by omega) (by omega) (by omega) (by omega)
    rw [e1, e2]
    cases r with
    | inl u => exact ⟨_, rfl, _, rfl, rfl⟩
    | inr v => exact ⟨_, rfl, _, rfl, rfl⟩
