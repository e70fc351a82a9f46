/-! a noon: votes -/
def sVv (W : Int → Int) (p : Int) : Int := sVote W (sHold W p (W 2))
def sVw (W : Int → Int) (x : Int) : Nat → Int
  | 0 => 0
  | n + 1 => sVw W x n + (if sVv W n = x then W (21 + 4 * (n : Int)) else 0)
def sTurn (W : Int → Int) : Int := if W 3 = 0 then 0 else if sEn W (sVw W 1 (W 5).toNat) = true then 1 else if sEn W (sVw W (-1) (W 5).toNat) = true then -1 else 0
theorem sTurn_rng (W : Int → Int) : -1 ≤ sTurn W ∧ sTurn W ≤ 1 := by
  unfold sTurn
  repeat' split
  all_goals omega
theorem sVw_rng {W : Int → Int} (g : gPlot W) (x : Int) (n : Nat) (hn : (n : Int) ≤ W 5) : 0 ≤ sVw W x n ∧ sVw W x n ≤ 9 * (n : Int) := by
  induction n with
  | zero => exact ⟨Int.le_refl _, Int.le_refl _⟩
  | succ n ih =>
    have a := ih (by omega)
    have b := (g n (by omega) (by omega)).2.1
    have e : sVw W x (n + 1) = sVw W x n + (if sVv W n = x then W (21 + 4 * (n : Int)) else 0) := rfl
    rw [e]
    split <;> omega
theorem voteK_q {W : Int → Int} {M0 : xM} (i : rI M0 W) (g : gW W) (n : Nat) : ∀ (M : xM) (v c : Int), isl M0 M → rMemo c M W → 0 ≤ v → v ≤ W 5 → W 5 - v < n → c < 1900000000 - 3 * (W 5 - v) → (∀ p, 0 ≤ p → p < v → M 11 p = sVv W p) → yk (fX11_passNoon_L13 n M v) fun M' => (∀ o, (o < 43 ∨ 49 < o) → o ≠ 11 → M' o = M o) ∧ (∀ p, 0 ≤ p → p < W 5 → M' 11 p = sVv W p) ∧ rMemo (c + 3 * (W 5 - v)) M' W := by
  have gb := g.1
  have iB := i.1
  unfold gB at gb
  unfold rB at iB
  induction n with
  | zero => intro M v c hM me h0 h1 h2; omega
  | succ n ih =>
    intro M v c hM me h0 h1 h2 hc hz
    have iM : rI M W := rI_fr2 i g hM
    have iB2 := iM.1
    unfold rB at iB2
    unfold fX11_passNoon_L13
    by_cases h : v < W 5
    · have hr := sHold_rng (W := W) (p := v) (d := W 2) g.2.2.2.2.2.2.1 g.1 ⟨h0, h⟩
      rw [if_pos (by rw [iB2.2.1, wr_id (by omega) (by omega), wr_id (by omega) (by omega)]; exact h), iB2.1.2.2.1, holdOn_e (W := W) iM.2.2.2.2.2.1 g.2.2.2.2.2.2.1 g.1 iB2.2.2.1 (by omega) (by omega), xb_some, yk_xb2]
      refine yk.mono (voteOf_e iM g me (by omega) hr) ?_
      intro q hq
      rw [xwt_at (by omega) (by omega) (by omega)]
      refine yk.mono (ih _ (v + 1) (c + 3) (fun o h1 h2 h3 h4 => by rw [xup_o h3, hq.2.2 o (by omega), hM o h1 h2 h3 h4]) (rMemo_fr hq.2.1 g.2.2.2.2.2.2.2.2.2 ⟨xup_o (by omega), xup_o (by omega), xup_o (by omega), xup_o (by omega), xup_o (by omega)⟩ (fun k hk => xup_o (by omega)) (fun _ _ => rfl) (fun _ _ _ => rfl)) (by omega) (by omega) (by omega) (by omega) ?_) ?_
      · intro p p0 p1
        by_cases e : p = v
        · subst e
          rw [xup_e rfl, hq.1]
          rfl
        · rw [xup_n e, hq.2.2 11 (by omega)]
          exact hz p p0 (by omega)
      · intro M' z
        exact ⟨fun o o1 o2 => by rw [z.1 o o1 o2, xup_o o2, hq.2.2 o o1], z.2.1, rMemo_le z.2.2 (by omega)⟩
    · rw [if_neg (by rw [iB2.2.1, wr_id (by omega) (by omega), wr_id (by omega) (by omega)]; exact h)]
      exact ⟨_, rfl, fun _ _ _ => rfl, fun p p0 p1 => hz p p0 (by omega), rMemo_le me (by omega)⟩
theorem carry_q {W : Int → Int} {M : xM} (i : rI M W) (g : gW W) (hv : ∀ p, 0 ≤ p → p < W 5 → M 11 p = sVv W p) (m : Nat) : ∀ (n p : Nat), (p : Int) + m = W 5 → m < n → fX4_carriedTurn_L6 n M (sVw W 1 p) (sVw W (-1) p) p = some (sVw W 1 (p + m), sVw W (-1) (p + m)) := by
  have gb := g.1
  have iB := i.1
  unfold gB at gb
  unfold rB at iB
  induction m with
  | zero =>
    intro n p h1 h2
    obtain ⟨n', rfl⟩ : ∃ n', n = n' + 1 := ⟨n - 1, by omega⟩
    unfold fX4_carriedTurn_L6
    rw [iB.2.1, if_neg (by rw [wr_id (by omega) (by omega), wr_id (by omega) (by omega)]; omega)]
    rfl
  | succ m ih =>
    intro n p h1 h2
    obtain ⟨n', rfl⟩ : ∃ n', n = n' + 1 := ⟨n - 1, by omega⟩
    have c7 := (i.2.2.2.2.1 p (by omega) (by omega)).2.1
    have vr := sVote_rng (W := W) (o := sHold W p (W 2)) g
    have ev : M 11 p = sVv W p := hv p (by omega) (by omega)
    have e1 : sVw W 1 (p + 1) = sVw W 1 p + (if sVv W p = 1 then W (21 + 4 * (p : Int)) else 0) := rfl
    have e2 : sVw W (-1) (p + 1) = sVw W (-1) p + (if sVv W p = -1 then W (21 + 4 * (p : Int)) else 0) := rfl
    have e3 : (p : Int) + 1 = ((p + 1 : Nat) : Int) := by omega
    have e4 : p + 1 + m = p + (m + 1) := by omega
    have nx := ih n' (p + 1) (by omega) (by omega)
    rw [e4, e1, e2] at nx
    have w1 : wr 1 = 1 := by decide
    have w2 : wr (-1) = -1 := by decide
    have ws : wr (sVv W p) = sVv W p := wr_id (by unfold sVv; omega) (by unfold sVv; omega)
    unfold fX4_carriedTurn_L6
    rw [if_pos (by rw [iB.2.1, wr_id (by omega) (by omega), wr_id (by omega) (by omega)]; omega), xrd_at (by omega) (by omega) (by omega), xrd_at (by omega) (by omega) (by omega), xrd_at (by omega) (by omega) (by omega), xrd_at (by omega) (by omega) (by omega), ev, c7, ws, w1, w2, e3]
    by_cases h1 : sVv W p = 1
    · rw [if_pos h1, if_neg (by omega), Int.add_zero] at nx
      rw [if_pos h1]
      exact nx
    · rw [if_neg h1, Int.add_zero] at nx
      rw [if_neg h1]
      by_cases h2 : sVv W p = -1
      · rw [if_pos h2] at nx
        rw [if_pos h2]
        exact nx
      · rw [if_neg h2, Int.add_zero] at nx
        rw [if_neg h2]
        exact nx
theorem carried_e {W : Int → Int} {M : xM} (i : rI M W) (g : gW W) (hv : ∀ p, 0 ≤ p → p < W 5 → M 11 p = sVv W p) (h3 : W 3 ≠ 0) : fX4_carriedTurn M = some (sTurn W) := by
  have gb := g.1
  have iB := i.1
  unfold gB at gb
  unfold rB at iB
  have q := carry_q i g hv (W 5).toNat xfuel 0 (by omega) (by unfold xfuel; omega)
  have q0 : fX4_carriedTurn_L6 xfuel M 0 0 0 = some (sVw W 1 (0 + (W 5).toNat), sVw W (-1) (0 + (W 5).toNat)) := q
  rw [Nat.zero_add] at q0
  have r1 := sVw_rng g.2.2.2.2.1 1 (W 5).toNat (by omega)
  have r2 := sVw_rng g.2.2.2.2.1 (-1) (W 5).toNat (by omega)
  unfold fX4_carriedTurn sTurn
  rw [q0, if_neg h3]
  show (xb (fX4_isEnough M (sVw W 1 (W 5).toNat)) fun r9 => (if r9 = true then some 1 else (xb (fX4_isEnough M (sVw W (-1) (W 5).toNat)) fun r11 => (if r11 = true then some ((-1)) else some 0)))) = _
  rw [enoughK_e i.2.2.2.2.1 g.2.2.2.2.1 (by omega) iB.2.1 (by omega), enoughK_e i.2.2.2.2.1 g.2.2.2.2.1 (by omega) iB.2.1 (by omega), xb_some, xb_some]
  split
  · rfl
  · split
    · rfl
    · rfl
