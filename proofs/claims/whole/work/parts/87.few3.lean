/-! fewest, the class -/
def owB (W : Int → Int) (v p : Int) : Bool := decide (p < W 7 ∧ W (370 + 5 * p) = v ∧ W (374 + 5 * p) = 0)
def mi (W : Int → Int) (v : Int) : Nat → Nat
  | 0 => 0
  | n + 1 => mi W v n + (if owB W v n = true then 1 else 0)
theorem mi_t {W : Int → Int} {v : Int} {n : Nat} (h : owB W v n = true) : mi W v (n + 1) = mi W v n + 1 := by
  show mi W v n + (if _ then _ else _) = _
  rw [if_pos h]
theorem mi_f {W : Int → Int} {v : Int} {n : Nat} (h : ¬ owB W v n = true) : mi W v (n + 1) = mi W v n := by
  show mi W v n + (if _ then _ else _) = _
  rw [if_neg h]; rfl
theorem mi_mono {W : Int → Int} {v : Int} {p : Nat} (m : Nat) : mi W v p ≤ mi W v (p + m) := by
  induction m with
  | zero => exact Nat.le_refl _
  | succ m ih =>
    by_cases h : owB W v ((p + m : Nat) : Int) = true
    · have := mi_t h
      show _ ≤ mi W v (p + m + 1)
      omega
    · have := mi_f h
      show _ ≤ mi W v (p + m + 1)
      omega
theorem mi_le {W : Int → Int} {v : Int} {p q : Nat} (h : p ≤ q) : mi W v p ≤ mi W v q := by
  obtain ⟨m, rfl⟩ := Nat.exists_eq_add_of_le h
  exact mi_mono m
theorem mi_lt {W : Int → Int} {v : Int} {p q : Nat} (ho : owB W v p = true) (h : p < q) : mi W v p < mi W v q := by
  have a := mi_t ho
  have b := mi_le (W := W) (v := v) (show p + 1 ≤ q by omega)
  omega
theorem mi_sur {W : Int → Int} {v : Int} (n : Nat) : ∀ k, k < mi W v n → ∃ p : Nat, p < n ∧ owB W v p = true ∧ mi W v p = k := by
  induction n with
  | zero => intro k h; exact absurd h (Nat.not_lt_zero k)
  | succ n ih =>
    intro k h
    by_cases o : owB W v n = true
    · rw [mi_t o] at h
      by_cases e : k = mi W v n
      · exact ⟨n, by omega, o, e.symm⟩
      · obtain ⟨p, a, b⟩ := ih k (by omega)
        exact ⟨p, by omega, b⟩
    · rw [mi_f o] at h
      obtain ⟨p, a, b⟩ := ih k h
      exact ⟨p, by omega, b⟩
theorem mi_own {W : Int → Int} {v : Int} (n : Nat) : (mi W v n : Int) ≤ nOwn W v n := by
  induction n with
  | zero => exact Int.le_refl _
  | succ n ih =>
    show _ ≤ nOwn W v n + (if _ then _ else _)
    by_cases o : owB W v n = true
    · rw [mi_t o]
      unfold owB at o
      rw [decide_eq_true_eq] at o
      rw [if_pos o.2.1]
      omega
    · rw [mi_f o]
      split <;> omega
theorem mi_hi {W : Int → Int} {v : Int} (m : Nat) : mi W v ((W 7).toNat + m) = mi W v (W 7).toNat := by
  induction m with
  | zero => rfl
  | succ m ih =>
    have : ¬ owB W v (((W 7).toNat + m : Nat) : Int) = true := by
      unfold owB
      rw [decide_eq_true_eq]
      omega
    show mi W v ((W 7).toNat + m + 1) = _
    rw [mi_f this, ih]
theorem mi_24 {W : Int → Int} {v : Int} (h : 0 ≤ W 7 ∧ W 7 ≤ 24) : mi W v 24 = mi W v (W 7).toNat := by
  have := mi_hi (W := W) (v := v) (24 - (W 7).toNat)
  have e : (W 7).toNat + (24 - (W 7).toNat) = 24 := by omega
  rw [e] at this
  exact this
theorem few4_q {W : Int → Int} {v : Int} (gb : gB W) (gP : gProm W) (hv : 0 ≤ v ∧ v < 100) (m : Nat) : ∀ (n p : Nat) (M : xM), (p : Int) + m = W 7 → rProm M W → M 17 0 = W 7 → (∀ q : Nat, q < p → owB W v q = true → M 22 (mi W v q : Int) = q) → m < n → yk (fX5_fewestOf_L4 n M v (mi W v p : Int) p) fun z => z.1 = (mi W v 24 : Int) ∧ (∀ o, o ≠ 22 → z.2 o = M o) ∧ ∀ q : Nat, owB W v q = true → z.2 22 (mi W v q : Int) = q := by
  have h7 := gb.2.2.2.1
  have h24 := mi_24 (v := v) h7
  have m10 : (mi W v 24 : Int) ≤ 10 := by
    rw [h24]
    have := mi_own (W := W) (v := v) (W 7).toNat
    have := gP.2 v
    omega
  have owq : ∀ q : Nat, owB W v q = true → (q : Int) < W 7 := fun q h => by
    unfold owB at h
    rw [decide_eq_true_eq] at h
    exact h.1
  induction m with
  | zero =>
    intro n p M hp iP i7 hq hn
    obtain ⟨n, rfl⟩ : ∃ x, n = x + 1 := ⟨n - 1, by omega⟩
    have e : p = (W 7).toNat := by omega
    unfold fX5_fewestOf_L4
    rw [i7, if_neg (by rw [wr_id (by omega) (by omega), wr_id (by omega) (by omega)]; omega), yk_some]
    exact ⟨by dsimp only; rw [h24, e], fun _ _ => rfl, fun q ho => hq q (by have := owq q ho; omega) ho⟩
  | succ m ih =>
    intro n p M hp iP i7 hq hn
    obtain ⟨n, rfl⟩ : ∃ x, n = x + 1 := ⟨n - 1, by omega⟩
    have c := iP.2 p (by omega) (by omega)
    have g := gP.1 p (by omega) (by omega)
    have g5 := gb.2.1
    unfold fX5_fewestOf_L4
    rw [i7, if_pos (by rw [wr_id (by omega) (by omega), wr_id (by omega) (by omega)]; omega), xrd_at (by omega) (by omega) (by omega), c.1, wr_id (x := W (370 + 5 * (p : Int))) (by omega) (by omega), wr_id (x := v) (by omega) (by omega), stands_e (i := p) iP i7 h7 (by omega)]
    have ep : (p : Int) + 1 = ((p + 1 : Nat) : Int) := by omega
    rw [ep]
    have skip : ¬ owB W v p = true → yk (fX5_fewestOf_L4 n M v (mi W v p : Int) ((p + 1 : Nat) : Int)) fun z => z.1 = (mi W v 24 : Int) ∧ (∀ o, o ≠ 22 → z.2 o = M o) ∧ ∀ q : Nat, owB W v q = true → z.2 22 (mi W v q : Int) = q := by
      intro ho
      have := ih n (p + 1) M (by omega) iP i7 (fun q q1 q2 => by
        by_cases e : q = p
        · rw [e] at q2; exact absurd q2 ho
        · exact hq q (by omega) q2) (by omega)
      rw [mi_f ho] at this
      exact this
    by_cases ow : W (370 + 5 * (p : Int)) = v
    · rw [if_pos ow]
      by_cases st : W (374 + 5 * (p : Int)) = 0
      · have ho : owB W v p = true := by unfold owB; rw [decide_eq_true_eq]; exact ⟨by omega, ow, st⟩
        have lt := mi_lt (W := W) (v := v) ho (show p < 24 by omega)
        rw [if_pos (by rw [decide_eq_true_eq]; omega), if_pos (by rw [wr_id (by omega) (by omega), wr_id (by omega) (by omega)]; omega), xwt_at (by omega) (by omega) (by omega)]
        have em : (mi W v p : Int) + 1 = (mi W v (p + 1) : Int) := by rw [mi_t ho]; omega
        rw [em]
        refine yk.mono (ih n (p + 1) (xup M 22 (mi W v p : Int) p) (by omega) (rProm_fr iP gb ⟨xup_o (by omega), xup_o (by omega), xup_o (by omega), xup_o (by omega), xup_o (by omega)⟩ rfl (fun _ _ _ => rfl)) (by rw [xup_o (by omega)]; exact i7) ?_ (by omega)) ?_
        · intro q q1 q2
          by_cases e : q = p
          · rw [e, xup_e rfl]
          · have := mi_lt (W := W) (v := v) q2 (show q < p by omega)
            rw [xup_n (by omega)]
            exact hq q (by omega) q2
        · intro z hz
          exact ⟨hz.1, fun o ho => by rw [hz.2.1 o ho, xup_o ho], hz.2.2⟩
      · rw [if_neg (by rw [decide_eq_true_eq]; omega)]
        exact skip (by unfold owB; rw [decide_eq_true_eq]; omega)
    · rw [if_neg ow]
      exact skip (by unfold owB; rw [decide_eq_true_eq]; omega)
def agr (W : Int → Int) (M : xM) (m : Nat) (b : Int) : Prop := ∀ k j : Nat, j < k → k < m → bt b k = 0 → bt b j = 0 → sOdds W (M 22 j) (M 22 k) = false
section FK
variable {W : Int → Int} {M : xM} {m : Nat}
theorem ag10_q {b : Int} {k : Nat} (iP : rProm M W) (gP : gProm W) (i7 : M 17 0 = W 7) (h7 : (0 ≤ W 7 ∧ W 7 ≤ 24) ∧ W 5 ≤ 10) (hm : m ≤ 10) (hK : ∀ k : Nat, k < m → 0 ≤ M 22 k ∧ M 22 k < W 7) (hb : 0 ≤ b ∧ b < 1024) (hk : k < m) (n : Nat) : ∀ j : Nat, j ≤ k → k - j < n → yk (fX5_agreeWithout_L10 n M b m k j) fun x => (x = .inl () ∧ ∀ j' : Nat, j ≤ j' → j' < k → bt b k = 0 → bt b j' = 0 → sOdds W (M 22 j') (M 22 k) = false) ∨ (x = .inr false ∧ ∃ j' : Nat, j' < k ∧ bt b k = 0 ∧ bt b j' = 0 ∧ sOdds W (M 22 j') (M 22 k) = true) := by
  induction n with
  | zero => intro j _ h; omega
  | succ n ih =>
    intro j h0 h1
    unfold fX5_agreeWithout_L10
    rw [wr_id (x := (j : Int)) (by omega) (by omega), wr_id (x := (k : Int)) (by omega) (by omega)]
    by_cases h : j < k
    · have ej : (j : Int) + 1 = ((j + 1 : Nat) : Int) := by omega
      have nx := ih (j + 1) (by omega) (by omega)
      have r1 := bt_rng b k
      have r2 := bt_rng b j
      rw [if_pos (by omega), bit_eq hb.1 (by omega) (by omega) (by omega), bit_eq hb.1 (by omega) (by omega) (by omega), wr_id (x := bt b k) (by omega) (by omega), wr_id (x := bt b j) (by omega) (by omega), ej]
      have skip : (bt b k = 0 → bt b j = 0 → sOdds W (M 22 j) (M 22 k) = false) → yk (fX5_agreeWithout_L10 n M b m k ((j + 1 : Nat) : Int)) fun x => (x = .inl () ∧ ∀ j' : Nat, j ≤ j' → j' < k → bt b k = 0 → bt b j' = 0 → sOdds W (M 22 j') (M 22 k) = false) ∨ (x = .inr false ∧ ∃ j' : Nat, j' < k ∧ bt b k = 0 ∧ bt b j' = 0 ∧ sOdds W (M 22 j') (M 22 k) = true) := by
        intro hs
        refine yk.mono nx ?_
        intro x hx
        rcases hx with ⟨a, c⟩ | a
        · refine Or.inl ⟨a, fun j' p q r s => ?_⟩
          by_cases e : j' = j
          · rw [e] at s ⊢; exact hs r s
          · exact c j' (by omega) q r s
        · exact Or.inr a
      by_cases c1 : bt b k = 0
      · rw [if_pos c1]
        by_cases c2 : bt b j = 0
        · rw [if_pos c2, xrd_at (by omega) (by omega) (by omega), xrd_at (by omega) (by omega) (by omega), disagree_e iP gP i7 h7 (hK j (by omega)) (hK k hk), xb_some]
          cases od : sOdds W (M 22 j) (M 22 k) with
          | true =>
            rw [if_pos rfl, yk_some]
            exact Or.inr ⟨rfl, j, h, c1, c2, od⟩
          | false =>
            rw [if_neg (by decide)]
            exact skip (fun _ _ => od)
        · rw [if_neg c2]
          exact skip (fun _ w => absurd w c2)
      · rw [if_neg c1]
        exact skip (fun w => absurd w c1)
    · rw [if_neg (by omega), yk_some]
      exact Or.inl ⟨rfl, fun j' a b => by omega⟩
theorem ag_e {b : Int} (iP : rProm M W) (gP : gProm W) (i7 : M 17 0 = W 7) (h7 : (0 ≤ W 7 ∧ W 7 ≤ 24) ∧ W 5 ≤ 10) (hm : m ≤ 10) (hK : ∀ k : Nat, k < m → 0 ≤ M 22 k ∧ M 22 k < W 7) (hb : 0 ≤ b ∧ b < 1024) : yk (fX5_agreeWithout M b m) fun x => x = true ↔ agr W M m b := by
  have key : ∀ (n k : Nat), k ≤ m + 1 → (∀ a j : Nat, j < a → a < k → a < m → bt b a = 0 → bt b j = 0 → sOdds W (M 22 j) (M 22 a) = false) → m - k < n → yk (fX5_agreeWithout_L2 n M b m k) fun x => (x = .inl () ∧ agr W M m b) ∨ (x = .inr false ∧ ¬ agr W M m b) := by
    intro n
    induction n with
    | zero => intro k _ _ h; omega
    | succ n ih =>
      intro k hk1 hno hn
      unfold fX5_agreeWithout_L2
      have ek : (k : Int) + 1 = ((k + 1 : Nat) : Int) := by omega
      by_cases h : k < m
      · rw [if_pos (by rw [wr_id (by omega) (by omega), wr_id (by omega) (by omega)]; omega), yk_xs0, ek]
        refine yk.mono (ag10_q iP gP i7 h7 hm hK hb h xfuel 0 (by omega) (by unfold xfuel; omega)) ?_
        intro x hx
        rcases hx with ⟨a, c⟩ | ⟨a, j, j1, j2, j3, j4⟩
        · rw [a]
          refine ih (k + 1) (by omega) ?_ (by omega)
          intro p j j1 j2 j3 j4 j5
          by_cases e : p = k
          · rw [e] at j1 j4 ⊢; exact c j (by omega) j1 j4 j5
          · exact hno p j j1 (by omega) j3 j4 j5
        · rw [a]
          show yk (some (Sum.inr false)) _
          rw [yk_some]
          refine Or.inr ⟨rfl, fun w => ?_⟩
          have := w k j j1 h j2 j3
          rw [this] at j4
          exact absurd j4 (by decide)
      · rw [if_neg (by rw [wr_id (by omega) (by omega), wr_id (by omega) (by omega)]; omega), yk_some]
        exact Or.inl ⟨rfl, fun p j j1 j2 j3 j4 => hno p j j1 (by omega) j2 j3 j4⟩
  unfold fX5_agreeWithout
  rw [yk_xs0]
  refine yk.mono (key xfuel 1 (by omega) (fun a j h1 h2 => by omega) (by unfold xfuel; omega)) ?_
  intro x hx
  rcases hx with ⟨a, c⟩ | ⟨a, c⟩
  · rw [a]
    show yk (some true) _
    rw [yk_some]
    exact ⟨fun _ => c, fun _ => rfl⟩
  · rw [a]
    show yk (some false) _
    rw [yk_some]
    exact ⟨fun w => absurd w (by decide), fun w => absurd w c⟩
end FK
