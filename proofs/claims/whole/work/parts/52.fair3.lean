/-! fair: the reference -/
theorem xj_e {α β : Type} {K : β} {F : β → α} : xj K F = F K := rfl
section FM
variable {W : Int → Int} {m : Int}
def mRel (m : Int) (R : fR) (M : xM) : Prop := M 94 30 = b2i R.1 ∧ (R.1 = true → M 94 28 = R.2.1 ∧ M 94 29 = R.2.2.1 ∧ ∀ j : Nat, (j : Int) < m → M 107 j = R.2.2.2.getD j 0)
theorem sWorth_t {W : Int → Int} {p d an t : Int} : sWorth W p d an t = sWorth W p d an (sTo1 t) := by
  unfold sWorth sTo1
  by_cases h : t = 0
  · subst h; rfl
  · rw [if_neg h, if_neg (show ¬ (1 : Int) = 0 by decide)]
theorem addM_q {rc : xM → Int → Int → Int → Option xM} {v2 v3 kk t an i : Int} {x : Int → Int} (gw : gW W) (ht : fX12_turnOf kk = t) (ht2 : -1 ≤ t ∧ t ≤ 1) (hi : 0 ≤ i ∧ i < 6) (han : 0 ≤ an ∧ an < W 0) (hx : ∀ p : Int, x p = sWorth W p (W 2 + i) an (sTo1 t)) (n : Nat) : ∀ (M : xM) (p : Int), M 95 = W → 0 ≤ p → p ≤ W 5 → W 5 - p < n → yk (fX12_triesFair_L30 rc n M i v2 v3 kk an p) fun M' => (∀ o, o ≠ 101 → o ≠ 102 → o ≠ 108 → M' o = M o) ∧ ∀ j, M' 108 j = if p ≤ j ∧ j < W 5 then M 108 j + x j else M 108 j := by
  have gb := gw.1
  unfold gB at gb
  induction n with
  | zero => intro M p hM h0 h1 h2; omega
  | succ n ih =>
    intro M p hM h0 h1 h2
    unfold fX12_triesFair_L30
    by_cases h : p < W 5
    · rw [if_pos (by rw [hM, wr_id (by omega) (by omega), wr_id (by omega) (by omega)]; omega), xrd_at (by omega) (by omega) (by omega), yk_xb2, ht, hM]
      refine yk.mono (worthOf_e (M := M) (by rw [hM]; exact gw) (by rw [hM]; omega) (by omega) (by omega) (by omega)) ?_
      intro z hz1
      have ez : z.1 = x p := by rw [hz1.1, hM, hx p, sWorth_t]
      rw [xwt_at (by omega) (by omega) (by omega), ez]
      refine yk.mono (ih _ (p + 1) (by rw [xup_o (by omega), hz1.2 95 (by omega) (by omega)]; exact hM) (by omega) (by omega) (by omega)) ?_
      intro M' w
      refine ⟨fun o o1 o2 o3 => by rw [w.1 o o1 o2 o3, xup_o o3, hz1.2 o o1 o2], ?_⟩
      intro j
      rw [w.2 j]
      by_cases e : j = p
      · subst e
        rw [if_neg (by omega), xup_e rfl, if_pos (by omega)]
      · rw [xup_n e, hz1.2 108 (by omega) (by omega)]
        by_cases h5 : p ≤ j ∧ j < W 5
        · rw [if_pos (by omega), if_pos h5]
        · rw [if_neg (by omega), if_neg h5]
    · rw [if_neg (by rw [hM, wr_id (by omega) (by omega), wr_id (by omega) (by omega)]; omega)]
      exact ⟨_, rfl, fun _ _ _ _ => rfl, fun j => by rw [if_neg (by omega)]⟩
theorem subM_q {rc : xM → Int → Int → Int → Option xM} {v2 v3 kk t an i : Int} {x : Int → Int} (gw : gW W) (ht : fX12_turnOf kk = t) (ht2 : -1 ≤ t ∧ t ≤ 1) (hi : 0 ≤ i ∧ i < 6) (han : 0 ≤ an ∧ an < W 0) (hx : ∀ p : Int, x p = sWorth W p (W 2 + i) an (sTo1 t)) (n : Nat) : ∀ (M : xM) (p : Int), M 95 = W → 0 ≤ p → p ≤ W 5 → W 5 - p < n → yk (fX12_triesFair_L102 rc n M i v2 v3 kk an p) fun M' => (∀ o, o ≠ 101 → o ≠ 102 → o ≠ 108 → M' o = M o) ∧ ∀ j, M' 108 j = if p ≤ j ∧ j < W 5 then M 108 j - x j else M 108 j := by
  have gb := gw.1
  unfold gB at gb
  induction n with
  | zero => intro M p hM h0 h1 h2; omega
  | succ n ih =>
    intro M p hM h0 h1 h2
    unfold fX12_triesFair_L102
    by_cases h : p < W 5
    · rw [if_pos (by rw [hM, wr_id (by omega) (by omega), wr_id (by omega) (by omega)]; omega), xrd_at (by omega) (by omega) (by omega), yk_xb2, ht, hM]
      refine yk.mono (worthOf_e (M := M) (by rw [hM]; exact gw) (by rw [hM]; omega) (by omega) (by omega) (by omega)) ?_
      intro z hz1
      have ez : z.1 = x p := by rw [hz1.1, hM, hx p, sWorth_t]
      rw [xwt_at (by omega) (by omega) (by omega), ez]
      refine yk.mono (ih _ (p + 1) (by rw [xup_o (by omega), hz1.2 95 (by omega) (by omega)]; exact hM) (by omega) (by omega) (by omega)) ?_
      intro M' w
      refine ⟨fun o o1 o2 o3 => by rw [w.1 o o1 o2 o3, xup_o o3, hz1.2 o o1 o2], ?_⟩
      intro j
      rw [w.2 j]
      by_cases e : j = p
      · subst e
        rw [if_neg (by omega), xup_e rfl, if_pos (by omega)]
      · rw [xup_n e, hz1.2 108 (by omega) (by omega)]
        by_cases h5 : p ≤ j ∧ j < W 5
        · rw [if_pos (by omega), if_pos h5]
        · rw [if_neg (by omega), if_neg h5]
    · rw [if_neg (by rw [hM, wr_id (by omega) (by omega), wr_id (by omega) (by omega)]; omega)]
      exact ⟨_, rfl, fun _ _ _ _ => rfl, fun j => by rw [if_neg (by omega)]⟩
theorem lowM_q {rc : xM → Int → Int → Int → Option xM} {M : xM} {v2 : Int} {s : Nat → Int} {k : Nat} (hk : k ≤ 10) (h5 : M 95 5 = k) (hs : ∀ p, -100000 ≤ s p ∧ s p ≤ 100000) (hr : ∀ p : Nat, p < k → M 108 p = s p) (q : Nat) : ∀ (n p : Nat), p + q = k → q < n → fX12_triesFair_L166 rc n M v2 (sLow s p) (sSm s p) p = some (sLow s k, sSm s k) := by
  induction q with
  | zero =>
    intro n p h1 h2
    obtain ⟨n', rfl⟩ : ∃ n', n = n' + 1 := ⟨n - 1, by omega⟩
    have e : p = k := by omega
    subst e
    unfold fX12_triesFair_L166
    rw [h5, if_neg (by omega)]
  | succ q ih =>
    intro n p h1 h2
    obtain ⟨n', rfl⟩ : ∃ n', n = n' + 1 := ⟨n - 1, by omega⟩
    have sp := hs p
    have lr := sLow_rng (B := 100000) hs p
    have e1 : sSm s (p + 1) = sSm s p + s p := rfl
    have e9 : sLow s (p + 1) = if p = 0 then s 0 else min (sLow s p) (s p) := rfl
    have e3 : (p : Int) + 1 = ((p + 1 : Nat) : Int) := by omega
    have nx := ih n' (p + 1) (by omega) (by omega)
    rw [e1] at nx
    unfold fX12_triesFair_L166
    rw [h5, if_pos (by rw [wr_id (by omega) (by omega), wr_id (by omega) (by omega)]; omega), xj_e, xj_e, wr_id (x := (p : Int)) (by omega) (by omega), xrd_at (by omega) (by omega) (by omega), hr p (by omega), xrd_at (by omega) (by omega) (by omega), hr p (by omega), e3]
    have key : ∀ v : Int, (xrd M 108 10 (p : Int) fun r24 => fX12_triesFair_L166 rc n' M v2 v (sSm s p + r24) ((p + 1 : Nat) : Int)) = fX12_triesFair_L166 rc n' M v2 v (sSm s p + s p) ((p + 1 : Nat) : Int) := fun v => by rw [xrd_at (by omega) (by omega) (by omega), hr p (by omega)]
    by_cases hp : p = 0
    · rw [if_pos hp] at e9
      have e7 : s p = sLow s (p + 1) := by rw [e9, hp]
      rw [if_pos (show (p : Int) = 0 by omega)]
      refine (key (s p)).trans ?_
      rw [← nx, ← e7]
    · rw [if_neg hp] at e9
      rw [if_neg (show ¬ (p : Int) = 0 by omega), wr_id (by omega) (by omega), wr_id (by omega) (by omega)]
      by_cases hl : s p < sLow s p
      · have e8 : sLow s (p + 1) = s p := by omega
        rw [if_pos hl]
        refine (key (s p)).trans ?_
        rw [← nx, e8]
      · have e8 : sLow s (p + 1) = sLow s p := by omega
        rw [if_neg hl]
        refine (key (sLow s p)).trans ?_
        rw [← nx, e8]
theorem copyM_q {rc : xM → Int → Int → Int → Option xM} (hm : 1 ≤ m ∧ m ≤ 6) (n : Nat) : ∀ (M : xM) (k : Int), 0 ≤ k → k ≤ m → m - k < n → (∀ j, 0 ≤ j → j < k → M 107 j = M 106 j) → yk (fX12_triesFair_L281 rc n M m k) fun M' => (∀ o, o ≠ 107 → M' o = M o) ∧ ∀ j, 0 ≤ j → j < m → M' 107 j = M 106 j := by
  induction n with
  | zero => intro M k h0 h1 h2; omega
  | succ n ih =>
    intro M k h0 h1 h2 hz
    unfold fX12_triesFair_L281
    by_cases h : k < m
    · rw [if_pos (by rw [wr_id (by omega) (by omega), wr_id (by omega) (by omega)]; exact h), xrd_at (by omega) (by omega) (by omega), xwt_at (by omega) (by omega) (by omega)]
      refine yk.mono (ih _ (k + 1) (by omega) (by omega) (by omega) ?_) ?_
      · intro j j0 j1
        rw [xup_o (show 106 ≠ 107 by omega)]
        by_cases e : j = k
        · subst e; rw [xup_e rfl]
        · rw [xup_n e]; exact hz j j0 (by omega)
      · intro M' q
        refine ⟨fun o ho => by rw [q.1 o ho, xup_o ho], ?_⟩
        intro j j0 j1
        rw [q.2 j j0 j1, xup_o (by omega)]
    · rw [if_neg (by rw [wr_id (by omega) (by omega), wr_id (by omega) (by omega)]; exact h)]
      exact ⟨_, rfl, fun _ _ => rfl, fun j j0 j1 => hz j j0 (by omega)⟩
end FM
