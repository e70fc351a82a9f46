/-! feed -/
def byt (w t : Int) : Int := xand (xshr w (24 - 8 * t)) 255
theorem byt_rng (w t : Int) : 0 ≤ byt w t ∧ byt w t ≤ 255 := by
  unfold byt xand
  have e : Int32.ofInt 255 = 255 := rfl
  rw [e, pk_and _ (m := 255) 8 (by decide), nI_toInt (by omega)]
  omega
theorem add_q {w L : Int} (hL : 0 ≤ L ∧ L + 4 ≤ 400) (n : Nat) : ∀ (M : xM) (t : Int), 0 ≤ t → t ≤ 4 → 4 - t < n → M 36 0 = L + t → yk (fX7_add_L3 n M w (24 - 8 * t)) fun M' => (∀ o, o ≠ 36 → o ≠ 37 → M' o = M o) ∧ (∀ j, j ≠ 0 → M' 36 j = M 36 j) ∧ M' 36 0 = L + 4 ∧ ∀ j, M' 37 j = if L + t ≤ j ∧ j < L + 4 then byt w (j - L) else M 37 j := by
  induction n with
  | zero => intro M t h0 h1 h2; omega
  | succ n ih =>
    intro M t h0 h1 h2 h3
    unfold fX7_add_L3
    by_cases h : t < 4
    · have br := byt_rng w t
      have ec : xchr (xand (xshr w (24 - 8 * t)) 255) = byt w t := by
        show xchr (byt w t) = byt w t
        unfold xchr
        omega
      have e2 : 24 - 8 * t + -8 = 24 - 8 * (t + 1) := by omega
      rw [ec, h3, e2]
      simp (disch := omega) only [wr_id, if_pos, if_neg, xwt_at, yk_xlet, xup_o, h3]
      refine yk.mono (ih _ (t + 1) (by omega) (by omega) (by omega) (by rw [xup_e rfl]; omega)) ?_
      intro M' q
      refine ⟨fun o o1 o2 => by rw [q.1 o o1 o2, xup_o o1, xup_o o2], fun j hj => by rw [q.2.1 j hj, xup_n hj, xup_o (by omega)], q.2.2.1, ?_⟩
      intro j
      rw [q.2.2.2 j, xup_o (by omega)]
      by_cases hj : j = L + t
      · subst hj
        have e4 : L + t - L = t := by omega
        rw [if_neg (by omega), xup_e rfl, if_pos (by omega), e4]
      · rw [xup_n hj]
        by_cases h5 : L + t ≤ j ∧ j < L + 4
        · rw [if_pos (by omega), if_pos h5]
        · rw [if_neg (by omega), if_neg h5]
    · simp (disch := omega) only [wr_id, if_pos]
      exact ⟨_, rfl, fun o _ _ => rfl, fun j _ => rfl, by omega, fun j => by rw [if_neg (by omega)]⟩
theorem add_e {M : xM} {w L : Int} (hL : 0 ≤ L ∧ L + 4 ≤ 400) (h : M 36 0 = L) : yk (fX7_add M w) fun M' => (∀ o, o ≠ 36 → o ≠ 37 → M' o = M o) ∧ (∀ j, j ≠ 0 → M' 36 j = M 36 j) ∧ M' 36 0 = L + 4 ∧ ∀ j, M' 37 j = if L ≤ j ∧ j < L + 4 then byt w (j - L) else M 37 j := by
  unfold fX7_add
  rw [yk_xb]
  refine yk.mono (add_q (w := w) hL xfuel M 0 (by omega) (by omega) (by unfold xfuel; omega) (by omega)) ?_
  intro M' q
  rw [yk_some]
  refine ⟨q.1, q.2.1, q.2.2.1, ?_⟩
  intro j
  have := q.2.2.2 j
  rw [Int.add_zero] at this
  exact this
def pick (a b c d e k : Int) : Int := if k < 4 then a else if k < 8 then b else if k < 12 then c else if k < 16 then d else e
theorem feedM_q {a b c d e T : Int} (hT : 0 ≤ T ∧ T + 20 ≤ 400) (n : Nat) : ∀ (M : xM) (k : Int), 0 ≤ k → k ≤ 20 → 20 - k < n → M 94 12 = T + k → yk (fX12_feed_L18 n M a b c d e k) fun M' => (∀ o, o ≠ 94 → o ≠ 100 → M' o = M o) ∧ (∀ j, j ≠ 12 → M' 94 j = M 94 j) ∧ M' 94 12 = T + 20 ∧ ∀ j, M' 100 j = if T + k ≤ j ∧ j < T + 20 then byt (pick a b c d e (j - T)) ((j - T) % 4) else M 100 j := by
  induction n with
  | zero => intro M k h0 h1 h2; omega
  | succ n ih =>
    intro M k h0 h1 h2 h3
    unfold fX12_feed_L18
    by_cases h : k < 20
    · have er : xrem k 4 = k % 4 := by
        unfold xrem
        rw [wr_id (by omega) (by omega), wr_id (by omega) (by omega), Int.tmod_eq_emod_of_nonneg h0]
      have key : ∀ v : Int, v = pick a b c d e k → yk (xwt M 100 400 (M 94 12) (xand (xshr v (24 - 8 * xrem k 4)) 255) fun M3 => xlet (xup M3 94 12 ((M3 94 12) + 1)) fun M4 => fX12_feed_L18 n M4 a b c d e (k + 1)) fun M' => (∀ o, o ≠ 94 → o ≠ 100 → M' o = M o) ∧ (∀ j, j ≠ 12 → M' 94 j = M 94 j) ∧ M' 94 12 = T + 20 ∧ ∀ j, M' 100 j = if T + k ≤ j ∧ j < T + 20 then byt (pick a b c d e (j - T)) ((j - T) % 4) else M 100 j := by
        intro v hv
        rw [er, h3, xwt_at (by omega) (by omega) (by omega), yk_xlet]
        refine yk.mono (ih _ (k + 1) (by omega) (by omega) (by omega) (by rw [xup_e rfl, xup_o (by omega)]; omega)) ?_
        intro M' q
        refine ⟨fun o o1 o2 => by rw [q.1 o o1 o2, xup_o o1, xup_o o2], fun j hj => by rw [q.2.1 j hj, xup_n hj, xup_o (by omega)], q.2.2.1, ?_⟩
        intro j
        rw [q.2.2.2 j, xup_o (by omega)]
        by_cases hj : j = T + k
        · subst hj
          have e4 : T + k - T = k := by omega
          rw [if_neg (by omega), xup_e rfl, if_pos (by omega), e4, hv]
          rfl
        · rw [xup_n hj]
          by_cases h5 : T + k ≤ j ∧ j < T + 20
          · rw [if_pos (by omega), if_pos h5]
          · rw [if_neg (by omega), if_neg h5]
      have e4 : wr 4 = 4 := by decide
      have e8 : wr 8 = 8 := by decide
      have e12 : wr 12 = 12 := by decide
      have e16 : wr 16 = 16 := by decide
      have e20 : wr 20 = 20 := by decide
      rw [e4, e8, e12, e16, e20, wr_id (x := k) (by omega) (by omega), if_pos h, yk_xj]
      by_cases c1 : k < 4
      · rw [if_pos c1]
        exact key a (by unfold pick; rw [if_pos c1])
      · rw [if_neg c1]
        by_cases c2 : k < 8
        · rw [if_pos c2]
          exact key b (by unfold pick; rw [if_neg c1, if_pos c2])
        · rw [if_neg c2]
          by_cases c3 : k < 12
          · rw [if_pos c3]
            exact key c (by unfold pick; rw [if_neg c1, if_neg c2, if_pos c3])
          · rw [if_neg c3]
            by_cases c4 : k < 16
            · rw [if_pos c4]
              exact key d (by unfold pick; rw [if_neg c1, if_neg c2, if_neg c3, if_pos c4])
            · rw [if_neg c4]
              exact key e (by unfold pick; rw [if_neg c1, if_neg c2, if_neg c3, if_neg c4])
    · rw [if_neg (by rw [wr_id (by omega) (by omega), wr_id (by omega) (by omega)]; exact h)]
      exact ⟨_, rfl, fun o _ _ => rfl, fun j _ => rfl, by omega, fun j => by rw [if_neg (by omega)]⟩
theorem tc_feed {ph : Bool} {c : Int} {M : xM} {a b d e f : Int} (I : Inv ph c M) (ha : -2147483648 ≤ a ∧ a < 2147483648) (hb : -2147483648 ≤ b ∧ b < 2147483648) (hd : -2147483648 ≤ d ∧ d < 2147483648) (he : -2147483648 ≤ e ∧ e < 2147483648) (hf : -2147483648 ≤ f ∧ f < 2147483648) : yk (fX11_feed M a b d e f) fun q => yk (fX12_feed q.2 a b d e f) fun z => q.1 = z.1 ∧ Inv ph c z.2 := by
  have t := I.2.2.1
  have t1 := t.1
  have t2 := t.2.1
  by_cases g : M 94 12 + 20 ≤ 400
  · unfold fX11_feed fX7_hasRoom
    simp (disch := omega) only [wr_id, if_neg, ↓reduceIte, yk_xb]
    refine yk.mono (add_e (L := M 94 12) (by omega) t1) ?_
    intro M1 q1
    refine yk.mono (add_e (L := M 94 12 + 4) (by omega) q1.2.2.1) ?_
    intro M2 q2
    refine yk.mono (add_e (L := M 94 12 + 4 + 4) (by omega) q2.2.2.1) ?_
    intro M3 q3
    refine yk.mono (add_e (L := M 94 12 + 4 + 4 + 4) (by omega) q3.2.2.1) ?_
    intro M4 q4
    refine yk.mono (add_e (L := M 94 12 + 4 + 4 + 4 + 4) (by omega) q4.2.2.1) ?_
    intro M5 q5
    rw [yk_some]
    have f5 : ∀ o, o ≠ 36 → o ≠ 37 → M5 o = M o := fun o h1 h2 => by rw [q5.1 o h1 h2, q4.1 o h1 h2, q3.1 o h1 h2, q2.1 o h1 h2, q1.1 o h1 h2]
    have w := f5 94 (by omega) (by omega)
    unfold fX12_feed
    simp (disch := omega) only [w, wr_id, if_neg, yk_xb]
    refine yk.mono (feedM_q (T := M 94 12) (by omega) xfuel M5 0 (by omega) (by omega) (by unfold xfuel; omega) (by rw [w]; omega)) ?_
    intro M6 q6
    rw [yk_some]
    refine ⟨by rw [q6.2.2.1, q5.2.2.1]; omega, ?_⟩
    dsimp only
    have f6 : ∀ o, o ≠ 36 → o ≠ 37 → o ≠ 94 → o ≠ 100 → M6 o = M o := fun o h1 h2 h3 h4 => by rw [q6.1 o h3 h4, f5 o h1 h2]
    have m94 : ∀ j, j ≠ 12 → M6 94 j = M 94 j := fun j hj => by rw [q6.2.1 j hj, w]
    have m36 : ∀ j, j ≠ 0 → M6 36 j = M 36 j := fun j hj => by rw [q6.1 36 (by omega) (by omega), q5.2.1 j hj, q4.2.1 j hj, q3.2.1 j hj, q2.2.1 j hj, q1.2.1 j hj]
    have w95 := f6 95 (by omega) (by omega) (by omega) (by omega)
    obtain ⟨⟨i1, i2, i3, i4, i5, i6, i7, i8, i9⟩, ⟨g1, g2, g3, g4, g5, g6, g7, g8, g9, g10⟩, T, H, Me, K⟩ := I
    refine ⟨?_, ?_, ?_, rHist_fr H ⟨f6 _ ?_ ?_ ?_ ?_, f6 _ ?_ ?_ ?_ ?_, f6 _ ?_ ?_ ?_ ?_, f6 _ ?_ ?_ ?_ ?_, f6 _ ?_ ?_ ?_ ?_⟩ (fun q hq => f6 _ ?_ ?_ ?_ ?_) (m94 _ (by omega)) (by rw [w95]; exact ⟨rfl, rfl, rfl, rfl⟩), ?me, rKept_fr K (fun o ho => f6 _ ?_ ?_ ?_ ?_) (f6 _ ?_ ?_ ?_ ?_) (m94 _ (by omega)) (f6 _ ?_ ?_ ?_ ?_)⟩
    case refine_1 =>
      rw [w95]
      exact rI_fr ⟨i1, i2, i3, i4, i5, i6, i7, i8, i9⟩ ⟨g1, g2, g3, g4, g5, g6, g7, g8, g9, g10⟩ (fun o h1 h2 => f6 _ (by omega) (by omega) (by omega) (by omega))
    case refine_2 =>
      rw [w95]
      exact ⟨g1, g2, g3, g4, g5, g6, g7, g8, g9, g10⟩
    case refine_3 =>
      refine ⟨?_, ?_, ?_, ?_, ?_⟩
      · rw [q6.1 36 (by omega) (by omega), q5.2.2.1, q6.2.2.1]
        omega
      · rw [q6.2.2.1]
        omega
      · rw [m36 1 (by omega), m94 19 (by omega)]
        exact T.2.2.1
      · rw [m36 2 (by omega), m94 21 (by omega)]
        exact T.2.2.2.1
      · intro j h0 h1
        rw [q6.2.2.1] at h1
        have e6 := q6.2.2.2 j
        rw [q6.1 37 (by omega) (by omega), q5.2.2.2 j, q4.2.2.2 j, q3.2.2.2 j, q2.2.2.2 j, q1.2.2.2 j]
        rw [f5 100 (by omega) (by omega)] at e6
        by_cases hj : j < M 94 12
        · rw [if_neg (by omega)] at e6
          rw [if_neg (by omega), if_neg (by omega), if_neg (by omega), if_neg (by omega), if_neg (by omega), e6]
          exact T.2.2.2.2 j h0 hj
        · rw [if_pos (by omega)] at e6
          rw [e6]
          refine ⟨?_, byt_rng _ _⟩
          unfold pick
          by_cases c5 : M 94 12 + 4 + 4 + 4 + 4 ≤ j
          · have e9 : j - (M 94 12 + 4 + 4 + 4 + 4) = (j - M 94 12) % 4 := by omega
            rw [if_pos (by omega), if_neg (by omega), if_neg (by omega), if_neg (by omega), if_neg (by omega), e9]
          · by_cases c4 : M 94 12 + 4 + 4 + 4 ≤ j
            · have e9 : j - (M 94 12 + 4 + 4 + 4) = (j - M 94 12) % 4 := by omega
              rw [if_neg (by omega), if_pos (by omega), if_neg (by omega), if_neg (by omega), if_neg (by omega), if_pos (by omega), e9]
            · by_cases c3 : M 94 12 + 4 + 4 ≤ j
              · have e9 : j - (M 94 12 + 4 + 4) = (j - M 94 12) % 4 := by omega
                rw [if_neg (by omega), if_neg (by omega), if_pos (by omega), if_neg (by omega), if_neg (by omega), if_pos (by omega), e9]
              · by_cases c2 : M 94 12 + 4 ≤ j
                · have e9 : j - (M 94 12 + 4) = (j - M 94 12) % 4 := by omega
                  rw [if_neg (by omega), if_neg (by omega), if_neg (by omega), if_pos (by omega), if_neg (by omega), if_pos (by omega), e9]
                · have e9 : j - M 94 12 = (j - M 94 12) % 4 := by omega
                  rw [if_neg (by omega), if_neg (by omega), if_neg (by omega), if_neg (by omega), if_pos (by omega), if_pos (by omega), ← e9]
    case me =>
      rw [w95]
      refine rMemo_fr Me g10 ⟨f6 _ ?_ ?_ ?_ ?_, f6 _ ?_ ?_ ?_ ?_, f6 _ ?_ ?_ ?_ ?_, f6 _ ?_ ?_ ?_ ?_, f6 _ ?_ ?_ ?_ ?_⟩ (fun k hk => f6 _ ?_ ?_ ?_ ?_) (fun _ _ => rfl) (fun _ _ _ => rfl)
      all_goals omega
    all_goals omega
  · have e1 : fX11_feed M a b d e f = some (-1, M) := by
      unfold fX11_feed fX7_hasRoom
      simp (disch := omega) only [wr_id, if_pos, Bool.false_eq_true, ↓reduceIte]
    have e2 : fX12_feed M a b d e f = some (-1, M) := by
      unfold fX12_feed
      simp (disch := omega) only [wr_id, if_pos]
    exact ⟨_, e1, _, e2, rfl, I⟩
