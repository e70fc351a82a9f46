/-! back, both -/
def sFst (W : Int → Int) (b : Int) (m : Nat) : Int := fI (sPos (sWy W b m)) 0 (W 0).toNat
def sBk (W : Int → Int) (a b d : Int) : Int := if d = 0 then min (sTot (sWy W b (b - a + 1).toNat) (W 0).toNat) 100000000000000000 else if sFst W b (b - a + 1).toNat = -1 then -1 else if d = 1 then sFst W b (b - a + 1).toNat else sTa W b (b - a + 1).toNat (sFst W b (b - a + 1).toNat) (d - 10).toNat + 2
theorem sTa_rng (W : Int → Int) (b : Int) (r : Nat) : ∀ (an : Int) (j : Nat), -1 ≤ sTa W b r an j ∧ sTa W b r an j ≤ 1 := by
  induction r with
  | zero => intro an j; show -1 ≤ (0 : Int) ∧ (0 : Int) ≤ 1; omega
  | succ r ih =>
    intro an j
    cases j with
    | zero => exact sFt_rng W b r an
    | succ j => exact ih _ j
theorem backM_e {K : xM} {a b d : Int} (g : gW (K 95)) (ha : 0 ≤ a ∧ a ≤ 9999) (hb : 0 ≤ b ∧ b ≤ 9999) (hm : a ≤ b ∧ b - a < 40) (hd : d = 0 ∨ d = 1 ∨ (10 ≤ d ∧ d ≤ 10 + (b - a))) : yk (fX12_back K a b d) fun z => z.1 = sBk (K 95) a b d ∧ ∀ o, o ≠ 110 → z.2 o = K o := by
  have gb := g.1
  have gb' := g.1
  unfold gB at gb
  have gL := g.2.2.2.2.2.2.2.2.1
  have gP := g.2.2.2.2.1
  have body : yk (xb (fX12_laysWays K a b) fun M3 => xb2 (fX12_back_L86 xfuel M3 a d 0 ((-1)) ((M3 95 0) - 1)) fun y6 y7 => (if wr d = 0 then (if 0 < wr (xlcmp y6 100000000000000000) then some (100000000000000000, M3) else some (y6, M3)) else (if wr d = wr 1 then some (wr y7, M3) else (if wr y7 = wr ((-1)) then some (wr y7, M3) else (xb (fX12_back_L177 xfuel M3 a d y7 0 0) fun y20 => some ((wr y20) + 2, M3)))))) fun z => z.1 = sBk (K 95) a b d ∧ ∀ o, o ≠ 110 → z.2 o = K o := by
    rw [yk_xb]
    refine yk.mono (laysWays_e gL gP gb' ha (by omega)) ?_
    intro M3 q3
    have w := q3.1 95 (by omega)
    have hf : ∀ q : Int, 0 ≤ q → q < ((K 95 0).toNat : Int) → M3 110 q = sWy (K 95) b (b - a + 1).toNat q ∧ 0 ≤ sWy (K 95) b (b - a + 1).toNat q ∧ sWy (K 95) b (b - a + 1).toNat q ≤ 100000000000000000 := by
      intro q q0 q1
      have := q3.2 0 q (by omega) (by omega) q0 (by omega)
      have e6 : 24 * (0 : Int) + q = q := by omega
      have e7 : b - a + 1 - 0 = b - a + 1 := by omega
      rw [e6, e7] at this
      exact ⟨this, sWy_rng _ _ _ _⟩
    have sq := sumM_q (M := M3) (a := a) (w := d) (f := sWy (K 95) b (b - a + 1).toNat) (N := (K 95 0).toNat) (by omega) hf (K 95 0).toNat xfuel 0 (-1) (by omega) (by unfold xfuel; omega)
    have e0 : ((K 95 0).toNat : Int) - 1 = M3 95 0 - 1 := by rw [w]; omega
    have e9 : (if fI (sPos (sWy (K 95) b (b - a + 1).toNat)) 0 (K 95 0).toNat = -1 then -1 else fI (sPos (sWy (K 95) b (b - a + 1).toNat)) 0 (K 95 0).toNat) = sFst (K 95) b (b - a + 1).toNat := by
      unfold sFst
      split
      · rename_i h; exact h.symm
      · rfl
    rw [e0, Int.zero_add, e9] at sq
    rw [sq, yk_xb2, yk_some]
    have tr := sTot_rng (f := sWy (K 95) b (b - a + 1).toNat) (c := 100000000000000000) (K 95 0).toNat (fun q _ _ => sWy_rng (K 95) b _ q)
    have fr := fI_rng (sPos (sWy (K 95) b (b - a + 1).toNat)) (K 95 0).toNat 0
    have fr2 : sFst (K 95) b (b - a + 1).toNat = -1 ∨ (0 ≤ sFst (K 95) b (b - a + 1).toNat ∧ sFst (K 95) b (b - a + 1).toNat < K 95 0 ∧ 0 < sWy (K 95) b (b - a + 1).toNat (sFst (K 95) b (b - a + 1).toNat)) := by
      rcases fr with h | h
      · exact Or.inl h
      · refine Or.inr ⟨h.1, by unfold sFst; omega, ?_⟩
        have := h.2.2
        unfold sPos at this
        rw [decide_eq_true_eq] at this
        exact this
    unfold sBk
    dsimp only
    have e1 : wr 1 = 1 := by decide
    have em : wr (-1) = -1 := by decide
    rw [wr_id (x := d) (by omega) (by omega), e1, em]
    generalize hT : sTot (sWy (K 95) b (b - a + 1).toNat) (K 95 0).toNat = T at *
    by_cases d0 : d = 0
    · rw [if_pos d0, if_pos d0]
      unfold xlcmp
      rw [wl_i (by omega) (by omega), wl_i (by omega) (by omega)]
      have c2 : wr 0 = 0 := by decide
      by_cases hc : 100000000000000000 < T
      · rw [if_neg (show ¬ T < 100000000000000000 by omega), if_neg (show ¬ T = 100000000000000000 by omega), e1, if_pos (by omega), yk_some]
        exact ⟨by omega, q3.1⟩
      · have c4 : ¬ 0 < wr (if T < 100000000000000000 then -1 else if T = 100000000000000000 then 0 else 1) := by
          split
          · rw [em]; omega
          · rw [if_pos (by omega), c2]; omega
        rw [if_neg c4, yk_some]
        exact ⟨by omega, q3.1⟩
    · rw [if_neg d0, if_neg d0]
      generalize hS : sFst (K 95) b (b - a + 1).toNat = S at *
      have ws : wr S = S := wr_id (by omega) (by omega)
      rw [ws]
      by_cases d1 : d = 1
      · rw [if_pos d1, yk_some]
        refine ⟨?_, q3.1⟩
        show S = _
        by_cases hz : S = -1
        · rw [if_pos hz]; exact hz
        · rw [if_neg hz, if_pos d1]
      · rw [if_neg d1]
        by_cases hz : S = -1
        · rw [if_pos hz, if_pos hz, yk_some]
          exact ⟨hz, q3.1⟩
        · rw [if_neg hz, if_neg hz, if_neg d1]
          have pos := fr2.resolve_left hz
          have em1 : (b - a + 1).toNat = (b - a).toNat + 1 := by omega
          rw [em1] at pos ⊢
          have tq := turnsM_q (M := M3) (a := a) (b := b) (w := d) (by rw [w]; exact gL) (by rw [w]; exact gP) (by rw [w]; exact gb') ha (by omega) (by rw [w]; exact q3.2) (d - 10).toNat xfuel 0 S 0 (b - a).toNat (by omega) (by omega) (by omega) (by omega) (by rw [w]; omega) (by rw [w]; exact pos.2.2) (by unfold xfuel; omega)
          rw [w] at tq
          have ta := sTa_rng (K 95) b ((b - a).toNat + 1) S (d - 10).toNat
          rw [tq, yk_xb, yk_some, yk_some]
          refine ⟨?_, q3.1⟩
          show wr _ + 2 = _
          rw [wr_id (by omega) (by omega)]
  unfold fX12_back fX12_isDay
  rw [isIn_eq (by omega) (by omega) (by omega) (by omega) (by omega) (by omega), isIn_eq (by omega) (by omega) (by omega) (by omega) (by omega) (by omega), isIn_eq (by omega) (by omega) (by omega) (by omega) (by omega) (by omega), isIn_eq (by omega) (by omega) (by omega) (by omega) (by omega) (by omega), isIn_eq (by omega) (by omega) (by omega) (by omega) (by omega) (by omega), if_pos (show decide (0 ≤ a ∧ a ≤ 9999) = true by rw [decide_eq_true_eq]; exact ha), if_pos (show decide (0 ≤ b ∧ b ≤ 9999) = true by rw [decide_eq_true_eq]; exact hb), if_pos (show decide (0 ≤ b - a ∧ b - a ≤ 39) = true by rw [decide_eq_true_eq]; omega), yk_xj]
  by_cases d01 : 0 ≤ d ∧ d ≤ 1
  · rw [if_pos (show decide (0 ≤ d ∧ d ≤ 1) = true by rw [decide_eq_true_eq]; exact d01)]
    exact body
  · rw [if_neg (show ¬ decide (0 ≤ d ∧ d ≤ 1) = true by rw [decide_eq_true_eq]; exact d01), if_pos (show decide (10 ≤ d ∧ d ≤ 9 + (b - a + 1)) = true by rw [decide_eq_true_eq]; omega)]
    exact body
theorem backK_e {W : Int → Int} {M : xM} {a b d : Int} (i : rI M W) (g : gW W) (ha : 0 ≤ a ∧ a ≤ 9999) (hb : 0 ≤ b ∧ b ≤ 9999) (hm : a ≤ b ∧ b - a < 40) (hd : d = 0 ∨ d = 1 ∨ (10 ≤ d ∧ d ≤ 10 + (b - a))) : yk (fX11_back M a b d) fun z => z.1 = sBk W a b d ∧ ∀ o, (o < 75 ∨ 78 < o) → z.2 o = M o := by
  have gb := g.1
  have iB := i.1
  unfold gB at gb
  unfold rB at iB
  have body : yk (xb2 (fX8_countRows M a b) fun r3 M4 => (if wr d = 0 then some (r3, M4) else (if wr (xlcmp r3 0) = 0 then some ((-1), M4) else (xb (fX8_findFirst M4 (M4 1 0)) fun M6 => (if wr d = wr 1 then some (wr (M6 75 0), M6) else (xrd M6 76 40 (d - 10) fun r7 => some (wr (r7 + 2), M6))))))) fun z => z.1 = sBk W a b d ∧ ∀ o, (o < 75 ∨ 78 < o) → z.2 o = M o := by
    rw [yk_xb2]
    refine yk.mono (countRows_e i g ha.1 hb.2 (by omega)) ?_
    intro q hq
    obtain ⟨q1, q2, q3, q4, q5⟩ := hq
    have hf : ∀ x : Int, 0 ≤ x → x < W 0 → q.2 77 x = sWy W b (b - a + 1).toNat x := by
      intro x x0 x1
      have := q5 0 x (by omega) (by omega) x0 x1
      have e6 : (0 : Int) * 24 + x = x := by omega
      have e7 : b - a + 1 - 0 = b - a + 1 := by omega
      rw [e6, e7] at this
      exact this
    have tr := sTot_rng (f := sWy W b (b - a + 1).toNat) (c := 100000000000000000) (W 0).toNat (fun q _ _ => sWy_rng W b _ q)
    have t0 := sTot_0 (f := sWy W b (b - a + 1).toNat) (W 0).toNat (fun q _ _ => (sWy_rng W b _ q).1)
    have fr := fI_rng (sPos (sWy W b (b - a + 1).toNat)) (W 0).toNat 0
    have ef : fI (sPos (sWy W b (b - a + 1).toNat)) 0 (W 0).toNat = sFst W b (b - a + 1).toNat := rfl
    rw [ef] at t0 fr
    have e1 : wr 1 = 1 := by decide
    rw [wr_id (x := d) (by omega) (by omega), e1, q1]
    unfold sBk
    by_cases d0 : d = 0
    · rw [if_pos d0, if_pos d0, yk_some]
      exact ⟨rfl, q2⟩
    · rw [if_neg d0, if_neg d0]
      by_cases hz : sFst W b (b - a + 1).toNat = -1
      · have tz := t0.mpr hz
        rw [if_pos ((xlcmp_0 (by omega)).2.mpr (by omega)), if_pos hz, yk_some]
        exact ⟨rfl, q2⟩
      · have tz : sTot (sWy W b (b - a + 1).toNat) (W 0).toNat ≠ 0 := fun w => hz (t0.mp w)
        have pos := fr.resolve_left hz
        have pp : 0 < sWy W b (b - a + 1).toNat (sFst W b (b - a + 1).toNat) := by
          have := pos.2.2
          unfold sPos at this
          rw [decide_eq_true_eq] at this
          exact this
        rw [if_neg (fun w => by have := (xlcmp_0 (by omega)).2.mp w; omega), if_neg hz, yk_xb]
        have e10 : q.2 1 0 = W 0 := by rw [q2 1 (by omega)]; exact iB.1.1
        unfold fX8_findFirst
        rw [e10, yk_xlet, yk_xb]
        refine yk.mono (start_q (f := sWy W b (b - a + 1).toNat) (N := W 0) (by omega) (fun x _ _ => sWy_rng W b _ x) (p := sFst W b (b - a + 1).toNat) ⟨by omega, pp⟩ xfuel _ 0 (fun x x0 x1 => by rw [xup_o (by omega)]; exact hf x x0 x1) (xup_e rfl) (by omega) (by omega) (fun x x0 x1 => by omega) (by unfold xfuel; omega)) ?_
        intro M5 s5
        obtain ⟨s1, s2, s3, s4, s6⟩ := s5
        have es : M5 75 0 = sFst W b (b - a + 1).toNat := by
          symm
          refine fI_eq (W 0).toNat (by omega) (by unfold sPos; rw [decide_eq_true_eq]; exact s4) ?_
          intro x x0 x1
          unfold sPos
          rw [decide_eq_false_iff_not, s6 x x0 x1]
          omega
        rw [yk_xb, es]
        have f5 : ∀ o, (o < 75 ∨ 76 < o) → M5 o = q.2 o := fun o ho => by rw [s1 o (by omega), xup_o (by omega)]
        refine yk.mono (turnsK_q (W := W) (a := a) (b := b) (m := b - a + 1) (by omega) rfl (by omega) (b - a + 1).toNat xfuel M5 0 _ (by omega) (by omega) (by omega) (by unfold xfuel; omega) (by rw [s2 2 (by omega), xup_n (by omega)]; exact q3) (fun d q d0 d1 q0 q1 => by rw [f5 78 (by omega)]; exact q4 d q d0 d1 q0 q1) (fun d q d0 d1 q0 q1 => by rw [f5 77 (by omega)]; exact q5 d q d0 d1 q0 q1)) ?_
        intro M6 s7
        rw [yk_some]
        have f6 : ∀ o, (o < 75 ∨ 78 < o) → M6 o = M o := fun o ho => by rw [s7.1 o (by omega), f5 o (by omega), q2 o ho]
        have e75 : M6 75 0 = sFst W b (b - a + 1).toNat := by rw [s7.1 75 (by omega)]; exact es
        by_cases d1 : d = 1
        · rw [if_pos d1, if_pos d1, yk_some]
          refine ⟨?_, f6⟩
          show wr (M6 75 0) = _
          rw [e75, wr_id (by omega) (by omega)]
        · have t7 := s7.2.2 (d - 10).toNat (by omega)
          have e8 : (0 : Int) + ((d - 10).toNat : Int) = d - 10 := by omega
          rw [e8] at t7
          have ta := sTa_rng W b (b - a + 1).toNat (sFst W b (b - a + 1).toNat) (d - 10).toNat
          rw [if_neg d1, if_neg d1, xrd_at (by omega) (by omega) (by omega), t7, yk_some]
          refine ⟨?_, f6⟩
          show wr (_ + 2) = _
          rw [wr_id (by omega) (by omega)]
  unfold fX11_back fX11_isTurnOf
  rw [span_eq (by omega) (by omega) (by omega) (by omega), if_pos (show decide (0 ≤ a ∧ a ≤ b ∧ b ≤ 9999) = true by rw [decide_eq_true_eq]; omega), if_pos (show wr (b - a) < wr 40 by rw [wr_id (by omega) (by omega), wr_id (by omega) (by omega)]; omega), yk_xj, within_eq (by omega) (by omega) (by omega) (by omega) (by omega) (by omega)]
  have e1 : wr 1 = 1 := by decide
  have ed : wr d = d := wr_id (by omega) (by omega)
  by_cases d0 : d = 0
  · rw [if_pos (by rw [ed]; exact d0)]
    exact body
  · rw [if_neg (show ¬ wr d = 0 by rw [ed]; exact d0)]
    by_cases d1 : d = 1
    · rw [if_pos (show wr d = wr 1 by rw [ed, e1]; exact d1)]
      exact body
    · rw [if_neg (show ¬ wr d = wr 1 by rw [ed, e1]; exact d1), if_pos (show decide (10 ≤ d ∧ d ≤ 10 + (b - a + 1) - 1) = true by rw [decide_eq_true_eq]; omega)]
      exact body
theorem tc_back {ph : Bool} {c : Int} {M : xM} {a b d : Int} (I : Inv ph c M) (ha : -2147483648 ≤ a ∧ a < 2147483648) (hb : -2147483648 ≤ b ∧ b < 2147483648) (hd : -2147483648 ≤ d ∧ d < 2147483648) : yk (fX11_back M a b d) fun q => yk (fX12_back q.2 a b d) fun z => q.1 = z.1 ∧ Inv ph c z.2 := by
  by_cases g : (0 ≤ a ∧ a ≤ 9999) ∧ (0 ≤ b ∧ b ≤ 9999) ∧ (a ≤ b ∧ b - a < 40) ∧ (d = 0 ∨ d = 1 ∨ (10 ≤ d ∧ d ≤ 10 + (b - a)))
  · refine yk.mono (backK_e I.1 I.2.1 g.1 g.2.1 g.2.2.1 g.2.2.2) ?_
    intro q hq
    have w := hq.2 95 (by omega)
    refine yk.mono (backM_e (K := q.2) (by rw [w]; exact I.2.1) g.1 g.2.1 g.2.2.1 g.2.2.2) ?_
    intro z hz
    refine ⟨by rw [hq.1, hz.1, w], ?_⟩
    have f : ∀ o, (o < 75 ∨ 78 < o) → o ≠ 110 → z.2 o = M o := fun o h1 h2 => by rw [hz.2 o h2, hq.2 o h1]
    have e36 := f 36 (by omega) (by omega)
    have e94 := f 94 (by omega) (by omega)
    refine Inv_scr I ?_ (fun o h0 h1 h2 h3 h4 h5 h6 => f o (by omega) (by omega)) (by rw [e36]; exact ⟨rfl, rfl, rfl⟩) (by rw [e94]; exact ⟨rfl, rfl, rfl, rfl, rfl⟩) (f 108 (by omega) (by omega))
    exact rMemo_fr I.2.2.2.2.1 I.2.1.2.2.2.2.2.2.2.2.2 ⟨f _ (by omega) (by omega), f _ (by omega) (by omega), f _ (by omega) (by omega), f _ (by omega) (by omega), f _ (by omega) (by omega)⟩ (fun k hk => f _ (by omega) (by omega)) (fun _ _ => rfl) (fun _ _ _ => rfl)
  · have e1 : fX11_back M a b d = some (-1, M) := by
      unfold fX11_back fX11_isTurnOf
      rw [span_eq (by omega) (by omega) (by omega) (by omega)]
      by_cases h1 : 0 ≤ a ∧ a ≤ b ∧ b ≤ 9999
      · rw [if_pos (show decide (0 ≤ a ∧ a ≤ b ∧ b ≤ 9999) = true by rw [decide_eq_true_eq]; exact h1), wr_id (x := b - a) (by omega) (by omega)]
        by_cases h2 : b - a < 40
        · have e1 : wr 1 = 1 := by decide
          have e40 : wr 40 = 40 := by decide
          rw [e40, if_pos h2, within_eq (by omega) (by omega) (by omega) (by omega) (by omega) (by omega), wr_id (x := d) (by omega) (by omega), e1]
          dsimp only [xj]
          rw [if_neg (show ¬ d = 0 by omega), if_neg (show ¬ d = 1 by omega), if_neg (show ¬ decide (10 ≤ d ∧ d ≤ 10 + (b - a + 1) - 1) = true by rw [decide_eq_true_eq]; omega)]
        · have e40 : wr 40 = 40 := by decide
          rw [e40, if_neg h2]
      · rw [if_neg (show ¬ decide (0 ≤ a ∧ a ≤ b ∧ b ≤ 9999) = true by rw [decide_eq_true_eq]; exact h1)]
    have e2 : fX12_back M a b d = some (-1, M) := by
      unfold fX12_back fX12_isDay
      rw [isIn_eq (a := a) (by omega) (by omega) (by omega) (by omega) (by omega) (by omega), isIn_eq (a := b) (by omega) (by omega) (by omega) (by omega) (by omega) (by omega)]
      by_cases h1 : 0 ≤ a ∧ a ≤ 9999
      · rw [if_pos (show decide (0 ≤ a ∧ a ≤ 9999) = true by rw [decide_eq_true_eq]; exact h1)]
        by_cases h2 : 0 ≤ b ∧ b ≤ 9999
        · rw [if_pos (show decide (0 ≤ b ∧ b ≤ 9999) = true by rw [decide_eq_true_eq]; exact h2), isIn_eq (by omega) (by omega) (by omega) (by omega) (by omega) (by omega)]
          by_cases h3 : 0 ≤ b - a ∧ b - a ≤ 39
          · rw [if_pos (show decide (0 ≤ b - a ∧ b - a ≤ 39) = true by rw [decide_eq_true_eq]; exact h3), isIn_eq (by omega) (by omega) (by omega) (by omega) (by omega) (by omega), isIn_eq (by omega) (by omega) (by omega) (by omega) (by omega) (by omega)]
            dsimp only [xj]
            rw [if_neg (show ¬ decide (0 ≤ d ∧ d ≤ 1) = true by rw [decide_eq_true_eq]; omega), if_neg (show ¬ decide (10 ≤ d ∧ d ≤ 9 + (b - a + 1)) = true by rw [decide_eq_true_eq]; omega)]
          · rw [if_neg (show ¬ decide (0 ≤ b - a ∧ b - a ≤ 39) = true by rw [decide_eq_true_eq]; exact h3)]
        · rw [if_neg (show ¬ decide (0 ≤ b ∧ b ≤ 9999) = true by rw [decide_eq_true_eq]; exact h2)]
      · rw [if_neg (show ¬ decide (0 ≤ a ∧ a ≤ 9999) = true by rw [decide_eq_true_eq]; exact h1)]
    exact ⟨_, e1, _, e2, rfl, I⟩
