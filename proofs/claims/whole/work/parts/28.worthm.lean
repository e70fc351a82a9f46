/-! what a day is worth, as the reference reckons it -/
theorem sLine_rng (W F : Int → Int) (k i : Int) : -2147483648 ≤ sLine W F k i ∧ sLine W F k i ≤ 2147483647 := by
  unfold sLine
  split
  · have := wr_rng ((sRun F (sVa W k i) []).headD 0)
    omega
  · omega
theorem sSum_rng (W F : Int → Int) (k : Int) (n : Nat) : -2147483648 * (n : Int) ≤ sSum W F k n ∧ sSum W F k n ≤ 2147483647 * (n : Int) := by
  induction n with
  | zero => exact ⟨Int.le_refl _, Int.le_refl _⟩
  | succ n ih =>
    have e : sSum W F k (n + 1) = sSum W F k n + sLine W F k n := rfl
    have := sLine_rng W F k n
    rw [e]
    omega
theorem lines_q {M0 : xM} {k : Int} {F : Int → Int} (hk : 0 ≤ k ∧ k < 4) (g : gWant (M0 95) k) (hF : ∀ s, 1 ≤ s → s ≤ 7 → M0 102 s = F s) (m : Nat) : ∀ (n : Nat) (M : xM) (i : Nat) (s : Int), (∀ o, o ≠ 101 → M o = M0 o) → (i : Int) + m = M0 95 (2320 + k) → m < n → yk (fX12_worthOf_L133 n M k s i) fun q => q.1 = s + (sSum (M0 95) F k (i + m) - sSum (M0 95) F k i) ∧ ∀ o, o ≠ 101 → q.2 o = M0 o := by
  have gr := g.1
  induction m with
  | zero =>
    intro n M i s hM h1 h2
    obtain ⟨n', rfl⟩ : ∃ n', n = n' + 1 := ⟨n - 1, by omega⟩
    have w := hM 95 (by omega)
    unfold fX12_worthOf_L133
    simp (disch := omega) only [xrd_at, w, wr_id, if_neg, yk_some]
    refine ⟨?_, hM⟩
    show _ = s + (sSum (M0 95) F k i - sSum (M0 95) F k i)
    omega
  | succ m ih =>
    intro n M i s hM h1 h2
    obtain ⟨n', rfl⟩ : ∃ n', n = n' + 1 := ⟨n - 1, by omega⟩
    have w := hM 95 (by omega)
    have gl := g.2 i (by omega) (by omega)
    have gl1 := gl.1
    have e1 : sSum (M0 95) F k (i + 1) = sSum (M0 95) F k i + sLine (M0 95) F k i := rfl
    have e2 : i + 1 + m = i + (m + 1) := by omega
    have e3 : (i : Int) + 1 = ((i + 1 : Nat) : Int) := by omega
    have a1 : (2330 : Int) + (16 * k + i) = 2330 + 16 * k + i := by omega
    have a2 : (2400 : Int) + (16 * k + i) = 2400 + 16 * k + i := by omega
    have a3 : (2470 : Int) + (16 * k + i) = 2470 + 16 * k + i := by omega
    have f1 : M0 95 (2330 + 16 * k + i) = sFr (M0 95) k i := rfl
    have f2 : M0 95 (2400 + 16 * k + i) = sMi (M0 95) k i := rfl
    have f3 : M0 95 (2470 + 16 * k + i) = sTo (M0 95) k i := rfl
    have next : ∀ (M2 : xM) (s2 : Int), (∀ o, o ≠ 101 → M2 o = M0 o) → s2 = s + sLine (M0 95) F k i → yk (fX12_worthOf_L133 n' M2 k s2 (i + 1)) fun q => q.1 = s + (sSum (M0 95) F k (i + (m + 1)) - sSum (M0 95) F k i) ∧ ∀ o, o ≠ 101 → q.2 o = M0 o := by
      intro M2 s2 f1 f2
      rw [e3]
      refine yk.mono (ih n' M2 (i + 1) s2 f1 (by omega) (by omega)) ?_
      intro q hq
      refine ⟨?_, hq.2⟩
      rw [hq.1, e2, e1, f2]
      omega
    have val : ∀ M2 : xM, (∀ o, o ≠ 101 → M2 o = M0 o) → (sTo (M0 95) k i = sMi (M0 95) k i ∨ wr ((sRun F (sCo (M0 95) k i) []).headD 0) = 1) → yk (xb2 (fX12_comesTo M2 k (sFr (M0 95) k i) (sMi (M0 95) k i)) fun r25 M26 => fX12_worthOf_L133 n' M26 k (s + wr r25) (i + 1)) fun q => q.1 = s + (sSum (M0 95) F k (i + (m + 1)) - sSum (M0 95) F k i) ∧ ∀ o, o ≠ 101 → q.2 o = M0 o := by
      intro M2 h3 h4
      rw [yk_xb2]
      refine yk.mono (comes_e (F := F) (b := false) hk (by omega) hF h3 gl1.1 gl1.2.1 gl.2.1) ?_
      intro q hq
      refine next _ _ hq.2 ?_
      rw [hq.1]
      unfold sLine
      rw [if_pos h4]
      rfl
    unfold fX12_worthOf_L133
    simp (disch := omega) only [xrd_at, w, wr_id (x := (i : Int)), wr_id (x := M0 95 (2320 + k)), if_pos, a1, a2, a3, f1, f2, f3, yk_xj]
    by_cases hT : sTo (M0 95) k i = sMi (M0 95) k i
    · rw [hT, if_pos rfl]
      exact val M hM (Or.inl hT)
    · rw [if_neg (by rw [wr_id (by omega) (by omega), wr_id (by omega) (by omega)]; exact hT), yk_xb2]
      have gc := gl.2.2.resolve_left hT
      refine yk.mono (comes_e (F := F) (b := true) hk (by omega) hF hM (by omega) gl1.2.2.1 gc) ?_
      intro q hq
      have w2 := hq.2 95 (by omega)
      simp (disch := omega) only [xrd_at, w2, a1, a2, a3, f1, f2, f3]
      have e7 : wr 1 = 1 := by decide
      rw [e7]
      by_cases hc : wr q.1 = 1
      · rw [if_pos hc]
        exact val q.2 hq.2 (Or.inr (by rw [hq.1] at hc; exact hc))
      · rw [if_neg hc]
        refine next _ _ hq.2 ?_
        unfold sLine
        rw [if_neg]
        · omega
        · rintro (h | h)
          · exact hT h
          · rw [hq.1] at hc; exact hc h
theorem facts_q {v2 v4 v5 mo th : Int} (hmo : 0 ≤ mo ∧ mo < 12) (hth : 0 ≤ th ∧ th < 24) (n : Nat) : ∀ (M : xM) (i : Int), 0 ≤ i → i ≤ 3 → 3 - i < n → yk (fX12_worthOf_L50 n M v2 v4 v5 mo th i) fun M' => (∀ o, o ≠ 102 → M' o = M o) ∧ ∀ s, M' 102 s = if 2 + i ≤ s ∧ s < 5 then M 95 (620 + 24 * (12 * (s - 2) + mo) + th) else M 102 s := by
  induction n with
  | zero => intro M i h0 h1 h2; omega
  | succ n ih =>
    intro M i h0 h1 h2
    unfold fX12_worthOf_L50
    by_cases h : i < 3
    · simp (disch := omega) only [wr_id, if_pos, xrd_at, xwt_at]
      refine yk.mono (ih _ (i + 1) (by omega) (by omega) (by omega)) ?_
      intro M' hM
      refine ⟨fun o ho => by rw [hM.1 o ho, xup_o ho], ?_⟩
      intro s
      rw [hM.2 s, xup_o (show 95 ≠ 102 by omega)]
      by_cases hs : s = 2 + i
      · subst hs
        rw [if_neg (by omega), if_pos (by omega), xup_e rfl]
        have e : 2 + i - 2 = i := by omega
        rw [e]
      · rw [xup_n hs]
        by_cases h5 : 2 + i ≤ s ∧ s < 5
        · rw [if_pos (by omega), if_pos h5]
        · rw [if_neg (by omega), if_neg h5]
    · rw [if_neg (by rw [wr_id (by omega) (by omega), wr_id (by omega) (by omega)]; exact h)]
      exact ⟨_, rfl, fun o ho => rfl, fun s => by rw [if_neg (by omega)]⟩
theorem worthOf_e {M : xM} {p d a t : Int} (g : gW (M 95)) (hp : 0 ≤ p ∧ p < M 95 5) (hd : 0 ≤ d ∧ d ≤ 20000) (ha : -1000000 ≤ a ∧ a ≤ 1000000) (ht : -2147483648 ≤ t ∧ t < 2147483648) : yk (fX12_worthOf M p d a t) fun q => q.1 = sWorth (M 95) p d a t ∧ ∀ o, o ≠ 101 → o ≠ 102 → q.2 o = M o := by
  have gb := g.1
  have gp := g.2.2.2.2.1 p hp.1 hp.2
  unfold gB at gb
  have a1 : 20 + 4 * p + 2 = 22 + 4 * p := by omega
  have a2 : 20 + 4 * p + 0 = 20 + 4 * p := by omega
  have md := md_rng (a := M 95 (20 + 4 * p) + a) (n := M 95 0) (by omega)
  have mo : 0 ≤ d / 30 % 12 ∧ d / 30 % 12 < 12 := by omega
  unfold fX12_worthOf fX12_of0 sWorth
  by_cases h4 : M 95 (22 + 4 * p) = 4
  · rw [if_pos h4]
    simp (disch := omega) only [xrd_at, a1, yk_xb, yk_some, h4, ↓reduceIte]
    exact ⟨trivial, fun _ _ _ => trivial⟩
  · rw [if_neg h4]
    simp (disch := omega) only [xrd_at, a1, a2, yk_xb, yk_some, wr_id, if_neg, modulo_eq, yk_xlet, yk_xj, month_e]
    refine yk.mono (facts_q mo (by omega) xfuel _ 0 (by omega) (by omega) (by unfold xfuel; omega)) ?_
    intro M1 h1
    have gk := g.2.2.2.2.2.2.2.2.2 (M 95 (22 + 4 * p)) (by omega) (by omega)
    have key : ∀ made : Int, yk (xb2 (fX12_worthOf_L133 xfuel (xup (xup (xup M1 102 5 (d / 30 % 12)) 102 6 d) 102 7 made) (M 95 (22 + 4 * p)) 0 0) fun y32 M33 => if wr (xlcmp y32 (-9999)) < 0 then some (-9999, M33) else if 0 < wr (xlcmp y32 9999) then some (9999, M33) else some (y32, M33)) fun q => q.1 = sVal (M 95) (M 95 (22 + 4 * p)) ((M 95 (20 + 4 * p) + a) % M 95 0) d made ∧ ∀ o, o ≠ 101 → o ≠ 102 → q.2 o = M o := by
      intro made
      have fr : ∀ o, o ≠ 102 → xup (xup (xup M1 102 5 (d / 30 % 12)) 102 6 d) 102 7 made o = M o := by
        intro o ho
        rw [xup_o ho, xup_o ho, xup_o ho, h1.1 o ho, xup_o ho]
      have w := fr 95 (by omega)
      have hF : ∀ s, 1 ≤ s → s ≤ 7 → xup (xup (xup M1 102 5 (d / 30 % 12)) 102 6 d) 102 7 made 102 s = sF (M 95) ((M 95 (20 + 4 * p) + a) % M 95 0) d made s := by
        intro s s0 s1
        have hs : s = 1 ∨ s = 2 ∨ s = 3 ∨ s = 4 ∨ s = 5 ∨ s = 6 ∨ s = 7 := by omega
        have h12 := h1.2 s
        unfold sF
        rcases hs with rfl | rfl | rfl | rfl | rfl | rfl | rfl
        all_goals
          simp (disch := omega) only [xup_o, xup_n, xup_e, if_pos, if_neg, ↓reduceIte, true_or, or_true] at h12 ⊢
          all_goals first | exact h12 | skip
      rw [yk_xb2]
      have lq := lines_q (M0 := xup (xup (xup M1 102 5 (d / 30 % 12)) 102 6 d) 102 7 made) (k := M 95 (22 + 4 * p)) (F := sF (M 95) ((M 95 (20 + 4 * p) + a) % M 95 0) d made) (by omega) (by rw [w]; exact gk) hF (M 95 (2320 + M 95 (22 + 4 * p))).toNat xfuel _ 0 0 (fun _ _ => rfl) (by rw [w]; have := gk.1; omega) (by have := gk.1; unfold xfuel; omega)
      rw [w] at lq
      refine yk.mono lq ?_
      intro q hq
      have e0 : sSum (M 95) (sF (M 95) ((M 95 (20 + 4 * p) + a) % M 95 0) d made) (M 95 (22 + 4 * p)) 0 = 0 := rfl
      have e1 := hq.1
      rw [Nat.zero_add, e0] at e1
      have sr := sSum_rng (M 95) (sF (M 95) ((M 95 (20 + 4 * p) + a) % M 95 0) d made) (M 95 (22 + 4 * p)) (M 95 (2320 + M 95 (22 + 4 * p))).toNat
      have gk1 := gk.1
      unfold sVal sClamp
      generalize sSum (M 95) (sF (M 95) ((M 95 (20 + 4 * p) + a) % M 95 0) d made) (M 95 (22 + 4 * p)) (M 95 (2320 + M 95 (22 + 4 * p))).toNat = X at *
      have e2 : q.1 = X := by omega
      rw [e2]
      have hX : -9223372036854775808 ≤ X ∧ X < 9223372036854775808 := by omega
      have fr2 : ∀ o, o ≠ 101 → o ≠ 102 → q.2 o = M o := fun o o1 o2 => by rw [hq.2 o o1, fr o o2]
      unfold xlcmp
      rw [wl_i hX.1 hX.2, wl_i (x := -9999) (by omega) (by omega), wl_i (x := 9999) (by omega) (by omega)]
      have z1 : wr (-1) = -1 := by decide
      have z2 : wr 0 = 0 := by decide
      have z3 : wr 1 = 1 := by decide
      by_cases c1 : X < -9999
      · rw [if_pos c1, if_pos c1, z1, if_pos (by omega), yk_some]
        exact ⟨rfl, fr2⟩
      · rw [if_neg c1]
        have c2 : ¬ wr (if X = -9999 then 0 else 1) < 0 := by
          split
          · rw [z2]; omega
          · rw [z3]; omega
        rw [if_neg c2, if_neg c1]
        by_cases c3 : 9999 < X
        · rw [if_neg (show ¬ X < 9999 by omega), if_neg (show ¬ X = 9999 by omega), z3, if_pos (by omega), if_pos c3, yk_some]
          exact ⟨rfl, fr2⟩
        · have c4 : ¬ 0 < wr (if X < 9999 then -1 else if X = 9999 then 0 else 1) := by
            split
            · rw [z1]; omega
            · rw [if_pos (by omega), z2]; omega
          rw [if_neg c4, if_neg c3, yk_some]
          exact ⟨rfl, fr2⟩
    by_cases ht0 : t = 0
    · rw [if_pos ht0, if_pos ht0]
      exact key 0
    · rw [if_neg ht0, if_neg ht0]
      exact key 1
