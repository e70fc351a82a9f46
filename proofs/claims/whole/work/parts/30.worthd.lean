/-! what a day is worth, as the class reckons and keeps it -/
def cRest (W : Int → Int) (k : Int) (j : Nat) : Nat → List Int
  | 0 => []
  | m + 1 => cLine W k j ++ cRest W k (j + 1) m
theorem cAll_rest (W : Int → Int) (k : Int) (m : Nat) : ∀ j : Nat, cAll W k (j + m) = cAll W k j ++ cRest W k j m := by
  induction m with
  | zero => intro j; show cAll W k j = cAll W k j ++ []; rw [List.append_nil]
  | succ m ih =>
    intro j
    have e : j + (m + 1) = j + 1 + m := by omega
    rw [e, ih (j + 1)]
    show (cAll W k j ++ cLine W k j) ++ _ = cAll W k j ++ (cLine W k j ++ _)
    rw [List.append_assoc]
theorem vTy_1 {st : List Int} {b : Bool} (h : vTy st [b]) : ∃ x, st = [x] ∧ (b = true → x = 0 ∨ x = 1) := by
  obtain ⟨a, r, e, w, v⟩ := vTy_c h
  cases r with
  | nil => exact ⟨a, e, w⟩
  | cons _ _ => exact v.elim
section CV
variable {M0 : xM} {o0 : Nat} {F : Int → Int} {L k : Int} {W : Int → Int}
theorem vlines_q (ho : o0 < 48) (hL : M0 o0 1 = L) (hL2 : 0 ≤ L ∧ L ≤ 400) (hF : ∀ s, 1 ≤ s → s ≤ 7 → M0 48 (s - 1) = F s) (g : gWant W k) (m : Nat) : ∀ (n : Nat) (M : xM) (j : Nat) (i s : Int), (∀ o, o ≠ 49 → M o = M0 o) → 0 ≤ i → cAt (M0 (o0 + 1)) i (cRest W k j m) → i + (cRest W k j m).length = L → L - i < n → (j : Int) + m = W (2320 + k) → yk (fX9_valueOf_L8 n M o0 s 0 i) fun q => q.1 = s + (sSum W F k (j + m) - sSum W F k j) ∧ ∀ o, o ≠ 49 → q.2 o = M0 o := by
  induction m with
  | zero =>
    intro n M j i s hM h0 hc hl hn hj
    obtain ⟨n', rfl⟩ : ∃ n', n = n' + 1 := ⟨n - 1, by omega⟩
    have w := hM o0 (by omega)
    have e : i + ((cRest W k j 0).length : Int) = i := by simp [cRest]
    rw [e] at hl
    refine cs_end (by rw [w, hL]; exact hl) (by rw [w, hL]; exact hL2) ⟨?_, hM⟩
    show _ = s + (sSum W F k j - sSum W F k j)
    omega
  | succ m ih =>
    intro n M j i s hM h0 hc hl hn hj
    have gl := g.2 j (by omega) (by omega)
    have e1 : sSum W F k (j + 1) = sSum W F k j + sLine W F k j := rfl
    have e2 : j + 1 + m = j + (m + 1) := by omega
    have ec : cRest W k j (m + 1) = (trL (sVa W k j) ++ (trL (sCo W k j) ++ [if sTo W k j = sMi W k j then -14 else -9])) ++ cRest W k (j + 1) m := rfl
    rw [ec] at hc hl
    obtain ⟨c1, c2⟩ := cAt_app _ _ _ hc
    obtain ⟨c3, c4⟩ := cAt_app _ _ _ c1
    obtain ⟨c5, c6⟩ := cAt_app _ _ _ c4
    simp only [List.length_append, List.length_cons, List.length_nil] at hl c2
    have next : ∀ (n2 : Nat) (M2 : xM) (t2 i2 s2 : Int), (∀ o, o ≠ 49 → M2 o = M0 o) → t2 = 0 → i2 = i + (((trL (sVa W k j)).length + ((trL (sCo W k j)).length + (0 + 1)) : Nat) : Int) → L - i2 < n2 → s2 = s + sLine W F k j → yk (fX9_valueOf_L8 n2 M2 o0 s2 t2 i2) fun q => q.1 = s + (sSum W F k (j + (m + 1)) - sSum W F k j) ∧ ∀ o, o ≠ 49 → q.2 o = M0 o := by
      intro n2 M2 t2 i2 s2 f1 f2 f3 f4 f5
      subst f2
      subst f3
      refine yk.mono (ih n2 M2 (j + 1) _ s2 f1 (by omega) c2 (by omega) f4 (by omega)) ?_
      intro q hq
      refine ⟨?_, hq.2⟩
      rw [hq.1, e2, e1, f5]
      omega
    obtain ⟨x, ex, _⟩ := vTy_1 (sRun_ty (F := F) (sVa W k j) (st := []) gl.2.1 trivial)
    refine crun ho hL hL2 hF (base := []) (by decide) (sVa W k j) n M i 0 [] [] [false] hM h0 c3 (by omega) hn trivial (by decide) gl.2.1 rfl trivial ?_
    intro n1 M1 t1 f1 f2 f3 f4
    rw [ex] at f3 f4
    have t1e : t1 = 1 := f3
    subst t1e
    have x0 : M1 49 (1 - 1) = x := f4.1
    have w := f1 o0 (by omega)
    have w1 := f1 (o0 + 1) (by omega)
    by_cases hT : sTo W k j = sMi W k j
    · have ez : sCo W k j = [] := by
        unfold sCo
        rw [hT, Int.sub_self]
        rfl
      rw [ez, if_pos hT] at c6
      rw [ez] at hl
      have c7 := c6.1
      have e0 : i + ((trL (sVa W k j)).length : Int) + ((trL []).length : Int) = i + (trL (sVa W k j)).length := by simp [trL]
      rw [e0] at c7
      have e00 : (trL []).length = 0 := rfl
      rw [e00] at hl
      obtain ⟨n2, rfl⟩ : ∃ n2, n1 = n2 + 1 := ⟨n1 - 1, by omega⟩
      refine cs_semi (a := x) (by omega) (by rw [w, hL]; omega) (by rw [w, hL]; omega) (by rw [w1]; exact c7) (by omega) x0 ?_
      refine next _ _ _ _ _ f1 (by omega) (by rw [ez, e00]; omega) (by omega) ?_
      unfold sLine
      rw [if_pos (Or.inl hT), ex]
      rfl
    · have gc := gl.2.2.resolve_left hT
      obtain ⟨y, ey, hy⟩ := vTy_1 (sRun_ty (F := F) (sCo W k j) (st := []) gc trivial)
      refine crun ho hL hL2 hF (base := [x]) (Nat.le_refl 1) (sCo W k j) n1 M1 _ 1 [] [] [true] f1 (by omega) c5 (by omega) f2 trivial (by decide) gc rfl f4 ?_
      intro n3 M3 t3 f5 f6 f7 f8
      rw [ey] at f7 f8
      have t3e : t3 = 2 := f7
      subst t3e
      have x2 : M3 49 (2 - 2) = x := f8.2.1
      have y2 : M3 49 (2 - 1) = y := f8.1
      have w3 := f5 o0 (by omega)
      have w4 := f5 (o0 + 1) (by omega)
      rw [if_neg hT] at c6
      have c7 := c6.1
      obtain ⟨n4, rfl⟩ : ∃ n4, n3 = n4 + 1 := ⟨n3 - 1, by omega⟩
      refine cs_when (a := x) (b := y) (by omega) (by rw [w3, hL]; omega) (by rw [w3, hL]; omega) (by rw [w4]; exact c7) (by omega) x2 y2 (hy rfl) ?_
      refine next _ _ _ _ _ f5 (by omega) (by omega) (by omega) ?_
      have hx' : (sRun F (sVa W k j) []).headD 0 = x := by rw [ex]; rfl
      have hy' : (sRun F (sCo W k j) []).headD 0 = y := by rw [ey]; rfl
      have ew : wr y = y := wr_id (by rcases hy rfl with h | h <;> omega) (by rcases hy rfl with h | h <;> omega)
      unfold sLine
      by_cases h1 : y = 1
      · rw [if_pos h1, if_pos (Or.inr (by rw [hy', ew]; exact h1)), hx']
      · rw [if_neg h1, if_neg]
        rintro (h | h)
        · exact hT h
        · rw [hy', ew] at h
          exact h1 h
end CV
theorem clampL_e {X : Int} (h1 : -9223372036854775808 ≤ X) (h2 : X < 9223372036854775808) : xmaxL (-9999) (xminL 9999 X) = sClamp X := by
  unfold xmaxL xminL sClamp
  rw [wl_i h1 h2, wl_i (x := 9999) (by omega) (by omega), wl_i (x := -9999) (by omega) (by omega)]
  by_cases c1 : X < 9999
  · rw [if_pos c1, wl_i h1 h2]
    by_cases c2 : X < -9999
    · rw [if_pos c2, if_pos c2]
    · rw [if_neg c2, if_neg c2, if_neg (by omega)]
  · rw [if_neg c1, wl_i (x := 9999) (by omega) (by omega), if_neg (by omega), if_neg (by omega)]
    by_cases c3 : 9999 < X
    · rw [if_pos c3]
    · rw [if_neg c3]; omega
theorem valueOf_e {M : xM} {k : Nat} {W F : Int → Int} (hk : k < 4) (r : rWant M W k) (g : gWant W k) (hF : ∀ s, 1 ≤ s → s ≤ 7 → M 48 (s - 1) = F s) : yk (fX9_valueOf M (28 + 2 * k)) fun q => q.1 = sClamp (sSum W F k (W (2320 + (k : Int))).toNat) ∧ ∀ o, o ≠ 49 → q.2 o = M o := by
  obtain ⟨r1, r2, r3, r4, r5, r6⟩ := r
  have gr := g.1
  have er : cOf W k = cRest W k 0 (W (2320 + (k : Int))).toNat := by
    have := cAll_rest W k (W (2320 + (k : Int))).toNat 0
    rw [Nat.zero_add] at this
    exact this
  have hc : cAt (M (28 + 2 * k + 1)) 0 (cOf W k) := by
    refine cAt_of _ _ ?_
    intro j hj
    have e : 28 + 2 * k + 1 = 29 + 2 * k := by omega
    rw [e, Int.zero_add]
    exact r4 j hj
  unfold fX9_valueOf
  rw [yk_xb2]
  rw [er] at hc r2 r3
  refine yk.mono (vlines_q (M0 := M) (F := F) (L := ((cRest W k 0 (W (2320 + (k : Int))).toNat).length : Int)) (by omega) r2 (by omega) hF g (W (2320 + (k : Int))).toNat xfuel M 0 0 0 (fun _ _ => rfl) (by omega) hc (by omega) (by unfold xfuel; omega) (by omega)) ?_
  intro q hq
  rw [yk_some]
  refine ⟨?_, hq.2⟩
  have e0 : sSum W F k 0 = 0 := rfl
  have e1 := hq.1
  rw [Nat.zero_add, e0] at e1
  have sr := sSum_rng W F k (W (2320 + (k : Int))).toNat
  have e2 : q.1 = sSum W F k (W (2320 + (k : Int))).toNat := by omega
  show xmaxL (-9999) (xminL 9999 q.1) = _
  rw [e2]
  exact clampL_e (by omega) (by omega)
theorem factsc_q {v3 v4 mo th : Int} (hmo : 0 ≤ mo ∧ mo < 12) (hth : 0 ≤ th ∧ th < 24) (n : Nat) : ∀ (M : xM) (i : Int), 0 ≤ i → i ≤ 3 → 3 - i < n → yk (fX10_gatherFacts_L19 n M th v3 v4 mo i) fun M' => (∀ o, o ≠ 48 → M' o = M o) ∧ ∀ s, M' 48 s = if 1 + i ≤ s ∧ s < 4 then M 2 (((s - 1) * 12 + mo) * 24 + th) else M 48 s := by
  induction n with
  | zero => intro M i h0 h1 h2; omega
  | succ n ih =>
    intro M i h0 h1 h2
    unfold fX10_gatherFacts_L19 fX1_skyCell
    by_cases h : i < 3
    · simp (disch := omega) only [wr_id, if_pos, xrd_at, xwt_at]
      refine yk.mono (ih _ (i + 1) (by omega) (by omega) (by omega)) ?_
      intro M' hM
      refine ⟨fun o ho => by rw [hM.1 o ho, xup_o ho], ?_⟩
      intro s
      rw [hM.2 s, xup_o (show 2 ≠ 48 by omega)]
      by_cases hs : s = 1 + i
      · subst hs
        rw [if_neg (by omega), if_pos (by omega), xup_e rfl]
        have e : 1 + i - 1 = i := by omega
        rw [e]
      · rw [xup_n hs]
        by_cases h5 : 1 + i ≤ s ∧ s < 4
        · rw [if_pos (by omega), if_pos h5]
        · rw [if_neg (by omega), if_neg h5]
    · rw [if_neg (by rw [wr_id (by omega) (by omega), wr_id (by omega) (by omega)]; exact h)]
      exact ⟨_, rfl, fun o ho => rfl, fun s => by rw [if_neg (by omega)]⟩
theorem gather_e {M : xM} {W : Int → Int} {th d made : Int} (iS : rSky M W) (hth : 0 ≤ th ∧ th < 24) (hd : 0 ≤ d ∧ d ≤ 20000) : yk (fX10_gatherFacts M th d made) fun M' => (∀ o, o ≠ 48 → M' o = M o) ∧ ∀ s, 1 ≤ s → s ≤ 7 → M' 48 (s - 1) = sF W th d made s := by
  have mo : 0 ≤ d / 30 % 12 ∧ d / 30 % 12 < 12 := by omega
  unfold fX10_gatherFacts
  simp (disch := omega) only [yk_xb, yk_xlet, month_e]
  refine yk.mono (factsc_q mo hth xfuel _ 0 (by omega) (by omega) (by unfold xfuel; omega)) ?_
  intro M1 h1
  rw [yk_some]
  refine ⟨fun o ho => by rw [xup_o ho, xup_o ho, xup_o ho, h1.1 o ho, xup_o ho], ?_⟩
  intro s s0 s1
  have hs : s = 1 ∨ s = 2 ∨ s = 3 ∨ s = 4 ∨ s = 5 ∨ s = 6 ∨ s = 7 := by omega
  have h12 := h1.2 (s - 1)
  have sk : ∀ j, 0 ≤ j → j < 3 → M 2 ((j * 12 + d / 30 % 12) * 24 + th) = W (620 + 24 * (12 * j + d / 30 % 12) + th) := by
    intro j j0 j1
    rw [iS _ (by omega) (by omega)]
    congr 1
    omega
  unfold sF
  rcases hs with rfl | rfl | rfl | rfl | rfl | rfl | rfl
  · simp (disch := omega) only [xup_o, xup_n, xup_e, if_pos, if_neg, ↓reduceIte] at h12 ⊢
    exact h12
  · have := sk 0 (by omega) (by omega)
    simp (disch := omega) only [xup_o, xup_n, xup_e, if_pos, if_neg, ↓reduceIte, true_or, or_true] at h12 ⊢
    rw [h12]
    exact this
  · have := sk 1 (by omega) (by omega)
    simp (disch := omega) only [xup_o, xup_n, xup_e, if_pos, if_neg, ↓reduceIte, true_or, or_true] at h12 ⊢
    rw [h12]
    exact this
  · have := sk 2 (by omega) (by omega)
    simp (disch := omega) only [xup_o, xup_n, xup_e, if_pos, if_neg, ↓reduceIte, true_or, or_true] at h12 ⊢
    rw [h12]
    exact this
  all_goals
    simp (disch := omega) only [xup_o, xup_n, xup_e, if_pos, if_neg, ↓reduceIte]
