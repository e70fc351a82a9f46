/-! undo -/
theorem undoM_q {v : Int} (hv : 0 ≤ v ∧ v + 14 ≤ 140) (n : Nat) : ∀ (M : xM) (i : Int), 0 ≤ i → i ≤ 10 → 10 - i < n → yk (fX12_undo_L69 n M v i) fun M' => (∀ o, o ≠ 95 → M' o = M o) ∧ ∀ j, M' 95 j = if 23 + 4 * i ≤ j ∧ j < 63 ∧ (j - 23) % 4 = 0 then M 97 (v + 3 + (j - 23) / 4) else M 95 j := by
  induction n with
  | zero => intro M i h0 h1 h2; omega
  | succ n ih =>
    intro M i h0 h1 h2
    unfold fX12_undo_L69
    by_cases h : i < 10
    · simp (disch := omega) only [wr_id, if_pos, xrd_at, xwt_at]
      refine yk.mono (ih _ (i + 1) (by omega) (by omega) (by omega)) ?_
      intro M' q
      refine ⟨fun o o1 => by rw [q.1 o o1, xup_o o1], ?_⟩
      intro j
      rw [q.2 j, xup_o (show 97 ≠ 95 by omega)]
      by_cases hj : j = 20 + 4 * i + 3
      · subst hj
        have e4 : (20 + 4 * i + 3 - 23) / 4 = i := by omega
        rw [if_neg (by omega), xup_e rfl, if_pos (by omega), e4]
      · rw [xup_n hj]
        by_cases h5 : 23 + 4 * i ≤ j ∧ j < 63 ∧ (j - 23) % 4 = 0
        · rw [if_pos (by omega), if_pos h5]
        · rw [if_neg (by omega), if_neg h5]
    · rw [if_neg (by rw [wr_id (by omega) (by omega), wr_id (by omega) (by omega)]; exact h)]
      exact ⟨_, rfl, fun o _ => rfl, fun j => by rw [if_neg (by omega)]⟩
theorem giveBack_e {M : xM} {q : Nat} (hq : (q : Int) = (M 79 1 + 9) % 10) (hq2 : q < 10) (h0 : 0 ≤ M 79 1 ∧ M 79 1 < 10) : fX0_giveBack M = some (xcq (xup (xup (xup (xup (xup (xup M 79 1 q) 79 0 (M 79 0 - 1)) 1 2 (M 1 2 - 1)) 1 1 (M 80 q)) 1 3 (M 81 q)) 1 5 (M 82 q)) (84 + q) 9 10) := by
  have er : xrem (M 79 1 + 10 - 1) 10 = (q : Int) := by
    unfold xrem
    rw [wr_id (by omega) (by omega), wr_id (by omega) (by omega), Int.tmod_eq_emod_of_nonneg (by omega), hq]
    congr 1
    omega
  clear hq
  have e0 : wr (q : Int) = q := wr_id (by omega) (by omega)
  unfold fX0_giveBack
  simp (disch := omega) only [er, xlet, xup_o, xup_n, xup_e, xrd_at, xix_at, e0, Int.toNat_natCast, xcp_0]
theorem undoM_e {M : xM} (h : 0 < M 94 3 ∧ M 94 3 ≤ 10) : yk (fX12_undo M) fun z => z.1 = true ∧ (∀ o, o ≠ 94 → o ≠ 95 → z.2 o = M o) ∧ (∀ j, z.2 94 j = if j = 3 then M 94 3 - 1 else M 94 j) ∧ ∀ j, z.2 95 j = if j = 9 then M 95 9 - 1 else if 23 ≤ j ∧ j < 63 ∧ (j - 23) % 4 = 0 then M 97 (14 * (M 94 3 - 1) + 3 + (j - 23) / 4) else if j = 1 then M 97 (14 * (M 94 3 - 1)) else if j = 2 then M 97 (14 * (M 94 3 - 1) + 1) else if j = 3 then M 97 (14 * (M 94 3 - 1) + 2) else M 95 j := by
  unfold fX12_undo
  simp (disch := omega) only [wr_id (x := M 94 3), if_neg, yk_xb, yk_xlet, xup_o, xup_n, xup_e, xrd_at]
  refine yk.mono (undoM_q (by omega) xfuel _ 0 (by omega) (by omega) (by unfold xfuel; omega)) ?_
  intro M2 q2
  rw [yk_some]
  have W1 := q2.2
  simp (disch := omega) only [xup_o] at W1
  refine ⟨rfl, ?_, ?_, ?_⟩
  · intro o o4 o5
    show xup M2 95 9 (M2 95 9 - 1) o = M o
    rw [xup_o o5, q2.1 o o5]
    simp (disch := omega) only [xup_o]
  · intro j
    show xup M2 95 9 (M2 95 9 - 1) 94 j = _
    rw [xup_o (by omega), q2.1 94 (by omega)]
    simp (disch := omega) only [xup_o, xup_s]
  · intro j
    show xup M2 95 9 (M2 95 9 - 1) 95 j = _
    have w9 := W1 9
    have wj := W1 j
    rw [if_neg (by omega)] at w9
    rw [xup_s, w9, wj]
    simp (disch := omega) only [xup_o, xup_s, xup_n]
    repeat' split
    all_goals first | (exfalso; omega; done) | rfl | (subst_vars; rfl)
theorem tc_undo {ph : Bool} {c : Int} {M : xM} (I : Inv ph c M) : yk (fX11_undo M) fun q => yk (fX12_undo q.2) fun z => q.1 = z.1 ∧ Inv ph c z.2 := by
  have iB := I.1.1
  have gb := I.2.1.1
  unfold rB at iB
  unfold gB at gb
  have h := I.2.2.2.1
  obtain ⟨h1, h2, h3, h4⟩ := h
  by_cases g : M 94 3 = 0
  · have e1 : fX11_undo M = some (false, M) := by
      unfold fX11_undo
      simp (disch := omega) only [wr_id, if_pos]
    have e2 : fX12_undo M = some (false, M) := by
      unfold fX12_undo
      simp (disch := omega) only [wr_id, if_pos]
    exact ⟨_, e1, _, e2, rfl, I⟩
  · obtain ⟨q, hq⟩ : ∃ q : Nat, (q : Int) = (M 79 1 + 9) % 10 := ⟨((M 79 1 + 9) % 10).toNat, by omega⟩
    have hq2 : q < 10 := by omega
    have hh := h4 (M 94 3 - 1) (by omega) (by omega) q (by omega)
    have gbk := giveBack_e hq hq2 h3
    unfold fX11_undo
    rw [gbk, if_neg (by rw [wr_id (by omega) (by omega)]; omega), yk_xb, yk_some, yk_some]
    dsimp only
    have K94 : xcq (xup (xup (xup (xup (xup (xup M 79 1 q) 79 0 (M 79 0 - 1)) 1 2 (M 1 2 - 1)) 1 1 (M 80 q)) 1 3 (M 81 q)) 1 5 (M 82 q)) (84 + q) 9 10 94 = M 94 := by
      clear hh h4 gbk gb iB hq
      simp (disch := omega) only [xup_o, xcq_o]
    have K95 : xcq (xup (xup (xup (xup (xup (xup M 79 1 q) 79 0 (M 79 0 - 1)) 1 2 (M 1 2 - 1)) 1 1 (M 80 q)) 1 3 (M 81 q)) 1 5 (M 82 q)) (84 + q) 9 10 95 = M 95 := by
      clear hh h4 gbk gb iB hq
      simp (disch := omega) only [xup_o, xcq_o]
    have K97 : xcq (xup (xup (xup (xup (xup (xup M 79 1 q) 79 0 (M 79 0 - 1)) 1 2 (M 1 2 - 1)) 1 1 (M 80 q)) 1 3 (M 81 q)) 1 5 (M 82 q)) (84 + q) 9 10 97 = M 97 := by
      clear hh h4 gbk gb iB hq
      simp (disch := omega) only [xup_o, xcq_o]
    have KO : ∀ o, o ≠ 1 → o ≠ 9 → o ≠ 79 → xcq (xup (xup (xup (xup (xup (xup M 79 1 q) 79 0 (M 79 0 - 1)) 1 2 (M 1 2 - 1)) 1 1 (M 80 q)) 1 3 (M 81 q)) 1 5 (M 82 q)) (84 + q) 9 10 o = M o := by
      clear hh h4 gbk gb iB hq
      intro o o1 o2 o3
      simp (disch := omega) only [xup_o, xcq_o]
    have K1 : ∀ j, xcq (xup (xup (xup (xup (xup (xup M 79 1 q) 79 0 (M 79 0 - 1)) 1 2 (M 1 2 - 1)) 1 1 (M 80 q)) 1 3 (M 81 q)) 1 5 (M 82 q)) (84 + q) 9 10 1 j = if j = 1 then M 80 q else if j = 2 then M 1 2 - 1 else if j = 3 then M 81 q else if j = 5 then M 82 q else M 1 j := by
      clear hh h4 gbk gb iB hq
      intro j
      rw [xcq_o (by omega), xup_s, xup_s, xup_s, xup_s, xup_o (by omega), xup_o (by omega)]
      repeat' split
      all_goals first | rfl | (exfalso; omega)
    have K9 : ∀ j, 0 ≤ j → j < 10 → xcq (xup (xup (xup (xup (xup (xup M 79 1 q) 79 0 (M 79 0 - 1)) 1 2 (M 1 2 - 1)) 1 1 (M 80 q)) 1 3 (M 81 q)) 1 5 (M 82 q)) (84 + q) 9 10 9 j = M (84 + q) j := by
      clear hh h4 gbk gb iB hq
      intro j j0 j1
      rw [xcq_e j0 j1]
      simp (disch := omega) only [xup_o]
    have K79 : xcq (xup (xup (xup (xup (xup (xup M 79 1 q) 79 0 (M 79 0 - 1)) 1 2 (M 1 2 - 1)) 1 1 (M 80 q)) 1 3 (M 81 q)) 1 5 (M 82 q)) (84 + q) 9 10 79 0 = M 79 0 - 1 ∧ xcq (xup (xup (xup (xup (xup (xup M 79 1 q) 79 0 (M 79 0 - 1)) 1 2 (M 1 2 - 1)) 1 1 (M 80 q)) 1 3 (M 81 q)) 1 5 (M 82 q)) (84 + q) 9 10 79 1 = q := by
      clear hh h4 gbk gb iB hq
      simp (disch := omega) only [xup_o, xcq_o, xup_n, xup_e, and_self]
    generalize xcq (xup (xup (xup (xup (xup (xup M 79 1 q) 79 0 (M 79 0 - 1)) 1 2 (M 1 2 - 1)) 1 1 (M 80 q)) 1 3 (M 81 q)) 1 5 (M 82 q)) (84 + q) 9 10 = M1 at *
    refine yk.mono (undoM_e (M := M1) (by rw [K94]; omega)) ?_
    intro z hz
    obtain ⟨hz1, hz2, F94, F95⟩ := hz
    rw [K94] at F94 F95
    rw [K95, K97] at F95
    refine ⟨hz1.symm, ?_⟩
    generalize z.2 = M3 at *
    have F1 : ∀ o, o ≠ 1 → o ≠ 9 → o ≠ 79 → o ≠ 94 → o ≠ 95 → M3 o = M o := fun o o1 o2 o3 o4 o5 => by rw [hz2 o o4 o5, KO o o1 o2 o3]
    have F1a : ∀ j, M3 1 j = if j = 1 then M 80 q else if j = 2 then M 1 2 - 1 else if j = 3 then M 81 q else if j = 5 then M 82 q else M 1 j := fun j => by rw [hz2 1 (by omega) (by omega), K1 j]
    have F9 : ∀ j, 0 ≤ j → j < 10 → M3 9 j = M (84 + q) j := fun j j0 j1 => by rw [hz2 9 (by omega) (by omega), K9 j j0 j1]
    have F79 : M3 79 0 = M 79 0 - 1 ∧ M3 79 1 = q := by rw [hz2 79 (by omega) (by omega)]; exact K79
    clear K94 K95 K97 KO K1 K9 K79 hz2
    have F95' : ∀ j, j ≠ 1 → j ≠ 2 → j ≠ 3 → j ≠ 9 → ¬ (23 ≤ j ∧ j < 63 ∧ (j - 23) % 4 = 0) → M3 95 j = M 95 j := by
      intro j j1 j2 j3 j4 j5
      rw [F95 j, if_neg j4, if_neg j5, if_neg j1, if_neg j2, if_neg j3]
    have c1 : M3 95 1 = M 97 (14 * (M 94 3 - 1)) := by rw [F95]; simp (disch := omega) only [if_pos, if_neg, ↓reduceIte]
    have c2 : M3 95 2 = M 97 (14 * (M 94 3 - 1) + 1) := by rw [F95]; simp (disch := omega) only [if_pos, if_neg, ↓reduceIte]
    have c3 : M3 95 3 = M 97 (14 * (M 94 3 - 1) + 2) := by rw [F95]; simp (disch := omega) only [if_pos, if_neg, ↓reduceIte]
    have c9 : M3 95 9 = M 95 9 - 1 := by rw [F95]; simp (disch := omega) only [if_pos, ↓reduceIte]
    have c0 : M3 95 0 = M 95 0 := F95' 0 (by omega) (by omega) (by omega) (by omega) (by omega)
    have c4 : M3 95 4 = M 95 4 := F95' 4 (by omega) (by omega) (by omega) (by omega) (by omega)
    have c5 : M3 95 5 = M 95 5 := F95' 5 (by omega) (by omega) (by omega) (by omega) (by omega)
    have c6 : M3 95 6 = M 95 6 := F95' 6 (by omega) (by omega) (by omega) (by omega) (by omega)
    have c7 : M3 95 7 = M 95 7 := F95' 7 (by omega) (by omega) (by omega) (by omega) (by omega)
    have c8 : M3 95 8 = M 95 8 := F95' 8 (by omega) (by omega) (by omega) (by omega) (by omega)
    have d0 := F1a 0
    have d1 := F1a 1
    have d2 := F1a 2
    have d3 := F1a 3
    have d4 := F1a 4
    have d5 := F1a 5
    simp (disch := omega) only [if_pos, if_neg, ↓reduceIte] at d0 d1 d2 d3 d4 d5
    obtain ⟨⟨i1, i2, i3, i4, i5, i6, i7, i8, i9⟩, ⟨g1, g2, g3, g4, g5, g6, g7, g8, g9, g10⟩, T, H, Me, K⟩ := I
    refine ⟨⟨?z1, rSky_fr i2 (F1 _ ?_ ?_ ?_ ?_ ?_) (fun j j0 j1 => F95' j ?_ ?_ ?_ ?_ ?_), ?z3, rPlan_fr i4 (F1 _ ?_ ?_ ?_ ?_ ?_) (fun j j0 j1 => F95' j ?_ ?_ ?_ ?_ ?_), ?z5, rSale_fr i6 g1 ⟨F1 _ ?_ ?_ ?_ ?_ ?_, F1 _ ?_ ?_ ?_ ?_ ?_, F1 _ ?_ ?_ ?_ ?_ ?_, F1 _ ?_ ?_ ?_ ?_ ?_⟩ c6 (fun j j0 j1 => F95' j ?_ ?_ ?_ ?_ ?_), rProm_fr i7 g1 ⟨F1 _ ?_ ?_ ?_ ?_ ?_, F1 _ ?_ ?_ ?_ ?_ ?_, F1 _ ?_ ?_ ?_ ?_ ?_, F1 _ ?_ ?_ ?_ ?_ ?_, F1 _ ?_ ?_ ?_ ?_ ?_⟩ c7 (fun j j0 j1 => F95' j ?_ ?_ ?_ ?_ ?_), rLog_fr i8 g1 ⟨F1 _ ?_ ?_ ?_ ?_ ?_, F1 _ ?_ ?_ ?_ ?_ ?_, F1 _ ?_ ?_ ?_ ?_ ?_⟩ c8 (fun j j0 j1 => F95' j ?_ ?_ ?_ ?_ ?_), fun k hk => rWant_fr (fun j j0 => F95' j ?_ ?_ ?_ ?_ ?_) (F1 _ ?_ ?_ ?_ ?_ ?_) (F1 _ ?_ ?_ ?_ ?_ ?_) (g10 _ (by omega) (by omega)) (i9 k hk)⟩, ⟨?y1, gSky_fr g2 (fun j j0 j1 => F95' j ?_ ?_ ?_ ?_ ?_), ?y3, gPlan_fr g4 (fun j j0 j1 => F95' j ?_ ?_ ?_ ?_ ?_), gPlot_fr g5 g1 c0 c5 (fun j j0 j1 j2 => F95' j ?_ ?_ ?_ ?_ ?_), gPay_fr g6 c5 (fun j j0 j1 => F95' j ?_ ?_ ?_ ?_ ?_), gSale_fr g7 g1 (Int.le_of_eq c5.symm) c6 (fun j j0 j1 => F95' j ?_ ?_ ?_ ?_ ?_), gProm_fr g8 g1 (Int.le_of_eq c5.symm) c7 (fun j j0 j1 => F95' j ?_ ?_ ?_ ?_ ?_), gLog_fr g9 g1 c0 (Int.le_of_eq c5.symm) c8 (fun j j0 j1 => F95' j ?_ ?_ ?_ ?_ ?_), fun k h0 h1 => gWant_fr (fun j j0 => F95' j ?_ ?_ ?_ ?_ ?_) h0 (g10 k h0 h1)⟩, rTape_fr T ⟨F1 _ ?_ ?_ ?_ ?_ ?_, F1 _ ?_ ?_ ?_ ?_ ?_, F1 _ ?_ ?_ ?_ ?_ ?_⟩ ⟨by rw [F94, if_neg (by omega)], by rw [F94, if_neg (by omega)], by rw [F94, if_neg (by omega)]⟩, ?zH, rMemo_fr Me g10 ⟨F1 _ ?_ ?_ ?_ ?_ ?_, F1 _ ?_ ?_ ?_ ?_ ?_, F1 _ ?_ ?_ ?_ ?_ ?_, F1 _ ?_ ?_ ?_ ?_ ?_, F1 _ ?_ ?_ ?_ ?_ ?_⟩ (fun k hk => F1 _ ?_ ?_ ?_ ?_ ?_) (fun j j0 => F95' j ?_ ?_ ?_ ?_ ?_) (fun j j0 j1 => F95' j ?_ ?_ ?_ ?_ ?_), rKept_fr K (fun o ho => F1 _ ?_ ?_ ?_ ?_ ?_) (F1 _ ?_ ?_ ?_ ?_ ?_) (by rw [F94, if_neg (by omega)]) (F1 _ ?_ ?_ ?_ ?_ ?_)⟩
    case z1 =>
      unfold rB
      rw [F1 5 (by omega) (by omega) (by omega) (by omega) (by omega), F1 12 (by omega) (by omega) (by omega) (by omega) (by omega), F1 17 (by omega) (by omega) (by omega) (by omega) (by omega), F1 23 (by omega) (by omega) (by omega) (by omega) (by omega), d0, d1, d2, d3, d4, d5, c0, c1, c2, c3, c4, c5, c6, c7, c8, c9]
      omega
    case z3 =>
      intro j j0 j1
      rw [c9] at j1
      have := i3 j j0 (by omega)
      have e9 : M3 95 2 - M3 95 9 + j = M 95 2 - M 95 9 + j := by rw [c2, c9]; omega
      rw [e9, F1 3 (by omega) (by omega) (by omega) (by omega) (by omega), F95' (1491 + 2 * j) (by omega) (by omega) (by omega) (by omega) (by omega)]
      exact this
    case z5 =>
      intro j j0 j1
      rw [c5] at j1
      have p := i5 j j0 j1
      have hp := hh.2.2.2.2 j j0 j1
      have e9 := F95 (23 + 4 * j)
      have e8 : (23 + 4 * j - 23) / 4 = j := by omega
      rw [if_neg (by omega), if_pos (by omega), e8] at e9
      rw [F1 6 (by omega) (by omega) (by omega) (by omega) (by omega), F1 7 (by omega) (by omega) (by omega) (by omega) (by omega), F1 8 (by omega) (by omega) (by omega) (by omega) (by omega), F1 10 (by omega) (by omega) (by omega) (by omega) (by omega), F9 j j0 (by omega), e9, F95' (20 + 4 * j) (by omega) (by omega) (by omega) (by omega) (by omega), F95' (21 + 4 * j) (by omega) (by omega) (by omega) (by omega) (by omega), F95' (22 + 4 * j) (by omega) (by omega) (by omega) (by omega) (by omega), F95' (60 + j) (by omega) (by omega) (by omega) (by omega) (by omega)]
      exact ⟨p.1, p.2.1, p.2.2.1, hp, p.2.2.2.2⟩
    case y1 =>
      unfold gB
      rw [c0, c1, c2, c3, c4, c5, c6, c7, c8, c9]
      omega
    case y3 =>
      intro j j0 j1
      rw [c9] at j1
      have := g3 j j0 (by omega)
      rw [c2, c9, F95' (1491 + 2 * j) (by omega) (by omega) (by omega) (by omega) (by omega), F95' (1490 + 2 * j) (by omega) (by omega) (by omega) (by omega) (by omega)]
      omega
    case zH =>
      have f3 := F94 3
      rw [if_pos rfl] at f3
      unfold rHist
      rw [F79.1, F79.2, f3, c9, c0, c2, c5]
      refine ⟨by omega, by omega, by omega, ?_⟩
      intro j j0 j1 r hr
      have hj := h4 j j0 (by omega) r (by omega)
      rw [F1 80 (by omega) (by omega) (by omega) (by omega) (by omega), F1 81 (by omega) (by omega) (by omega) (by omega) (by omega), F1 82 (by omega) (by omega) (by omega) (by omega) (by omega), F1 97 (by omega) (by omega) (by omega) (by omega) (by omega), F1 (84 + r) (by omega) (by omega) (by omega) (by omega) (by omega)]
      refine ⟨hj.1, by omega, hj.2.2.1, by omega, hj.2.2.2.2⟩
    all_goals omega
