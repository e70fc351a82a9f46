/-! a noon: the class -/
theorem noon_memo {W : Int → Int} {M : xM} {c : Int} (g : gW W) (me : rMemo c M W) : rMemo c M (sNoon W) := rMemo_fr me g.2.2.2.2.2.2.2.2.2 ⟨rfl, rfl, rfl, rfl, rfl⟩ (fun _ _ => rfl) (fun j j0 => by rw [sNoon_o (by omega) (by omega) (by omega), sV_o (by omega) (by omega) (by omega)]) (fun j j0 j1 => by rw [sNoon_o (by omega) (by omega) (by omega), sV_o (by omega) (by omega) (by omega)])
theorem passNoon_e {W : Int → Int} {K : xM} {c : Int} (i : rI K W) (g : gW W) (me : rMemo c K W) (hc : c < 1800000000) (hd : W 2 < 9999) : yk (fX11_passNoon K) fun q => q.1 = sTurn W ∧ rI q.2 (sNoon W) ∧ rMemo (c + 50) q.2 (sNoon W) ∧ ∀ o, (o < 43 ∨ 49 < o) → o ≠ 1 → o ≠ 3 → o ≠ 9 → o ≠ 11 → q.2 o = K o := by
  have gb := g.1
  unfold gB at gb
  have tr := sTurn_rng W
  unfold fX11_passNoon
  rw [yk_xb]
  refine yk.mono (voteK_q i g xfuel K 0 c (fun _ _ _ _ _ => rfl) me (by omega) (by omega) (by unfold xfuel; omega) (by omega) (fun p p0 p1 => by omega)) ?_
  intro M7 q7
  have i7 : rI M7 W := rI_fr2 i g (fun o h1 h2 h3 h4 => q7.1 o (by omega) h3)
  have iB := i7.1
  unfold rB at iB
  rw [yk_xj, iB.1.2.2.2.1]
  -- behind the turn, made or not
  have tail : ∀ M11 : xM, (∀ o, o ≠ 1 → o ≠ 9 → M11 o = M7 o) → (∀ j, M11 1 j = if j = 1 then sNa W else if j = 3 then sGr W else M7 1 j) → (∀ p, 0 ≤ p → p < W 5 → M11 9 p = W (23 + 4 * p) - sPull W p) → yk (xb (fX11_passNoon_L94 xfuel M11 (sTurn W) 0) fun M18 => xb (fX1_endDay M18 (sTurn W)) fun M21 => some (sTurn W, M21)) fun q => q.1 = sTurn W ∧ rI q.2 (sNoon W) ∧ rMemo (c + 50) q.2 (sNoon W) ∧ ∀ o, (o < 43 ∨ 49 < o) → o ≠ 1 → o ≠ 3 → o ≠ 9 → o ≠ 11 → q.2 o = K o := by
    intro M11 f f1 f9
    rw [yk_xb]
    have me11 : rMemo (c + 3 * (W 5 - 0)) M11 W := rMemo_fr q7.2.2 g.2.2.2.2.2.2.2.2.2 ⟨f _ (by omega) (by omega), f _ (by omega) (by omega), f _ (by omega) (by omega), f _ (by omega) (by omega), f _ (by omega) (by omega)⟩ (fun k hk => f _ (by omega) (by omega)) (fun _ _ => rfl) (fun _ _ _ => rfl)
    refine yk.mono (coin_q (G := sGr W) i7 g (sGr_rng g.1) xfuel M11 0 _ (fun o o1 o2 o3 o4 _ _ => f o o3 o4) f1 (fun p p0 p1 => by rw [if_neg (by omega)]; exact f9 p p0 p1) me11 (by omega) (by omega) (by unfold xfuel; omega) (by omega)) ?_
    intro M18 q18
    have iV : rI M18 (sV W (sGr W) (sCoin W)) := rI_V i7 g (fun o o1 o2 o3 o4 _ _ => by rw [q18.1 o (by omega) o4, f o o3 o4]) (fun j => by rw [q18.1 1 (by omega) (by omega)]; exact f1 j) q18.2.1
    rw [yk_xb]
    refine yk.mono (endDay_e i7 g hd iV (by rw [q18.1 3 (by omega) (by omega), f 3 (by omega) (by omega)])) ?_
    intro M21 q21
    rw [yk_some]
    refine ⟨rfl, q21.2, ?_, ?_⟩
    · refine rMemo_le (noon_memo g (rMemo_fr q18.2.2 g.2.2.2.2.2.2.2.2.2 ⟨q21.1 _ (by omega) (by omega), q21.1 _ (by omega) (by omega), q21.1 _ (by omega) (by omega), q21.1 _ (by omega) (by omega), q21.1 _ (by omega) (by omega)⟩ (fun k hk => q21.1 _ (by omega) (by omega)) (fun _ _ => rfl) (fun _ _ _ => rfl))) (by omega)
    · intro o o1 o2 o3 o4 o5
      show M21 o = K o
      rw [q21.1 o o2 o3, q18.1 o o1 o4, f o o2 o4, q7.1 o o1 o5]
  have made : yk ((fun (s9 : Int) => xj (fun (M11 : xM) => xb (fX11_passNoon_L94 xfuel M11 s9 0) fun M18 => xb (fX1_endDay M18 s9) fun M21 => some (s9, M21)) fun j12 => (if wr s9 = 0 then j12 M7 else (xb (fX1_makeTurn M7 s9) fun M23 => j12 M23))) (sTurn W)) fun q => q.1 = sTurn W ∧ rI q.2 (sNoon W) ∧ rMemo (c + 50) q.2 (sNoon W) ∧ ∀ o, (o < 43 ∨ 49 < o) → o ≠ 1 → o ≠ 3 → o ≠ 9 → o ≠ 11 → q.2 o = K o := by
    dsimp only
    rw [yk_xj, wr_id (x := sTurn W) (by omega) (by omega)]
    by_cases h0 : sTurn W = 0
    · rw [if_pos h0]
      refine tail M7 (fun _ _ _ => rfl) ?_ ?_
      · intro j
        by_cases j1 : j = 1
        · subst j1
          rw [if_pos rfl, iB.1.2.1]
          unfold sNa
          rw [h0, Int.add_zero, Int.emod_eq_of_lt (by omega) (by omega)]
        · rw [if_neg j1]
          by_cases j3 : j = 3
          · subst j3
            rw [if_pos rfl, iB.1.2.2.2.1]
            unfold sGr
            rw [if_pos h0]
            omega
          · rw [if_neg j3]
      · intro p p0 p1
        have := (i7.2.2.2.2.1 p p0 p1).2.2.2.1
        unfold sPull
        rw [if_neg (fun w => w.1 h0), this]
        omega
    · rw [if_neg h0, yk_xb]
      refine yk.mono (makeTurn_e i7 g q7.2.1 h0) ?_
      intro M23 q23
      refine tail M23 q23.1 ?_ ?_
      · intro j
        rw [q23.2.1 j]
        have e : sGr W = W 3 - 1 := by unfold sGr; rw [if_neg h0]
        rw [e]
      · intro p p0 p1
        rw [q23.2.2 p p0 p1, (i7.2.2.2.2.1 p p0 p1).2.2.2.1]
  by_cases h3 : W 3 = 0
  · have e : sTurn W = 0 := by unfold sTurn; rw [if_pos h3]
    rw [if_neg (by rw [wr_id (by omega) (by omega)]; omega)]
    rw [e] at made
    rw [e]
    exact made
  · rw [if_pos (by rw [wr_id (by omega) (by omega)]; omega), yk_xb, carried_e i7 g q7.2.1 h3, yk_some]
    exact made
