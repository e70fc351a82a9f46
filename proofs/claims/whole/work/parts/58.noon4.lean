/-! a noon: the class's island behind it -/
def sBo (W : Int → Int) (j : Int) : Int := if W 9 = 410 then (if j < 2308 then W (j + 2) else if j = 2308 then W 2 else sTurn W) else if j = 1490 + 2 * W 9 then W 2 else if j = 1491 + 2 * W 9 then sTurn W else W j
def sGr (W : Int → Int) : Int := W 3 - (if sTurn W = 0 then 0 else 1)
def sNoon (W : Int → Int) : Int → Int := fun j => if j = 2 then W 2 + 1 else if j = 9 then min (W 9 + 1) 410 else if 1490 ≤ j ∧ j < 2310 then sBo W j else sV W (sGr W) (sCoin W) j
section NO
variable {W : Int → Int}
theorem sNoon_o {j : Int} (h2 : j ≠ 2) (h9 : j ≠ 9) (hb : ¬ (1490 ≤ j ∧ j < 2310)) : sNoon W j = sV W (sGr W) (sCoin W) j := by
  unfold sNoon
  rw [if_neg h2, if_neg h9, if_neg hb]
theorem sNoon_2 : sNoon W 2 = W 2 + 1 := rfl
theorem sNoon_9 : sNoon W 9 = min (W 9 + 1) 410 := rfl
theorem sNoon_b {j : Int} (h : 1490 ≤ j ∧ j < 2310) : sNoon W j = sBo W j := by
  unfold sNoon
  rw [if_neg (by omega), if_neg (by omega), if_pos h]
theorem sGr_rng (g : gB W) : 0 ≤ sGr W ∧ sGr W ≤ 999 := by
  unfold gB at g
  unfold sGr
  by_cases h : sTurn W = 0
  · rw [if_pos h]; omega
  · rw [if_neg h]
    have : W 3 ≠ 0 := by
      intro e
      apply h
      unfold sTurn
      rw [if_pos e]
    omega
theorem gW_noon (g : gW W) (hd : W 2 < 9999) : gW (sNoon W) := by
  have gv := gW_V (X := sCoin W) g (sGr_rng g.1)
  have gb := g.1
  have gk := g.2.2.1
  unfold gB at gb
  obtain ⟨g1, g2, g3, g4, g5, g6, g7, g8, g9, g10⟩ := gv
  have gb2 := g1
  unfold gB at gb2
  have tr := sTurn_rng W
  have v2 : sV W (sGr W) (sCoin W) 2 = W 2 := sV_o (by omega) (by omega) (by omega)
  have v9 : sV W (sGr W) (sCoin W) 9 = W 9 := sV_o (by omega) (by omega) (by omega)
  have o : ∀ j, j ≠ 2 → j ≠ 9 → ¬ (1490 ≤ j ∧ j < 2310) → sNoon W j = sV W (sGr W) (sCoin W) j := fun j a b c => sNoon_o a b c
  refine ⟨?zb, gSky_fr g2 (fun j j0 j1 => o j ?_ ?_ ?_), ?zk, gPlan_fr g4 (fun j j0 j1 => o j ?_ ?_ ?_), gPlot_fr g5 g1 (o _ ?_ ?_ ?_) (o _ ?_ ?_ ?_) (fun j j0 j1 j2 => o j ?_ ?_ ?_), gPay_fr g6 (o _ ?_ ?_ ?_) (fun j j0 j1 => o j ?_ ?_ ?_), gSale_fr g7 g1 (Int.le_of_eq (o _ ?_ ?_ ?_).symm) (o _ ?_ ?_ ?_) (fun j j0 j1 => o j ?_ ?_ ?_), gProm_fr g8 g1 (Int.le_of_eq (o _ ?_ ?_ ?_).symm) (o _ ?_ ?_ ?_) (fun j j0 j1 => o j ?_ ?_ ?_), gLog_fr g9 g1 (o _ ?_ ?_ ?_) (Int.le_of_eq (o _ ?_ ?_ ?_).symm) (o _ ?_ ?_ ?_) (fun j j0 j1 => o j ?_ ?_ ?_), fun k h0 h1 => gWant_fr (fun j j0 => o j ?_ ?_ ?_) h0 (g10 k h0 h1)⟩
  case zb =>
    unfold gB
    rw [o 0 (by omega) (by omega) (by omega), o 1 (by omega) (by omega) (by omega), o 3 (by omega) (by omega) (by omega), o 4 (by omega) (by omega) (by omega), o 5 (by omega) (by omega) (by omega), o 6 (by omega) (by omega) (by omega), o 7 (by omega) (by omega) (by omega), o 8 (by omega) (by omega) (by omega), sNoon_2, sNoon_9]
    omega
  case zk =>
    intro i i0 i1
    rw [sNoon_9] at i1
    rw [sNoon_2, sNoon_9, sNoon_b (by omega), sNoon_b (by omega)]
    unfold sBo
    by_cases h : W 9 = 410
    · rw [if_pos h, if_pos h]
      by_cases h5 : i < 409
      · have k := gk (i + 1) (by omega) (by omega)
        have e1 : 1490 + 2 * i + 2 = 1490 + 2 * (i + 1) := by omega
        have e2 : 1491 + 2 * i + 2 = 1491 + 2 * (i + 1) := by omega
        rw [if_pos (by omega), if_pos (by omega), e1, e2]
        omega
      · rw [if_neg (by omega), if_pos (by omega), if_neg (by omega), if_neg (by omega)]
        omega
    · rw [if_neg h, if_neg h]
      by_cases h5 : i < W 9
      · have k := gk i i0 h5
        rw [if_neg (by omega), if_neg (by omega), if_neg (by omega), if_neg (by omega)]
        omega
      · rw [if_pos (by omega), if_neg (by omega), if_pos (by omega)]
        omega
  all_goals omega
theorem endDay_e {K M : xM} (i : rI K W) (g : gW W) (hd : W 2 < 9999) (iV : rI M (sV W (sGr W) (sCoin W))) (f3 : M 3 = K 3) : yk (fX1_endDay M (sTurn W)) fun M' => (∀ o, o ≠ 1 → o ≠ 3 → M' o = M o) ∧ rI M' (sNoon W) := by
  have gv := gW_V (X := sCoin W) g (sGr_rng g.1)
  have gb := g.1
  unfold gB at gb
  have ib := i.2.2.1
  obtain ⟨i1, i2, i3, i4, i5, i6, i7, i8, i9⟩ := iV
  obtain ⟨g1, g2, g3, g4, g5, g6, g7, g8, g9, g10⟩ := gv
  have v2 : sV W (sGr W) (sCoin W) 2 = W 2 := sV_o (by omega) (by omega) (by omega)
  have v9 : sV W (sGr W) (sCoin W) 9 = W 9 := sV_o (by omega) (by omega) (by omega)
  have o : ∀ j, j ≠ 2 → j ≠ 9 → ¬ (1490 ≤ j ∧ j < 2310) → sNoon W j = sV W (sGr W) (sCoin W) j := fun j a b c => sNoon_o a b c
  have iB := i1
  unfold rB at iB
  rw [v2, v9] at iB
  have md := md_rng (a := W 2) (n := 410) (by omega)
  have e5 : xmin (min (W 9) 400 + 1) 400 = min (min (W 9 + 1) 410) 400 := by
    unfold xmin
    rw [wr_id (by omega) (by omega), wr_id (by omega) (by omega)]
    split <;> omega
  unfold fX1_endDay fX1_bookCell
  rw [iB.1.2.2.1, floorMod_eq (by omega) (by omega) (by omega) (by omega), xb_some, xb_some, xwt_at (by omega) (by omega) (by omega), yk_xlet, yk_xlet, yk_some]
  have s15 : xup M 3 (W 2 % 410) (sTurn W) 1 5 = min (W 9) 400 := by rw [xup_o (by omega)]; exact iB.1.2.2.2.2.2
  rw [s15, e5]
  have s12 : xup (xup M 3 (W 2 % 410) (sTurn W)) 1 5 (min (min (W 9 + 1) 410) 400) 1 2 = W 2 := by rw [xup_n (by omega), xup_o (by omega)]; exact iB.1.2.2.1
  rw [s12]
  have f : ∀ o, o ≠ 1 → o ≠ 3 → xup (xup (xup M 3 (W 2 % 410) (sTurn W)) 1 5 (min (min (W 9 + 1) 410) 400)) 1 2 (W 2 + 1) o = M o := fun o o1 o3 => by rw [xup_o o1, xup_o o1, xup_o o3]
  have fb : ∀ j, xup (xup (xup M 3 (W 2 % 410) (sTurn W)) 1 5 (min (min (W 9 + 1) 410) 400)) 1 2 (W 2 + 1) 3 j = if j = W 2 % 410 then sTurn W else K 3 j := fun j => by rw [xup_o (by omega), xup_o (by omega), xup_s, f3]
  have fi : ∀ j, xup (xup (xup M 3 (W 2 % 410) (sTurn W)) 1 5 (min (min (W 9 + 1) 410) 400)) 1 2 (W 2 + 1) 1 j = if j = 2 then W 2 + 1 else if j = 5 then min (min (W 9 + 1) 410) 400 else M 1 j := fun j => by rw [xup_s, xup_s, xup_o (by omega)]
  generalize xup (xup (xup M 3 (W 2 % 410) (sTurn W)) 1 5 (min (min (W 9 + 1) 410) 400)) 1 2 (W 2 + 1) = Z at *
  have d0 := fi 0
  have d1 := fi 1
  have d2 := fi 2
  have d3 := fi 3
  have d4 := fi 4
  have d5 := fi 5
  simp (disch := omega) only [if_pos, if_neg, ↓reduceIte] at d0 d1 d2 d3 d4 d5
  refine ⟨f, ?zb, rSky_fr i2 (f _ ?_ ?_) (fun j j0 j1 => o j ?_ ?_ ?_), ?zk, rPlan_fr i4 (f _ ?_ ?_) (fun j j0 j1 => o j ?_ ?_ ?_), rPlot_fr i5 g1 ⟨f _ ?_ ?_, f _ ?_ ?_, f _ ?_ ?_, f _ ?_ ?_, f _ ?_ ?_⟩ (o _ ?_ ?_ ?_) (fun j j0 j1 => o j ?_ ?_ ?_), rSale_fr i6 g1 ⟨f _ ?_ ?_, f _ ?_ ?_, f _ ?_ ?_, f _ ?_ ?_⟩ (o _ ?_ ?_ ?_) (fun j j0 j1 => o j ?_ ?_ ?_), rProm_fr i7 g1 ⟨f _ ?_ ?_, f _ ?_ ?_, f _ ?_ ?_, f _ ?_ ?_, f _ ?_ ?_⟩ (o _ ?_ ?_ ?_) (fun j j0 j1 => o j ?_ ?_ ?_), rLog_fr i8 g1 ⟨f _ ?_ ?_, f _ ?_ ?_, f _ ?_ ?_⟩ (o _ ?_ ?_ ?_) (fun j j0 j1 => o j ?_ ?_ ?_), fun k hk => rWant_fr (fun j j0 => o j ?_ ?_ ?_) (f _ ?_ ?_) (f _ ?_ ?_) (g10 _ (by omega) (by omega)) (i9 k hk)⟩
  case zb =>
    unfold rB
    rw [d0, d1, d2, d3, d4, d5, f 5 (by omega) (by omega), f 12 (by omega) (by omega), f 17 (by omega) (by omega), f 23 (by omega) (by omega), o 0 (by omega) (by omega) (by omega), o 1 (by omega) (by omega) (by omega), o 3 (by omega) (by omega) (by omega), o 4 (by omega) (by omega) (by omega), o 5 (by omega) (by omega) (by omega), o 6 (by omega) (by omega) (by omega), o 7 (by omega) (by omega) (by omega), o 8 (by omega) (by omega) (by omega), sNoon_2, sNoon_9]
    exact ⟨⟨iB.1.1, iB.1.2.1, rfl, iB.1.2.2.2.1, iB.1.2.2.2.2.1, rfl⟩, iB.2⟩
  case zk =>
    intro j j0 j1
    rw [sNoon_9] at j1
    rw [sNoon_2, sNoon_9, sNoon_b (by omega), fb]
    unfold sBo
    by_cases h : W 9 = 410
    · rw [if_pos h]
      by_cases h5 : j < 409
      · have k := ib (j + 1) (by omega) (by omega)
        have e2 : 1491 + 2 * j + 2 = 1491 + 2 * (j + 1) := by omega
        have e1 : W 2 + 1 - min (W 9 + 1) 410 + j = W 2 - W 9 + (j + 1) := by omega
        rw [if_neg (by omega), if_pos (by omega), e2, e1]
        exact k
      · rw [if_pos (by omega), if_neg (by omega), if_neg (by omega)]
    · rw [if_neg h]
      by_cases h5 : j < W 9
      · have k := ib j j0 h5
        have e1 : W 2 + 1 - min (W 9 + 1) 410 + j = W 2 - W 9 + j := by omega
        rw [if_neg (by omega), if_neg (by omega), if_neg (by omega), e1]
        exact k
      · rw [if_pos (by omega), if_neg (by omega), if_pos (by omega)]
  all_goals omega
end NO
