/-! a noon of the reference -/
theorem aNoon3_e {M : xM} {W : Int → Int} {S : Int} (g : gW W) (hM : M 95 = sV W (sGr W) (fun p => W (23 + 4 * p))) (hS : 0 ≤ S ∧ S < 1024) (hP : ∀ p, 0 ≤ p → (if bt S p = 1 then W 4 else 0) = sPull W p) : yk (xb (fX12_aNoon_L226 xfuel M (sTurn W) S 0) fun M35 => xb (fX12_writes M35 (sTurn W)) fun M38 => xlet (xup M38 95 2 ((M38 95 2) + 1)) fun M39 => (if sTurn W = 0 then some ((0 : Int), M39) else some (1, M39))) fun q => q.1 = (if sTurn W = 0 then 0 else 1) ∧ (∀ o, o ≠ 95 → o ≠ 101 → o ≠ 102 → q.2 o = M o) ∧ q.2 95 = sNoon W := by
  have gb := g.1
  unfold gB at gb
  have tr := sTurn_rng W
  rw [yk_xb]
  refine yk.mono (coinM_q g (sGr_rng g.1) hS rfl xfuel M 0 _ hM (by omega) (by omega) (by unfold xfuel; omega)) ?_
  intro M35 q
  have e35 : M35 95 = sV W (sGr W) (sCoin W) := by
    rw [q.2]
    funext j
    unfold sV
    by_cases c : (23 ≤ j ∧ j < 63 ∧ (j - 23) % 4 = 0) ∧ (j - 23) / 4 < W 5
    · rw [if_pos c, if_pos c]
      dsimp only
      rw [if_pos (show 0 ≤ (j - 23) / 4 by omega), hP _ (by omega)]
      rfl
    · rw [if_neg c, if_neg c]
  have o9 : M35 95 9 = W 9 := by rw [e35]; exact sV_o (by omega) (by omega) (by omega)
  have o2 : M35 95 2 = W 2 := by rw [e35]; exact sV_o (by omega) (by omega) (by omega)
  have ob : ∀ j, 1490 ≤ j → M35 95 j = W j := fun j hj => by rw [e35]; exact sV_o (by omega) (by omega) (by omega)
  rw [yk_xb]
  refine yk.mono (writesM_e (M := M35) (t := sTurn W) (by omega)) ?_
  intro M38 r
  have r2 : M38 95 2 = W 2 := by rw [r.2 2, if_neg (by omega), if_neg (by omega), o2]
  rw [yk_xlet, r2]
  have fin : (∀ o, o ≠ 95 → o ≠ 101 → o ≠ 102 → xup M38 95 2 (W 2 + 1) o = M o) ∧ xup M38 95 2 (W 2 + 1) 95 = sNoon W := by
    refine ⟨fun o h1 h2 h3 => by rw [xup_o h1, r.1 o h1, q.1 o h1 h2 h3], ?_⟩
    funext j
    rw [xup_s, r.2 j, o9, o2]
    unfold sNoon
    by_cases j2 : j = 2
    · rw [if_pos j2, if_pos j2]
    · rw [if_neg j2, if_neg j2]
      by_cases j9 : j = 9
      · rw [if_pos j9, if_pos j9]
      · rw [if_neg j9, if_neg j9]
        by_cases jb : 1490 ≤ j ∧ j < 2310
        · rw [if_pos jb, if_pos jb, ob (j + 2) (by omega), ob j (by omega)]
          rfl
        · rw [if_neg jb, if_neg jb, e35]
  by_cases t0 : sTurn W = 0
  · rw [if_pos t0, yk_some, if_pos t0]
    exact ⟨rfl, fin⟩
  · rw [if_neg t0, yk_some, if_neg t0]
    exact ⟨rfl, fin⟩
theorem aNoonM_e {M : xM} {W : Int → Int} (hW : M 95 = W) (g : gW W) : yk (fX12_aNoon M) fun q => q.1 = (if sTurn W = 0 then 0 else 1) ∧ (∀ o, o ≠ 95 → o ≠ 101 → o ≠ 102 → q.2 o = M o) ∧ q.2 95 = sNoon W := by
  subst hW
  have gb := g.1
  unfold gB at gb
  have tr := sTurn_rng (M 95)
  have w1 : wr 1 = 1 := by decide
  have w2 : wr (-1) = -1 := by decide
  unfold fX12_aNoon
  rw [yk_xb5]
  have b0 : ∀ j : Int, 0 ≤ j → bt 0 j = 0 := fun j _ => by unfold bt; rw [Int.zero_ediv]; rfl
  refine yk.mono (votesM_q g (M 95 5).toNat xfuel M 0 0 0 0 0 (fun _ _ _ => rfl) (by omega) (by unfold xfuel; omega) (by omega) (by omega) (by omega) (by omega) (fun j hj => by rw [b0 j hj, if_neg (by omega)]) (fun j hj => by rw [b0 j hj, if_neg (by omega)]) (fun j hj => by rw [b0 j hj]; rfl) (fun j hj => by rw [b0 j hj]; rfl)) ?_
  intro q hq
  obtain ⟨qf, ⟨ra, rb, rc, rd⟩, ha, hb, hc, hd⟩ := hq
  have wq := qf 95 (by omega) (by omega)
  generalize q.2.2.2.2 = Q at *
  generalize q.1 = a at *
  generalize q.2.1 = b at *
  generalize q.2.2.1 = c at *
  generalize q.2.2.2.1 = d at *
  have key : ∀ t, t = sTurn (M 95) → yk (xb (fX12_modulo Q (Q 95 1 + t)) fun r21 => xlet (xup Q 95 1 r21) fun M22 => xj (fun (s23 : Int) => xlet (xup M22 95 3 ((M22 95 3) - s23)) fun M25 => xj (fun (s26 : Int) => xb (fX12_aNoon_L226 xfuel M25 t s26 0) fun M35 => xb (fX12_writes M35 t) fun M38 => xlet (xup M38 95 2 ((M38 95 2) + 1)) fun M39 => (if wr t = 0 then some ((0 : Int), M39) else some (1, M39))) fun j27 => (if wr t = wr 1 then j27 c else (if wr t = wr ((-1)) then j27 d else j27 0))) fun j24 => (if wr t = 0 then j24 0 else j24 1)) fun q => q.1 = (if sTurn (M 95) = 0 then 0 else 1) ∧ (∀ o, o ≠ 95 → o ≠ 101 → o ≠ 102 → q.2 o = M o) ∧ q.2 95 = sNoon (M 95) := by
    intro t ht
    subst ht
    rw [modulo_eq (by rw [wq]; omega) (by rw [wq]; omega) (by rw [wq]; omega) (by rw [wq]; omega), wq, yk_xb, yk_some, yk_xlet, yk_xj, w1, w2, wr_id (x := sTurn (M 95)) (by omega) (by omega)]
    have fin : ∀ y S, y = (if sTurn (M 95) = 0 then 0 else 1) → (0 ≤ S ∧ S < 1024) → (∀ p, 0 ≤ p → (if bt S p = 1 then M 95 4 else 0) = sPull (M 95) p) → yk (xb (fX12_aNoon_L226 xfuel (xup (xup Q 95 1 ((M 95 1 + sTurn (M 95)) % M 95 0)) 95 3 ((xup Q 95 1 ((M 95 1 + sTurn (M 95)) % M 95 0)) 95 3 - y)) (sTurn (M 95)) S 0) fun M35 => xb (fX12_writes M35 (sTurn (M 95))) fun M38 => xlet (xup M38 95 2 ((M38 95 2) + 1)) fun M39 => (if sTurn (M 95) = 0 then some ((0 : Int), M39) else some (1, M39))) fun q => q.1 = (if sTurn (M 95) = 0 then 0 else 1) ∧ (∀ o, o ≠ 95 → o ≠ 101 → o ≠ 102 → q.2 o = M o) ∧ q.2 95 = sNoon (M 95) := by
      intro y S hy hS hP
      refine yk.mono (aNoon3_e (W := M 95) g ?_ hS hP) ?_
      · have e3 : xup Q 95 1 ((M 95 1 + sTurn (M 95)) % M 95 0) 95 3 = M 95 3 := by rw [xup_n (by omega), wq]
        funext j
        rw [e3, xup_s, xup_s, wq]
        unfold sV
        by_cases j3 : j = 3
        · rw [if_pos j3, if_neg (show ¬ j = 1 by omega), if_pos j3, hy]
          rfl
        · rw [if_neg j3, if_neg j3]
          by_cases j1 : j = 1
          · rw [if_pos j1, if_pos j1]
            rfl
          · rw [if_neg j1, if_neg j1]
            by_cases e : (23 ≤ j ∧ j < 63 ∧ (j - 23) % 4 = 0) ∧ (j - 23) / 4 < M 95 5
            · rw [if_pos e]
              have : 23 + 4 * ((j - 23) / 4) = j := by omega
              dsimp only
              rw [this]
            · rw [if_neg e]
      · intro z hz
        exact ⟨hz.1, fun o h1 h2 h3 => by rw [hz.2.1 o h1 h2 h3, xup_o h1, xup_o h1, qf o h2 h3], hz.2.2⟩
    have bb : ∀ x : Bool, b2i x = 1 ↔ x = true := by intro x; cases x <;> decide
    by_cases t0 : sTurn (M 95) = 0
    · rw [if_pos t0, yk_xlet, yk_xj, if_neg (by omega), if_neg (by omega)]
      exact fin 0 0 (by rw [if_pos t0]) (by omega) (fun p hp => by rw [b0 p hp, if_neg (by omega)]; unfold sPull; rw [if_neg (fun w => w.1 t0)])
    · rw [if_neg t0, yk_xlet, yk_xj]
      by_cases t1 : sTurn (M 95) = 1
      · rw [if_pos t1]
        refine fin 1 c (by rw [if_neg t0]) rc (fun p hp => ?_)
        rw [hc p hp]
        unfold sPull
        rw [t1]
        by_cases u : sPb (M 95) 1 p (M 95 5).toNat = true
        · rw [if_pos ((bb _).2 u), if_pos ⟨by omega, u⟩]
        · rw [if_neg (fun w => u ((bb _).1 w)), if_neg (fun w => u w.2)]
      · have t2 : sTurn (M 95) = -1 := by omega
        rw [if_neg t1, if_pos t2]
        refine fin 1 d (by rw [if_neg t0]) rd (fun p hp => ?_)
        rw [hd p hp]
        unfold sPull
        rw [t2]
        by_cases u : sPb (M 95) (-1) p (M 95 5).toNat = true
        · rw [if_pos ((bb _).2 u), if_pos ⟨by omega, u⟩]
        · rw [if_neg (fun w => u ((bb _).1 w)), if_neg (fun w => u w.2)]
  rw [yk_xj]
  have gP : gPlot (Q 95) := by rw [wq]; exact g.2.2.2.2.1
  have ea : sWt (M 95) a (M 95 5).toNat = sVw (M 95) 1 (M 95 5).toNat := sWt_vw _ (fun j hj => by
    rw [ha j (by omega)]
    by_cases u : sVv (M 95) j = 1
    · rw [if_pos u, if_pos ⟨by omega, u⟩]
    · rw [if_neg u, if_neg (fun w => u w.2)])
  have eb : sWt (M 95) b (M 95 5).toNat = sVw (M 95) (-1) (M 95 5).toNat := sWt_vw _ (fun j hj => by
    rw [hb j (by omega)]
    by_cases u : sVv (M 95) j = -1
    · rw [if_pos u, if_pos ⟨by omega, u⟩]
    · rw [if_neg u, if_neg (fun w => u w.2)])
  rw [enoughM_e (M := Q) gP (by rw [wq]; omega) (by omega), enoughM_e (M := Q) gP (by rw [wq]; omega) (by omega), wq, ea, eb, wr_id (x := M 95 3) (by omega) (by omega), xb_some, xb_some]
  rw [wq] at key
  by_cases h3 : M 95 3 = 0
  · rw [if_pos h3]
    exact key 0 (by unfold sTurn; rw [if_pos h3])
  · rw [if_neg h3]
    by_cases e1 : sEn (M 95) (sVw (M 95) 1 (M 95 5).toNat) = true
    · rw [if_pos e1]
      exact key 1 (by unfold sTurn; rw [if_neg h3, if_pos e1])
    · rw [if_neg e1]
      by_cases e2 : sEn (M 95) (sVw (M 95) (-1) (M 95 5).toNat) = true
      · rw [if_pos e2]
        exact key (-1) (by unfold sTurn; rw [if_neg h3, if_neg e1, if_pos e2])
      · rw [if_neg e2]
        exact key 0 (by unfold sTurn; rw [if_neg h3, if_neg e1, if_neg e2])
