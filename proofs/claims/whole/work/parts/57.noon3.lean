/-! a noon: coins -/
def sV (W : Int → Int) (G : Int) (X : Int → Int) : Int → Int := fun j => if j = 1 then sNa W else if j = 3 then G else if (23 ≤ j ∧ j < 63 ∧ (j - 23) % 4 = 0) ∧ (j - 23) / 4 < W 5 then X ((j - 23) / 4) else W j
section SV
variable {W : Int → Int} {G : Int} {X : Int → Int}
theorem sV_o {j : Int} (h1 : j ≠ 1) (h3 : j ≠ 3) (hc : ¬ (23 ≤ j ∧ j < 63 ∧ (j - 23) % 4 = 0)) : sV W G X j = W j := by
  unfold sV
  rw [if_neg h1, if_neg h3, if_neg (fun w => hc w.1)]
theorem sV_1 : sV W G X 1 = sNa W := rfl
theorem sV_3 : sV W G X 3 = G := rfl
theorem sV_c {p : Int} (h0 : 0 ≤ p) (h1 : p < W 5) (h2 : p < 10) : sV W G X (23 + 4 * p) = X p := by
  have e : (23 + 4 * p - 23) / 4 = p := by omega
  unfold sV
  rw [if_neg (by omega), if_neg (by omega), e, if_pos ⟨by omega, h1⟩]
theorem gW_V (g : gW W) (hG : 0 ≤ G ∧ G ≤ 999) : gW (sV W G X) := by
  obtain ⟨g1, g2, g3, g4, g5, g6, g7, g8, g9, g10⟩ := g
  have gb := g1
  unfold gB at gb
  have md := md_rng (a := W 1 + sTurn W) (n := W 0) (by omega)
  have o0 : sV W G X 0 = W 0 := sV_o (by omega) (by omega) (by omega)
  have o2 : sV W G X 2 = W 2 := sV_o (by omega) (by omega) (by omega)
  have o4 : sV W G X 4 = W 4 := sV_o (by omega) (by omega) (by omega)
  have o5 : sV W G X 5 = W 5 := sV_o (by omega) (by omega) (by omega)
  have o6 : sV W G X 6 = W 6 := sV_o (by omega) (by omega) (by omega)
  have o7 : sV W G X 7 = W 7 := sV_o (by omega) (by omega) (by omega)
  have o8 : sV W G X 8 = W 8 := sV_o (by omega) (by omega) (by omega)
  have o9 : sV W G X 9 = W 9 := sV_o (by omega) (by omega) (by omega)
  refine ⟨?zb, gSky_fr g2 (fun j j0 j1 => sV_o ?_ ?_ ?_), gBook_fr g3 g1 o2 o9 (fun j j0 j1 => sV_o ?_ ?_ ?_), gPlan_fr g4 (fun j j0 j1 => sV_o ?_ ?_ ?_), gPlot_fr g5 g1 o0 o5 (fun j j0 j1 j2 => sV_o ?_ ?_ ?_), gPay_fr g6 o5 (fun j j0 j1 => sV_o ?_ ?_ ?_), gSale_fr g7 g1 (Int.le_of_eq o5.symm) o6 (fun j j0 j1 => sV_o ?_ ?_ ?_), gProm_fr g8 g1 (Int.le_of_eq o5.symm) o7 (fun j j0 j1 => sV_o ?_ ?_ ?_), gLog_fr g9 g1 o0 (Int.le_of_eq o5.symm) o8 (fun j j0 j1 => sV_o ?_ ?_ ?_), fun k h0 h1 => gWant_fr (fun j j0 => sV_o ?_ ?_ ?_) h0 (g10 k h0 h1)⟩
  case zb =>
    unfold gB
    rw [o0, o2, o4, o5, o6, o7, o8, o9, sV_1, sV_3]
    unfold sNa
    omega
  all_goals omega
theorem rI_V {K M : xM} (i : rI K W) (g : gW W) (f : ∀ o, 1 ≤ o → o ≤ 35 → o ≠ 1 → o ≠ 9 → o ≠ 11 → o ≠ 22 → M o = K o) (f1 : ∀ j, M 1 j = if j = 1 then sNa W else if j = 3 then G else K 1 j) (f9 : ∀ p, 0 ≤ p → p < W 5 → M 9 p = X p) : rI M (sV W G X) := by
  obtain ⟨i1, i2, i3, i4, i5, i6, i7, i8, i9⟩ := i
  obtain ⟨g1, g2, g3, g4, g5, g6, g7, g8, g9, g10⟩ := g
  have gb := g1
  unfold gB at gb
  have o0 : sV W G X 0 = W 0 := sV_o (by omega) (by omega) (by omega)
  have o2 : sV W G X 2 = W 2 := sV_o (by omega) (by omega) (by omega)
  have o4 : sV W G X 4 = W 4 := sV_o (by omega) (by omega) (by omega)
  have o5 : sV W G X 5 = W 5 := sV_o (by omega) (by omega) (by omega)
  have o6 : sV W G X 6 = W 6 := sV_o (by omega) (by omega) (by omega)
  have o7 : sV W G X 7 = W 7 := sV_o (by omega) (by omega) (by omega)
  have o8 : sV W G X 8 = W 8 := sV_o (by omega) (by omega) (by omega)
  have o9 : sV W G X 9 = W 9 := sV_o (by omega) (by omega) (by omega)
  have d0 := f1 0
  have d1 := f1 1
  have d2 := f1 2
  have d3 := f1 3
  have d4 := f1 4
  have d5 := f1 5
  simp (disch := omega) only [if_pos, if_neg, ↓reduceIte] at d0 d1 d2 d3 d4 d5
  refine ⟨?zb, rSky_fr i2 (f _ ?_ ?_ ?_ ?_ ?_ ?_) (fun j j0 j1 => sV_o ?_ ?_ ?_), rBook_fr i3 g1 (f _ ?_ ?_ ?_ ?_ ?_ ?_) o2 o9 (fun j j0 j1 => sV_o ?_ ?_ ?_), rPlan_fr i4 (f _ ?_ ?_ ?_ ?_ ?_ ?_) (fun j j0 j1 => sV_o ?_ ?_ ?_), ?zp, rSale_fr i6 g1 ⟨f _ ?_ ?_ ?_ ?_ ?_ ?_, f _ ?_ ?_ ?_ ?_ ?_ ?_, f _ ?_ ?_ ?_ ?_ ?_ ?_, f _ ?_ ?_ ?_ ?_ ?_ ?_⟩ o6 (fun j j0 j1 => sV_o ?_ ?_ ?_), rProm_fr i7 g1 ⟨f _ ?_ ?_ ?_ ?_ ?_ ?_, f _ ?_ ?_ ?_ ?_ ?_ ?_, f _ ?_ ?_ ?_ ?_ ?_ ?_, f _ ?_ ?_ ?_ ?_ ?_ ?_, f _ ?_ ?_ ?_ ?_ ?_ ?_⟩ o7 (fun j j0 j1 => sV_o ?_ ?_ ?_), rLog_fr i8 g1 ⟨f _ ?_ ?_ ?_ ?_ ?_ ?_, f _ ?_ ?_ ?_ ?_ ?_ ?_, f _ ?_ ?_ ?_ ?_ ?_ ?_⟩ o8 (fun j j0 j1 => sV_o ?_ ?_ ?_), fun k hk => rWant_fr (fun j j0 => sV_o ?_ ?_ ?_) (f _ ?_ ?_ ?_ ?_ ?_ ?_) (f _ ?_ ?_ ?_ ?_ ?_ ?_) (g10 _ (by omega) (by omega)) (i9 k hk)⟩
  case zb =>
    unfold rB at i1 ⊢
    rw [d0, d1, d2, d3, d4, d5, f 5 (by omega) (by omega) (by omega) (by omega) (by omega) (by omega), f 12 (by omega) (by omega) (by omega) (by omega) (by omega) (by omega), f 17 (by omega) (by omega) (by omega) (by omega) (by omega) (by omega), f 23 (by omega) (by omega) (by omega) (by omega) (by omega) (by omega), o0, o2, o4, o5, o6, o7, o8, o9, sV_1, sV_3]
    exact ⟨⟨i1.1.1, rfl, i1.1.2.2.1, rfl, i1.1.2.2.2.2⟩, i1.2⟩
  case zp =>
    intro p p0 p1
    rw [o5] at p1
    have q := i5 p p0 p1
    rw [f 6 (by omega) (by omega) (by omega) (by omega) (by omega) (by omega), f 7 (by omega) (by omega) (by omega) (by omega) (by omega) (by omega), f 8 (by omega) (by omega) (by omega) (by omega) (by omega) (by omega), f 10 (by omega) (by omega) (by omega) (by omega) (by omega) (by omega), f9 p p0 p1, sV_c p0 p1 (by omega), sV_o (j := 20 + 4 * p) (by omega) (by omega) (by omega), sV_o (j := 21 + 4 * p) (by omega) (by omega) (by omega), sV_o (j := 22 + 4 * p) (by omega) (by omega) (by omega), sV_o (j := 60 + p) (by omega) (by omega) (by omega)]
    exact ⟨q.1, q.2.1, q.2.2.1, rfl, q.2.2.2.2⟩
  all_goals omega
theorem sWorth_V (g : gW W) {p d a t : Int} (hp : 0 ≤ p ∧ p < W 5) (hd : 0 ≤ d) : sWorth (sV W G X) p d a t = sWorth W p d a t := by
  have gb := g.1
  have gp := g.2.2.2.2.1 p hp.1 hp.2
  unfold gB at gb
  unfold sWorth
  rw [sV_o (j := 22 + 4 * p) (by omega) (by omega) (by omega), sV_o (j := 20 + 4 * p) (by omega) (by omega) (by omega), sV_o (j := 0) (by omega) (by omega) (by omega)]
  by_cases h : W (22 + 4 * p) = 4
  · rw [if_pos h, if_pos h]
  · have md := md_rng (a := W (20 + 4 * p) + a) (n := W 0) (by omega)
    rw [if_neg h, if_neg h, sVal_fr (W := W) (W' := sV W G X) (fun j j0 => sV_o (by omega) (by omega) (by omega)) (fun j j0 j1 => sV_o (by omega) (by omega) (by omega)) (by omega) (g.2.2.2.2.2.2.2.2.2 _ (by omega) (by omega)) (by omega) hd]
end SV
def sCoin (W : Int → Int) (p : Int) : Int := W (23 + 4 * p) + (sWorth W p (W 2) (sNa W) (sTurn W) - sPull W p)
theorem coin_q {W : Int → Int} {K : xM} {G : Int} (i : rI K W) (g : gW W) (hG : 0 ≤ G ∧ G ≤ 999) (n : Nat) : ∀ (M : xM) (v c : Int), (∀ o, 1 ≤ o → o ≤ 35 → o ≠ 1 → o ≠ 9 → o ≠ 11 → o ≠ 22 → M o = K o) → (∀ j, M 1 j = if j = 1 then sNa W else if j = 3 then G else K 1 j) → (∀ p, 0 ≤ p → p < W 5 → M 9 p = if p < v then sCoin W p else W (23 + 4 * p) - sPull W p) → rMemo c M W → 0 ≤ v → v ≤ W 5 → W 5 - v < n → c < 1900000000 - (W 5 - v) → yk (fX11_passNoon_L94 n M (sTurn W) v) fun M' => (∀ o, (o < 43 ∨ 49 < o) → o ≠ 9 → M' o = M o) ∧ (∀ p, 0 ≤ p → p < W 5 → M' 9 p = sCoin W p) ∧ rMemo (c + (W 5 - v)) M' W := by
  have gb := g.1
  have iB := i.1
  unfold gB at gb
  unfold rB at iB
  have tr := sTurn_rng W
  have md := md_rng (a := W 1 + sTurn W) (n := W 0) (by omega)
  induction n with
  | zero => intro M v c f f1 f9 me h0 h1 h2; omega
  | succ n ih =>
    intro M v c f f1 f9 me h0 h1 h2 hc
    have iV := rI_V (X := fun p => if p < v then sCoin W p else W (23 + 4 * p) - sPull W p) i g f f1 f9
    have gV := gW_V (X := fun p => if p < v then sCoin W p else W (23 + 4 * p) - sPull W p) g hG
    have e50 : M 5 0 = W 5 := by rw [f 5 (by omega) (by omega) (by omega) (by omega) (by omega) (by omega)]; exact iB.2.1
    have e12 : M 1 2 = W 2 := by rw [f1 2, if_neg (by omega), if_neg (by omega)]; exact iB.1.2.2.1
    have e11 : M 1 1 = sNa W := by rw [f1 1, if_pos rfl]
    unfold fX11_passNoon_L94
    by_cases h : v < W 5
    · have hv9 := f9 v h0 h
      rw [if_neg (by omega)] at hv9
      have meV : rMemo c M (sV W G fun p => if p < v then sCoin W p else W (23 + 4 * p) - sPull W p) := rMemo_fr me g.2.2.2.2.2.2.2.2.2 ⟨rfl, rfl, rfl, rfl, rfl⟩ (fun _ _ => rfl) (fun j j0 => sV_o (by omega) (by omega) (by omega)) (fun j j0 j1 => sV_o (by omega) (by omega) (by omega))
      have o5 : sV W G (fun p => if p < v then sCoin W p else W (23 + 4 * p) - sPull W p) 5 = W 5 := sV_o (by omega) (by omega) (by omega)
      rw [if_pos (by rw [e50, wr_id (by omega) (by omega), wr_id (by omega) (by omega)]; exact h), xrd_at (by omega) (by omega) (by omega), hv9, yk_xb2, e12, e11]
      refine yk.mono (worthTo_e (t := sTurn W) iV gV meV (by omega) (by rw [o5]; omega) (by omega) (by unfold sNa; omega) (by omega)) ?_
      intro q hq
      have eq1 : q.1 = sWorth W v (W 2) (sNa W) (sTurn W) := by rw [hq.1, sWorth_V g ⟨h0, h⟩ (by omega)]
      rw [xwt_at (by omega) (by omega) (by omega), eq1]
      have me2 : rMemo (c + 1) q.2 W := rMemo_fr hq.2.1 gV.2.2.2.2.2.2.2.2.2 ⟨rfl, rfl, rfl, rfl, rfl⟩ (fun _ _ => rfl) (fun j j0 => (sV_o (by omega) (by omega) (by omega)).symm) (fun j j0 j1 => (sV_o (by omega) (by omega) (by omega)).symm)
      refine yk.mono (ih _ (v + 1) (c + 1) ?_ ?_ ?_ (rMemo_fr me2 g.2.2.2.2.2.2.2.2.2 ⟨xup_o (by omega), xup_o (by omega), xup_o (by omega), xup_o (by omega), xup_o (by omega)⟩ (fun k hk => xup_o (by omega)) (fun _ _ => rfl) (fun _ _ _ => rfl)) (by omega) (by omega) (by omega) (by omega)) ?_
      · intro o o1 o2 o3 o4 o5 o6
        rw [xup_o o4, hq.2.2 o (by omega)]
        exact f o o1 o2 o3 o4 o5 o6
      · intro j
        rw [xup_o (by omega), hq.2.2 1 (by omega)]
        exact f1 j
      · intro p p0 p1
        by_cases e : p = v
        · subst e
          rw [xup_e rfl, if_pos (by omega)]
          unfold sCoin
          omega
        · rw [xup_n e, hq.2.2 9 (by omega), f9 p p0 p1]
          by_cases h5 : p < v
          · rw [if_pos h5, if_pos (by omega)]
          · rw [if_neg h5, if_neg (by omega)]
      · intro M' z
        exact ⟨fun o o1 o2 => by rw [z.1 o o1 o2, xup_o o2, hq.2.2 o o1], z.2.1, rMemo_le z.2.2 (by omega)⟩
    · rw [if_neg (by rw [e50, wr_id (by omega) (by omega), wr_id (by omega) (by omega)]; exact h)]
      refine ⟨_, rfl, fun _ _ _ => rfl, ?_, rMemo_le me (by omega)⟩
      intro p p0 p1
      rw [f9 p p0 p1, if_pos (by omega)]
