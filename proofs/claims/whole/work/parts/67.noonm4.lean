/-! a noon: the reference's coins -/
theorem coinM_q {W : Int → Int} {G S P : Int} (g : gW W) (hG : 0 ≤ G ∧ G ≤ 999) (hS : 0 ≤ S ∧ S < 1024) (hP : P = W 4) (n : Nat) : ∀ (M : xM) (v : Int) (X : Int → Int), M 95 = sV W G X → 0 ≤ v → v ≤ W 5 → W 5 - v < n → yk (fX12_aNoon_L226 n M (sTurn W) S v) fun M' => (∀ o, o ≠ 95 → o ≠ 101 → o ≠ 102 → M' o = M o) ∧ M' 95 = sV W G (fun p => if v ≤ p then X p + (sWorth W p (W 2) (sNa W) (sTurn W) - (if bt S p = 1 then P else 0)) else X p) := by
  have gb := g.1
  unfold gB at gb
  have tr := sTurn_rng W
  have md := md_rng (a := W 1 + sTurn W) (n := W 0) (by omega)
  induction n with
  | zero => intro M v X hM h0 h1 h2; omega
  | succ n ih =>
    intro M v X hM h0 h1 h2
    have gV := gW_V (X := X) g hG
    have o5 : M 95 5 = W 5 := by rw [hM]; exact sV_o (by omega) (by omega) (by omega)
    have o2 : M 95 2 = W 2 := by rw [hM]; exact sV_o (by omega) (by omega) (by omega)
    have o1 : M 95 1 = sNa W := by rw [hM]; rfl
    unfold fX12_aNoon_L226
    by_cases h : v < W 5
    · have b := bt_rng S v
      have w1 : wr 1 = 1 := by decide
      rw [if_pos (by rw [o5, wr_id (by omega) (by omega), wr_id (by omega) (by omega)]; exact h), o2, o1, yk_xb2]
      refine yk.mono (worthOf_e (M := M) (t := sTurn W) (by rw [hM]; exact gV) (by rw [o5]; omega) (by omega) (by unfold sNa; omega) (by omega)) ?_
      intro z hz
      have w := hz.2 95 (by omega) (by omega)
      have ez : z.1 = sWorth W v (W 2) (sNa W) (sTurn W) := by rw [hz.1, hM, sWorth_V g ⟨h0, h⟩ (by omega)]
      have o4 : z.2 95 4 = W 4 := by rw [w, hM]; exact sV_o (by omega) (by omega) (by omega)
      have oc : z.2 95 (23 + 4 * v) = X v := by rw [w, hM]; exact sV_c h0 h (by omega)
      rw [bit_eq hS.1 (by omega) (by omega) (by omega), wr_id (x := bt S v) (by omega) (by omega), w1, yk_xj, o4, ez]
      have key : ∀ y : Int, y = (if bt S v = 1 then P else 0) → yk (xb (fX12_gives z.2 v (sWorth W v (W 2) (sNa W) (sTurn W) - y)) fun M34 => fX12_aNoon_L226 n M34 (sTurn W) S (v + 1)) fun M' => (∀ o, o ≠ 95 → o ≠ 101 → o ≠ 102 → M' o = M o) ∧ M' 95 = sV W G (fun p => if v ≤ p then X p + (sWorth W p (W 2) (sNa W) (sTurn W) - (if bt S p = 1 then P else 0)) else X p) := by
        intro y hy
        unfold fX12_gives
        have ea : 20 + 4 * v + 3 = 23 + 4 * v := by omega
        rw [ea, xrd_at (by omega) (by omega) (by omega), oc, xwt_at (by omega) (by omega) (by omega), yk_xb, yk_some]
        have nw : xup z.2 95 (23 + 4 * v) (X v + (sWorth W v (W 2) (sNa W) (sTurn W) - y)) 95 = sV W G (fun p => if p = v then X v + (sWorth W v (W 2) (sNa W) (sTurn W) - y) else X p) := by
          funext j
          rw [xup_s, w, hM]
          unfold sV
          by_cases e : j = 23 + 4 * v
          · have e2 : (j - 23) / 4 = v := by omega
            rw [if_pos e, if_neg (by omega), if_neg (by omega), e2, if_pos ⟨by omega, h⟩]
            dsimp only
            rw [if_pos rfl]
          · rw [if_neg e]
            by_cases c : (23 ≤ j ∧ j < 63 ∧ (j - 23) % 4 = 0) ∧ (j - 23) / 4 < W 5
            · rw [if_pos c, if_pos c]
              dsimp only
              rw [if_neg (show ¬ (j - 23) / 4 = v by omega)]
            · rw [if_neg c, if_neg c]
        refine yk.mono (ih _ (v + 1) _ nw (by omega) (by omega) (by omega)) ?_
        intro M' q
        refine ⟨fun o o1 o2 o3 => by rw [q.1 o o1 o2 o3, xup_o o1, hz.2 o o2 o3], ?_⟩
        rw [q.2]
        congr 1
        funext p
        by_cases e : p = v
        · subst e
          rw [if_neg (show ¬ p + 1 ≤ p by omega), if_pos rfl, if_pos (show p ≤ p by omega), hy]
        · by_cases c : v + 1 ≤ p
          · rw [if_pos c, if_neg e, if_pos (show v ≤ p by omega)]
          · rw [if_neg c, if_neg e, if_neg (show ¬ v ≤ p by omega)]
      by_cases hb : bt S v = 1
      · rw [if_pos hb]
        exact key _ (by rw [if_pos hb, hP])
      · rw [if_neg hb]
        exact key _ (by rw [if_neg hb])
    · rw [if_neg (by rw [o5, wr_id (by omega) (by omega), wr_id (by omega) (by omega)]; exact h)]
      refine ⟨_, rfl, fun _ _ _ _ => rfl, ?_⟩
      rw [hM]
      funext j
      unfold sV
      by_cases c : (23 ≤ j ∧ j < 63 ∧ (j - 23) % 4 = 0) ∧ (j - 23) / 4 < W 5
      · rw [if_pos c, if_pos c]
        dsimp only
        rw [if_neg (show ¬ v ≤ (j - 23) / 4 by omega)]
      · rw [if_neg c, if_neg c]
