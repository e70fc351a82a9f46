/-! best and alone, both -/
theorem scr_end {ph : Bool} {c c' : Int} {M K Z : xM} (I : Inv ph c M) (me : rMemo c' K (M 95)) (f1 : ∀ o, (o < 43 ∨ 78 < o) → o ≠ 11 → o ≠ 22 → K o = M o) (f2 : ∀ o, (o < 101 ∨ 110 < o) → o ≠ 94 → Z o = K o) (h94 : Z 94 3 = M 94 3 ∧ Z 94 4 = M 94 4 ∧ Z 94 12 = M 94 12 ∧ Z 94 19 = M 94 19 ∧ Z 94 21 = M 94 21) (s0 : Z 108 = M 108) : Inv ph c' Z := by
  have f : ∀ o, (o < 43 ∨ 78 < o) → o ≠ 11 → o ≠ 22 → (o < 101 ∨ 110 < o) → o ≠ 94 → Z o = M o := fun o h1 h2 h3 h4 h5 => by rw [f2 o h4 h5, f1 o h1 h2 h3]
  have e36 := f 36 (by omega) (by omega) (by omega) (by omega) (by omega)
  refine Inv_scr I ?_ (fun o h0 h1 h2 h3 h4 h5 h6 => f o ?_ h1 h2 ?_ h4) (by rw [e36]; exact ⟨rfl, rfl, rfl⟩) h94 s0
  · exact rMemo_fr me I.2.1.2.2.2.2.2.2.2.2.2 ⟨f2 _ (by omega) (by omega), f2 _ (by omega) (by omega), f2 _ (by omega) (by omega), f2 _ (by omega) (by omega), f2 _ (by omega) (by omega)⟩ (fun k hk => f2 _ (by omega) (by omega)) (fun _ _ => rfl) (fun _ _ _ => rfl)
  · by_cases h : o < 43
    · exact Or.inl h
    · omega
  · omega
theorem tc_best {ph : Bool} {c : Int} {M : xM} {a b : Int} (I : Inv ph c M) (hc : c < 1500000000) (ha : -2147483648 ≤ a ∧ a < 2147483648) (hb : -2147483648 ≤ b ∧ b < 2147483648) : yk (fX11_best M a b) fun q => yk (fX12_best q.2 a b) fun z => q.1 = z.1 ∧ Inv ph (c + 60000) z.2 := by
  have iB := I.1.1
  have gb := I.2.1.1
  unfold rB at iB
  unfold gB at gb
  by_cases g : (1 ≤ a ∧ a ≤ 30) ∧ (b = 0 ∨ (10 ≤ b ∧ b ≤ 9 + a))
  · have e0 : wr 0 = 0 := by decide
    have eb : wr b = b := wr_id (by omega) (by omega)
    have bodyM : ∀ K : xM, K 95 = M 95 → yk (xb2 (fX12_laysTurns K a) fun r3 M4 => (if wr b = 0 then some (r3, M4) else (xrd M4 105 30 (b - 10) fun r5 => some (r5 + 2, M4)))) fun z => z.1 = (if b = 0 then sBf (M 95 0) (sCt (M 95) (sAll (M 95))) true a a.toNat (M 95 1) else sBj (M 95 0) (sCt (M 95) (sAll (M 95))) true a a.toNat (M 95 1) (b - 10).toNat + 2) ∧ ∀ o, (o < 101 ∨ 105 < o) → z.2 o = K o := by
      intro K hK
      rw [yk_xb2]
      refine yk.mono (laysTurns_e (M := K) (by rw [hK]; exact I.2.1) g.1) ?_
      intro q hq
      rw [hK] at hq
      rw [eb]
      by_cases b0 : b = 0
      · rw [if_pos b0, if_pos b0, yk_some]
        exact ⟨hq.1, hq.2.1⟩
      · have t := hq.2.2 (b - 10).toNat (by omega)
        have e8 : (((b - 10).toNat : Nat) : Int) = b - 10 := by omega
        rw [e8] at t
        rw [if_neg b0, if_neg b0, xrd_at (by omega) (by omega) (by omega), t, yk_some]
        exact ⟨rfl, hq.2.1⟩
    have bodyK : yk (xb2 (fX3_findBest M a) fun r3 M4 => (if wr b = 0 then some (r3, M4) else (xrd M4 64 30 (b - 10) fun r5 => some (r5 + 2, M4)))) fun z => z.1 = (if b = 0 then sBf (M 95 0) (sCt (M 95) (sAll (M 95))) true a a.toNat (M 95 1) else sBj (M 95 0) (sCt (M 95) (sAll (M 95))) true a a.toNat (M 95 1) (b - 10).toNat + 2) ∧ rMemo (c + 60000) z.2 (M 95) ∧ ∀ o, (o < 43 ∨ 64 < o) → z.2 o = M o := by
      rw [yk_xb2]
      refine yk.mono (findBest_e I.1 I.2.1 I.2.2.2.2.1 (by omega) g.1) ?_
      intro q hq
      obtain ⟨q1, q2, q3, q4, q5⟩ := hq
      have fr : ∀ o, (o < 43 ∨ 64 < o) → q.2 o = M o := fun o ho => q2 o (by omega)
      rw [eb]
      by_cases b0 : b = 0
      · rw [if_pos b0, if_pos b0, yk_some]
        exact ⟨q1, q5, fr⟩
      · have t := q4 (b - 10).toNat (by omega)
        have e8 : (((b - 10).toNat : Nat) : Int) = b - 10 := by omega
        rw [e8] at t
        rw [if_neg b0, if_neg b0, xrd_at (by omega) (by omega) (by omega), t, yk_some]
        exact ⟨rfl, q5, fr⟩
    have fin : yk (fX11_best M a b) fun z => z.1 = (if b = 0 then sBf (M 95 0) (sCt (M 95) (sAll (M 95))) true a a.toNat (M 95 1) else sBj (M 95 0) (sCt (M 95) (sAll (M 95))) true a a.toNat (M 95 1) (b - 10).toNat + 2) ∧ rMemo (c + 60000) z.2 (M 95) ∧ ∀ o, (o < 43 ∨ 64 < o) → z.2 o = M o := by
      unfold fX11_best fX11_isTurnOf
      rw [within_eq (by omega) (by omega) (by omega) (by omega) (by omega) (by omega), if_pos (show decide (1 ≤ a ∧ a ≤ 30) = true by rw [decide_eq_true_eq]; exact g.1), within_eq (by omega) (by omega) (by omega) (by omega) (by omega) (by omega), yk_xj]
      by_cases b0 : b = 0
      · rw [if_pos (show wr b = 0 by rw [eb]; exact b0)]
        exact bodyK
      · rw [if_neg (show ¬ wr b = 0 by rw [eb]; exact b0), if_pos (show decide (10 ≤ b ∧ b ≤ 10 + a - 1) = true by rw [decide_eq_true_eq]; omega)]
        exact bodyK
    refine yk.mono fin ?_
    intro q hq
    have w := hq.2.2 95 (by omega)
    unfold fX12_best
    rw [isIn_eq (by omega) (by omega) (by omega) (by omega) (by omega) (by omega), if_pos (show decide (1 ≤ a ∧ a ≤ 30) = true by rw [decide_eq_true_eq]; exact g.1), isIn_eq (by omega) (by omega) (by omega) (by omega) (by omega) (by omega), yk_xj]
    have finM : yk (if wr b = 0 then (fun (_ : Unit) => xb2 (fX12_laysTurns q.2 a) fun r3 M4 => (if wr b = 0 then some (r3, M4) else (xrd M4 105 30 (b - 10) fun r5 => some (r5 + 2, M4)))) () else if decide (10 ≤ b ∧ b ≤ 9 + a) = true then (fun (_ : Unit) => xb2 (fX12_laysTurns q.2 a) fun r3 M4 => (if wr b = 0 then some (r3, M4) else (xrd M4 105 30 (b - 10) fun r5 => some (r5 + 2, M4)))) () else some (-1000000, q.2)) fun z => z.1 = q.1 ∧ ∀ o, (o < 101 ∨ 105 < o) → z.2 o = q.2 o := by
      rw [hq.1]
      by_cases b0 : b = 0
      · rw [if_pos (show wr b = 0 by rw [eb]; exact b0)]
        exact bodyM q.2 w
      · rw [if_neg (show ¬ wr b = 0 by rw [eb]; exact b0), if_pos (show decide (10 ≤ b ∧ b ≤ 9 + a) = true by rw [decide_eq_true_eq]; omega)]
        exact bodyM q.2 w
    refine yk.mono finM ?_
    intro z hz
    refine ⟨hz.1.symm, scr_end I hq.2.1 (fun o h1 _ _ => hq.2.2 o (by omega)) (fun o h1 _ => hz.2 o (by omega)) ?_ (by rw [hz.2 108 (by omega), hq.2.2 108 (by omega)])⟩
    have e94 : z.2 94 = M 94 := by rw [hz.2 94 (by omega), hq.2.2 94 (by omega)]
    rw [e94]
    exact ⟨rfl, rfl, rfl, rfl, rfl⟩
  · have e1 : fX11_best M a b = some (-1000000, M) := by
      unfold fX11_best fX11_isTurnOf
      rw [within_eq (by omega) (by omega) (by omega) (by omega) (by omega) (by omega)]
      by_cases h1 : 1 ≤ a ∧ a ≤ 30
      · rw [if_pos (show decide (1 ≤ a ∧ a ≤ 30) = true by rw [decide_eq_true_eq]; exact h1), within_eq (by omega) (by omega) (by omega) (by omega) (by omega) (by omega)]
        dsimp only [xj]
        rw [if_neg (show ¬ wr b = 0 by rw [wr_id (by omega) (by omega)]; omega), if_neg (show ¬ decide (10 ≤ b ∧ b ≤ 10 + a - 1) = true by rw [decide_eq_true_eq]; omega)]
      · rw [if_neg (show ¬ decide (1 ≤ a ∧ a ≤ 30) = true by rw [decide_eq_true_eq]; exact h1)]
    have e2 : fX12_best M a b = some (-1000000, M) := by
      unfold fX12_best
      rw [isIn_eq (by omega) (by omega) (by omega) (by omega) (by omega) (by omega)]
      by_cases h1 : 1 ≤ a ∧ a ≤ 30
      · rw [if_pos (show decide (1 ≤ a ∧ a ≤ 30) = true by rw [decide_eq_true_eq]; exact h1), isIn_eq (by omega) (by omega) (by omega) (by omega) (by omega) (by omega)]
        dsimp only [xj]
        rw [if_neg (show ¬ wr b = 0 by rw [wr_id (by omega) (by omega)]; omega), if_neg (show ¬ decide (10 ≤ b ∧ b ≤ 9 + a) = true by rw [decide_eq_true_eq]; omega)]
      · rw [if_neg (show ¬ decide (1 ≤ a ∧ a ≤ 30) = true by rw [decide_eq_true_eq]; exact h1)]
    exact ⟨_, e1, _, e2, rfl, Inv_le I (by omega)⟩
theorem findAlone_e {W : Int → Int} {M : xM} {set m c : Int} (i : rI M W) (g : gW W) (me : rMemo c M W) (hc : c < 1600000000) (hs : 0 ≤ set ∧ set < 2147483648) (hm : 1 ≤ m ∧ m ≤ 30) : yk (fX3_findAlone M set m) fun q => q.1 = sBf (W 0) (sCt W set) (sEn W (sWt W set (W 5).toNat)) m m.toNat (W 1) ∧ (∀ o, (o < 43 ∨ 64 < o) → q.2 o = M o) ∧ rMemo (c + 60000) q.2 W := by
  have gb := g.1
  have iB := i.1
  unfold gB at gb
  unfold rB at iB
  unfold fX3_findAlone fX3_gather
  rw [yk_xlet, yk_xb, yk_xb]
  have isl0 : isl M (xup M 50 1 m) := fun o h1 h2 h3 h4 => xup_o (by omega)
  have me0 : rMemo c (xup M 50 1 m) W := rMemo_fr me g.2.2.2.2.2.2.2.2.2 ⟨xup_o (by omega), xup_o (by omega), xup_o (by omega), xup_o (by omega), xup_o (by omega)⟩ (fun k hk => xup_o (by omega)) (fun _ _ => rfl) (fun _ _ _ => rfl)
  refine yk.mono (gat4_a (set := set) i g hs hm xfuel _ 0 c isl0 (xup_e rfl) me0 (by omega) (by omega) (by unfold xfuel; omega) (by omega) (fun d t r d0 d1 => by omega)) ?_
  intro M1 q1
  have f1 : ∀ o, (o < 43 ∨ 51 < o) → M1 o = M o := fun o ho => by rw [q1.1 o (by omega) (by omega), xup_o (by omega)]
  have i1 : rI M1 W := rI_fr2 i g (fun o h1 h2 _ _ => f1 o (by omega))
  have e501 : M1 50 1 = m := by rw [q1.1 50 (by omega) (by omega), xup_e rfl]
  have hcOk : cOk (W 0) (W 1) m (sCt W set) M1 := fun d t r a b c e f g => q1.2.1 d t r a b c e f g
  have r := sWt_rng g.2.2.2.2.1 set (W 5).toNat (by omega)
  rw [yk_some, weightOf_e i1.2.2.2.2.1 g.2.2.2.2.1 (by omega) (by rw [f1 5 (by omega)]; exact iB.2.1) hs, yk_xb, yk_some, enoughK_e i1.2.2.2.2.1 g.2.2.2.2.1 (by omega) (by rw [f1 5 (by omega)]; exact iB.2.1) (by omega), yk_xb, yk_some, yk_xb2]
  refine yk.mono (reckon_e (N := W 0) (A := W 1) (sCt_rng g.1 _) hm rfl (by omega) e501 hcOk) ?_
  intro q hq
  rw [yk_some]
  refine ⟨hq.1, fun o ho => (hq.2.1 o (by omega)).trans (f1 o (by omega)), ?_⟩
  exact rMemo_le (rMemo_fr q1.2.2 g.2.2.2.2.2.2.2.2.2 ⟨hq.2.1 _ (by omega), hq.2.1 _ (by omega), hq.2.1 _ (by omega), hq.2.1 _ (by omega), hq.2.1 _ (by omega)⟩ (fun k hk => hq.2.1 _ (by omega)) (fun _ _ => rfl) (fun _ _ _ => rfl)) (by omega)
theorem tc_alone {ph : Bool} {c : Int} {M : xM} {a b : Int} (I : Inv ph c M) (hc : c < 1500000000) (ha : -2147483648 ≤ a ∧ a < 2147483648) (hb : -2147483648 ≤ b ∧ b < 2147483648) : yk (fX11_alone M a b) fun q => yk (fX12_alone q.2 a b) fun z => q.1 = z.1 ∧ Inv ph (c + 60000) z.2 := by
  have iB := I.1.1
  have gb := I.2.1.1
  unfold rB at iB
  unfold gB at gb
  have ar := sAll_rng (W := M 95) (by omega)
  have ek := allK_e (W := M 95) (M := M) (by omega) (by omega)
  by_cases g : (1 ≤ a ∧ a ≤ sAll (M 95)) ∧ (1 ≤ b ∧ b ≤ 6)
  · unfold fX11_alone
    rw [ek, within_eq (by omega) (by omega) (by omega) (by omega) (by omega) (by omega), within_eq (by omega) (by omega) (by omega) (by omega) (by omega) (by omega), if_pos (show decide (1 ≤ a ∧ a ≤ sAll (M 95)) = true by rw [decide_eq_true_eq]; exact g.1), if_pos (show decide (1 ≤ b ∧ b ≤ 6) = true by rw [decide_eq_true_eq]; exact g.2), yk_xb2]
    refine yk.mono (findAlone_e I.1 I.2.1 I.2.2.2.2.1 (by omega) (by omega) (by omega)) ?_
    intro q hq
    have w := hq.2.1 95 (by omega)
    rw [yk_some]
    unfold fX12_alone
    dsimp only
    rw [allM_e (by rw [w]; omega), w, isIn_eq (by omega) (by omega) (by omega) (by omega) (by omega) (by omega), isIn_eq (by omega) (by omega) (by omega) (by omega) (by omega) (by omega), if_pos (show decide (1 ≤ a ∧ a ≤ sAll (M 95)) = true by rw [decide_eq_true_eq]; exact g.1), if_pos (show decide (1 ≤ b ∧ b ≤ 6) = true by rw [decide_eq_true_eq]; exact g.2), yk_xb2]
    refine yk.mono (aloneM_e (M := q.2) (by rw [w]; exact I.2.1) (by omega) (by omega)) ?_
    intro z hz
    rw [yk_some]
    refine ⟨by rw [hq.1, hz.1, w], scr_end I hq.2.2 (fun o h1 _ _ => hq.2.1 o (by omega)) (fun o h1 _ => hz.2 o (by omega)) ?_ (by rw [hz.2 108 (by omega), hq.2.1 108 (by omega)])⟩
    have e94 : z.2 94 = M 94 := by rw [hz.2 94 (by omega), hq.2.1 94 (by omega)]
    rw [e94]
    exact ⟨rfl, rfl, rfl, rfl, rfl⟩
  · have e1 : fX11_alone M a b = some (-1000000, M) := by
      unfold fX11_alone
      rw [ek, within_eq (by omega) (by omega) (by omega) (by omega) (by omega) (by omega), within_eq (by omega) (by omega) (by omega) (by omega) (by omega) (by omega)]
      by_cases h1 : 1 ≤ a ∧ a ≤ sAll (M 95)
      · rw [if_pos (show decide (1 ≤ a ∧ a ≤ sAll (M 95)) = true by rw [decide_eq_true_eq]; exact h1), if_neg (show ¬ decide (1 ≤ b ∧ b ≤ 6) = true by rw [decide_eq_true_eq]; omega)]
      · rw [if_neg (show ¬ decide (1 ≤ a ∧ a ≤ sAll (M 95)) = true by rw [decide_eq_true_eq]; exact h1)]
    have e2 : fX12_alone M a b = some (-1000000, M) := by
      unfold fX12_alone
      rw [allM_e (by omega), isIn_eq (by omega) (by omega) (by omega) (by omega) (by omega) (by omega), isIn_eq (by omega) (by omega) (by omega) (by omega) (by omega) (by omega)]
      by_cases h1 : 1 ≤ a ∧ a ≤ sAll (M 95)
      · rw [if_pos (show decide (1 ≤ a ∧ a ≤ sAll (M 95)) = true by rw [decide_eq_true_eq]; exact h1), if_neg (show ¬ decide (1 ≤ b ∧ b ≤ 6) = true by rw [decide_eq_true_eq]; omega)]
      · rw [if_neg (show ¬ decide (1 ≤ a ∧ a ≤ sAll (M 95)) = true by rw [decide_eq_true_eq]; exact h1)]
    exact ⟨_, e1, _, e2, rfl, Inv_le I (by omega)⟩
