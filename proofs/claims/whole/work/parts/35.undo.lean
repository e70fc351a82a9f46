/-! undo, image -/
section FB
variable {A A' : xM} {W W' : Int → Int}
theorem sL_fb (w : ∀ i, 0 ≤ i → i < 5820 → W' i = W i) {k : Int} (hk : 0 ≤ k ∧ k < 4) (n : Nat) : ∀ i : Int, 0 ≤ i → i + n ≤ 405 → sL W' k i n = sL W k i n := by
  induction n with
  | zero => intro i _ _; rfl
  | succ n ih =>
    intro i hi h2
    show (_, _) :: _ = (_, _) :: _
    rw [w _ (by omega) (by omega), w _ (by omega) (by omega), ih _ (by omega) (by omega)]
theorem sFr_fb (w : ∀ i, 0 ≤ i → i < 5820 → W' i = W i) {k i : Int} (hk : 0 ≤ k ∧ k < 4) (hi : 0 ≤ i ∧ i < 16) : sFr W' k i = sFr W k i := w _ (by omega) (by omega)
theorem sMi_fb (w : ∀ i, 0 ≤ i → i < 5820 → W' i = W i) {k i : Int} (hk : 0 ≤ k ∧ k < 4) (hi : 0 ≤ i ∧ i < 16) : sMi W' k i = sMi W k i := w _ (by omega) (by omega)
theorem sTo_fb (w : ∀ i, 0 ≤ i → i < 5820 → W' i = W i) {k i : Int} (hk : 0 ≤ k ∧ k < 4) (hi : 0 ≤ i ∧ i < 16) : sTo W' k i = sTo W k i := w _ (by omega) (by omega)
theorem sVa_fb (w : ∀ i, 0 ≤ i → i < 5820 → W' i = W i) {k i : Int} (hk : 0 ≤ k ∧ k < 4) (hi : 0 ≤ i ∧ i < 16) (g : gLine W k i) : sVa W' k i = sVa W k i := by
  have g1 := g.1
  unfold sVa
  rw [sFr_fb w hk hi, sMi_fb w hk hi, sL_fb w hk _ _ g.1.1 (by omega)]
theorem sCo_fb (w : ∀ i, 0 ≤ i → i < 5820 → W' i = W i) {k i : Int} (hk : 0 ≤ k ∧ k < 4) (hi : 0 ≤ i ∧ i < 16) (g : gLine W k i) : sCo W' k i = sCo W k i := by
  have g1 := g.1
  unfold sCo
  rw [sTo_fb w hk hi, sMi_fb w hk hi, sL_fb w hk _ _ (by omega) (by omega)]
theorem gLine_fb (w : ∀ i, 0 ≤ i → i < 5820 → W' i = W i) {k i : Int} (hk : 0 ≤ k ∧ k < 4) (hi : 0 ≤ i ∧ i < 16) (g : gLine W k i) : gLine W' k i := by
  have h := g
  unfold gLine at h ⊢
  rw [sVa_fb w hk hi g, sCo_fb w hk hi g, sFr_fb w hk hi, sMi_fb w hk hi, sTo_fb w hk hi]
  exact h
theorem gWant_fb (w : ∀ i, 0 ≤ i → i < 5820 → W' i = W i) {k : Int} (hk : 0 ≤ k ∧ k < 4) (g : gWant W k) : gWant W' k := by
  have e : W' (2320 + k) = W (2320 + k) := w _ (by omega) (by omega)
  have g1 := g.1
  unfold gWant
  rw [e]
  exact ⟨g.1, fun i h0 h1 => gLine_fb w hk (by omega) (g.2 i h0 h1)⟩
theorem cLine_fb (w : ∀ i, 0 ≤ i → i < 5820 → W' i = W i) {k i : Int} (hk : 0 ≤ k ∧ k < 4) (hi : 0 ≤ i ∧ i < 16) (g : gLine W k i) : cLine W' k i = cLine W k i := by
  unfold cLine
  rw [sVa_fb w hk hi g, sCo_fb w hk hi g, sMi_fb w hk hi, sTo_fb w hk hi]
theorem cAll_fb (w : ∀ i, 0 ≤ i → i < 5820 → W' i = W i) {k : Int} (hk : 0 ≤ k ∧ k < 4) (n : Nat) (hn : n ≤ 16) (g : ∀ i, 0 ≤ i → i < (n : Int) → gLine W k i) : cAll W' k n = cAll W k n := by
  induction n with
  | zero => rfl
  | succ n ih =>
    show _ ++ _ = _ ++ _
    rw [ih (by omega) (fun i h0 h1 => g i h0 (by omega)), cLine_fb w hk (by omega) (g _ (by omega) (by omega))]
theorem cOf_fb (w : ∀ i, 0 ≤ i → i < 5820 → W' i = W i) {k : Int} (hk : 0 ≤ k ∧ k < 4) (g : gWant W k) : cOf W' k = cOf W k := by
  have g1 := g.1
  unfold cOf
  rw [w _ (by omega) (by omega), cAll_fb w hk _ (by omega) (fun i h0 h1 => g.2 i h0 (by omega))]
theorem rWant_fb {k : Nat} (hk : k < 4) (w : ∀ i, 0 ≤ i → i < 5820 → W' i = W i) (g : gWant W k) (h : rWant A W k) : rWant A W' k := by
  have g1 := g.1
  unfold rWant at h ⊢
  rw [cOf_fb w (by omega) g, w _ (by omega) (by omega)]
  refine ⟨h.1, h.2.1, h.2.2.1, h.2.2.2.1, h.2.2.2.2.1, fun e => ?_⟩
  have n := h.2.2.2.2.2 e
  unfold noDay at n ⊢
  rw [w _ (by omega) (by omega)]
  intro i h0 h1
  rw [sVa_fb w (by omega) (by omega) (g.2 i h0 h1), sCo_fb w (by omega) (by omega) (g.2 i h0 h1)]
  exact n i h0 h1
theorem rI_fb (w : ∀ i, 0 ≤ i → i < 5820 → W' i = W i) (h : rI A W) (g : gW W) : rI A W' := by
  obtain ⟨i1, i2, i3, i4, i5, i6, i7, i8, i9⟩ := h
  obtain ⟨g1, g2, g3, g4, g5, g6, g7, g8, g9, g10⟩ := g
  refine ⟨rB_fr i1 ⟨rfl, rfl, rfl, rfl, rfl⟩ (fun i h0 h1 => w i ?_ ?_), rSky_fr i2 rfl (fun i h0 h1 => w i ?_ ?_), rBook_fr i3 g1 rfl (w _ ?_ ?_) (w _ ?_ ?_) (fun i h0 h1 => w i ?_ ?_), rPlan_fr i4 rfl (fun i h0 h1 => w i ?_ ?_), rPlot_fr i5 g1 ⟨rfl, rfl, rfl, rfl, rfl⟩ (w _ ?_ ?_) (fun i h0 h1 => w i ?_ ?_), rSale_fr i6 g1 ⟨rfl, rfl, rfl, rfl⟩ (w _ ?_ ?_) (fun i h0 h1 => w i ?_ ?_), rProm_fr i7 g1 ⟨rfl, rfl, rfl, rfl, rfl⟩ (w _ ?_ ?_) (fun i h0 h1 => w i ?_ ?_), rLog_fr i8 g1 ⟨rfl, rfl, rfl⟩ (w _ ?_ ?_) (fun i h0 h1 => w i ?_ ?_), fun k hk => rWant_fb hk w (g10 _ ?_ ?_) (i9 k hk)⟩
  all_goals omega
theorem gW_fb (w : ∀ i, 0 ≤ i → i < 5820 → W' i = W i) (g : gW W) : gW W' := by
  obtain ⟨g1, g2, g3, g4, g5, g6, g7, g8, g9, g10⟩ := g
  refine ⟨gB_fr g1 (fun i h0 h1 => w i ?_ ?_), gSky_fr g2 (fun i h0 h1 => w i ?_ ?_), gBook_fr g3 g1 (w _ ?_ ?_) (w _ ?_ ?_) (fun i h0 h1 => w i ?_ ?_), gPlan_fr g4 (fun i h0 h1 => w i ?_ ?_), gPlot_fr g5 g1 (w _ ?_ ?_) (w _ ?_ ?_) (fun i h0 h1 h2 => w i ?_ ?_), gPay_fr g6 (w _ ?_ ?_) (fun i h0 h1 => w i ?_ ?_), gSale_fr g7 g1 (Int.le_of_eq (w _ ?_ ?_).symm) (w _ ?_ ?_) (fun i h0 h1 => w i ?_ ?_), gProm_fr g8 g1 (Int.le_of_eq (w _ ?_ ?_).symm) (w _ ?_ ?_) (fun i h0 h1 => w i ?_ ?_), gLog_fr g9 g1 (w _ ?_ ?_) (Int.le_of_eq (w _ ?_ ?_).symm) (w _ ?_ ?_) (fun i h0 h1 => w i ?_ ?_), fun k h0 h1 => gWant_fb w ⟨h0, h1⟩ (g10 k h0 h1)⟩
  all_goals omega
end FB
theorem imageT_q {v : Int} (hv : ¬ wr v = 0) (n : Nat) : ∀ (M : xM) (i : Int), 0 ≤ i → i ≤ 5820 → 5820 - i < (n : Int) → fX12_image_L15 n M v i = some (fun a j => if a = 96 ∧ i ≤ j ∧ j < 5820 then M 95 j else M a j) := by
  induction n with
  | zero => intro M i h0 h1 h2; omega
  | succ n ih =>
    intro M i h0 h1 h2
    unfold fX12_image_L15
    rw [wr_id (x := i) (by omega) (by omega), wr_id (x := 5820) (by omega) (by omega), if_neg hv]
    by_cases h : i < 5820
    · rw [if_pos h, xrd_at h0 (by omega) (by omega), xwt_at h0 (by omega) (by omega), ih _ _ (by omega) (by omega) (by omega)]
      congr 1
      funext a j
      rw [xup_o (show 95 ≠ 96 by omega), xup_at]
      split
      · rw [if_pos (by omega)]
      · split
        · rename_i h5
          rw [if_pos (by omega), h5.2]
        · rw [if_neg (by omega)]
    · rw [if_neg h]
      congr 1
      funext a j
      rw [if_neg (by omega)]
theorem imageF_q {v : Int} (hv : wr v = 0) (n : Nat) : ∀ (M : xM) (i : Int), 0 ≤ i → i ≤ 5820 → 5820 - i < (n : Int) → fX12_image_L15 n M v i = some (fun a j => if a = 95 ∧ i ≤ j ∧ j < 5820 then M 96 j else M a j) := by
  induction n with
  | zero => intro M i h0 h1 h2; omega
  | succ n ih =>
    intro M i h0 h1 h2
    unfold fX12_image_L15
    rw [wr_id (x := i) (by omega) (by omega), wr_id (x := 5820) (by omega) (by omega), if_pos hv]
    by_cases h : i < 5820
    · rw [if_pos h, xrd_at h0 (by omega) (by omega), xwt_at h0 (by omega) (by omega), ih _ _ (by omega) (by omega) (by omega)]
      congr 1
      funext a j
      rw [xup_o (show 96 ≠ 95 by omega), xup_at]
      split
      · rw [if_pos (by omega)]
      · split
        · rename_i h5
          rw [if_pos (by omega), h5.2]
        · rw [if_neg (by omega)]
    · rw [if_neg h]
      congr 1
      funext a j
      rw [if_neg (by omega)]
/-- an image is taken: of the class it has been copied already -/
theorem imageT_e {ph : Bool} {c : Int} {M M1 : xM} {a : Int} (I : Inv ph c M) (ha : ¬ wr a = 0) (k : rI (fun o => M1 (o + 110)) (M 95)) (f : ∀ o, o ≠ 0 → o < 111 → M1 o = M o) : yk (fX12_image M1 a) fun z => z.1 = true ∧ Inv true c z.2 := by
  unfold fX12_image
  rw [yk_xj, if_neg ha, yk_xb, imageT_q ha xfuel M1 0 (by omega) (by omega) (by unfold xfuel; omega), yk_some, yk_xj, if_neg ha, yk_xlet, yk_some]
  refine ⟨rfl, ?_⟩
  dsimp only
  have fr : ∀ o, o ≠ 94 → o ≠ 96 → xup (fun a j => if a = 96 ∧ 0 ≤ j ∧ j < 5820 then M1 95 j else M1 a j) 94 4 1 o = M1 o := by
    intro o h1 h2
    rw [xup_o h1]
    funext j
    rw [if_neg (by omega)]
  have f94 : ∀ j, j ≠ 4 → xup (fun a j => if a = 96 ∧ 0 ≤ j ∧ j < 5820 then M1 95 j else M1 a j) 94 4 1 94 j = M1 94 j := by
    intro j h1
    rw [xup_n h1, if_neg (by omega)]
  have f94' : xup (fun a j => if a = 96 ∧ 0 ≤ j ∧ j < 5820 then M1 95 j else M1 a j) 94 4 1 94 4 = 1 := xup_e rfl
  have f96 : ∀ j, 0 ≤ j → j < 5820 → xup (fun a j => if a = 96 ∧ 0 ≤ j ∧ j < 5820 then M1 95 j else M1 a j) 94 4 1 96 j = M 95 j := by
    intro j h1 h2
    rw [xup_o (by omega), if_pos ⟨rfl, h1, h2⟩, f 95 (by omega) (by omega)]
  generalize xup (fun a j => if a = 96 ∧ 0 ≤ j ∧ j < 5820 then M1 95 j else M1 a j) 94 4 1 = M2 at *
  have f2 : ∀ o, o ≠ 0 → o ≠ 94 → o ≠ 96 → o < 111 → M2 o = M o := fun o h1 h2 h3 h4 => by rw [fr o h2 h3, f o h1 h4]
  have f3 : ∀ j, j ≠ 4 → M2 94 j = M 94 j := fun j hj => by rw [f94 j hj, f 94 (by omega) (by omega)]
  have w := f2 95 (by omega) (by omega) (by omega) (by omega)
  obtain ⟨⟨i1, i2, i3, i4, i5, i6, i7, i8, i9⟩, ⟨g1, g2, g3, g4, g5, g6, g7, g8, g9, g10⟩, T, H, Me, K⟩ := I
  refine ⟨?zi, ?zg, rTape_fr T ⟨f2 _ ?_ ?_ ?_ ?_, f2 _ ?_ ?_ ?_ ?_, f2 _ ?_ ?_ ?_ ?_⟩ ⟨f3 _ ?_, f3 _ ?_, f3 _ ?_⟩, rHist_fr H ⟨f2 _ ?_ ?_ ?_ ?_, f2 _ ?_ ?_ ?_ ?_, f2 _ ?_ ?_ ?_ ?_, f2 _ ?_ ?_ ?_ ?_, f2 _ ?_ ?_ ?_ ?_⟩ (fun q hq => f2 _ ?_ ?_ ?_ ?_) (f3 _ ?_) (by rw [w]; exact ⟨rfl, rfl, rfl, rfl⟩), ?zme, ?zk⟩
  case zi =>
    rw [w]
    exact rI_fr ⟨i1, i2, i3, i4, i5, i6, i7, i8, i9⟩ ⟨g1, g2, g3, g4, g5, g6, g7, g8, g9, g10⟩ (fun o h1 h2 => f2 _ (by omega) (by omega) (by omega) (by omega))
  case zg =>
    rw [w]
    exact ⟨g1, g2, g3, g4, g5, g6, g7, g8, g9, g10⟩
  case zme =>
    rw [w]
    refine rMemo_fr Me g10 ⟨f2 _ ?_ ?_ ?_ ?_, f2 _ ?_ ?_ ?_ ?_, f2 _ ?_ ?_ ?_ ?_, f2 _ ?_ ?_ ?_ ?_, f2 _ ?_ ?_ ?_ ?_⟩ (fun k hk => f2 _ ?_ ?_ ?_ ?_) (fun _ _ => rfl) (fun _ _ _ => rfl)
    all_goals omega
  case zk =>
    refine ⟨fun j hj => by rw [f2 108 (by omega) (by omega) (by omega) (by omega)]; exact K.1 j hj, ?_⟩
    rw [if_pos rfl]
    have gw : gW (M 95) := ⟨g1, g2, g3, g4, g5, g6, g7, g8, g9, g10⟩
    refine ⟨f94', rI_fb f96 (rI_fr k gw (fun o h1 h2 => fr _ (by omega) (by omega))) gw, gW_fb f96 gw⟩
  all_goals omega
theorem tc_image {c : Int} {M : xM} {a : Int} (I : Inv true c M) (ha : -2147483648 ≤ a ∧ a < 2147483648) : yk (fX11_image M a) fun q => yk (fX12_image q.2 a) fun z => q.1 = z.1 ∧ Inv true c z.2 := by
  by_cases h : wr a = 0
  · have K := I.2.2.2.2.2
    obtain ⟨K0, K⟩ := K
    rw [if_pos rfl] at K
    unfold fX11_image
    rw [if_pos h, yk_xb]
    refine yk.mono (copy_from K.2.1 K.2.2) ?_
    intro M1 h1
    rw [forget_e, yk_xb, yk_some, forget0_e, yk_xb, yk_some, yk_some]
    have h96 := h1.2 96 (by omega)
    have w4 : xup (xfi M1 47 4 (-1)) 79 0 0 94 = M 94 := by rw [xup_o (by omega), xfi_o (by omega), h1.2 _ (by omega)]
    have e4 : ¬ wr (xup (xfi M1 47 4 (-1)) 79 0 0 94 4) = 0 := by rw [w4, K.1]; decide
    unfold fX12_image
    dsimp only
    rw [yk_xj, if_pos h, if_neg e4, yk_xb, imageF_q h xfuel _ 0 (by omega) (by omega) (by unfold xfuel; omega), yk_some, yk_xj, if_pos h, yk_xb, forgets_e, yk_some, yk_xlet, yk_some]
    refine ⟨rfl, ?_⟩
    dsimp only
    have fr : ∀ o, o ≠ 94 → o ≠ 95 → xup (xup (fun a j => if a = 95 ∧ 0 ≤ j ∧ j < 5820 then xup (xfi M1 47 4 (-1)) 79 0 0 96 j else xup (xfi M1 47 4 (-1)) 79 0 0 a j) 94 3 0) 94 4 1 o = xup (xfi M1 47 4 (-1)) 79 0 0 o := by
      intro o h1 h2
      rw [xup_o h1, xup_o h1]
      funext j
      rw [if_neg (by omega)]
    have f94 : ∀ j, j ≠ 4 → j ≠ 3 → xup (xup (fun a j => if a = 95 ∧ 0 ≤ j ∧ j < 5820 then xup (xfi M1 47 4 (-1)) 79 0 0 96 j else xup (xfi M1 47 4 (-1)) 79 0 0 a j) 94 3 0) 94 4 1 94 j = M 94 j := by
      intro j h1 h2
      rw [xup_n h1, xup_n h2, if_neg (by omega), w4]
    have f944 : xup (xup (fun a j => if a = 95 ∧ 0 ≤ j ∧ j < 5820 then xup (xfi M1 47 4 (-1)) 79 0 0 96 j else xup (xfi M1 47 4 (-1)) 79 0 0 a j) 94 3 0) 94 4 1 94 4 = 1 := xup_e rfl
    have f943 : xup (xup (fun a j => if a = 95 ∧ 0 ≤ j ∧ j < 5820 then xup (xfi M1 47 4 (-1)) 79 0 0 96 j else xup (xfi M1 47 4 (-1)) 79 0 0 a j) 94 3 0) 94 4 1 94 3 = 0 := by rw [xup_n (by omega), xup_e rfl]
    have f95 : ∀ j, 0 ≤ j → j < 5820 → xup (xup (fun a j => if a = 95 ∧ 0 ≤ j ∧ j < 5820 then xup (xfi M1 47 4 (-1)) 79 0 0 96 j else xup (xfi M1 47 4 (-1)) 79 0 0 a j) 94 3 0) 94 4 1 95 j = M 96 j := by
      intro j h1 h2
      rw [xup_o (by omega), xup_o (by omega), if_pos ⟨rfl, h1, h2⟩, xup_o (by omega), xfi_o (by omega)]
      rw [h96]
    generalize xup (xup (fun a j => if a = 95 ∧ 0 ≤ j ∧ j < 5820 then xup (xfi M1 47 4 (-1)) 79 0 0 96 j else xup (xfi M1 47 4 (-1)) 79 0 0 a j) 94 3 0) 94 4 1 = M2 at *
    have f2 : ∀ o, ¬ (1 ≤ o ∧ o ≤ 35) → o ≠ 47 → o ≠ 79 → o ≠ 94 → o ≠ 95 → M2 o = M o := by
      intro o h2 h3 h4 h5 h6
      rw [fr o h5 h6, xup_o h4, xfi_o h3, h1.2 o h2]
    have f1 : ∀ o, 1 ≤ o → o ≤ 35 → M2 o = M1 o := by
      intro o h2 h3
      rw [fr o (by omega) (by omega), xup_o (by omega), xfi_o (by omega)]
    have f79 : ∀ j, j ≠ 0 → M2 79 j = M 79 j := by
      intro j hj
      rw [fr 79 (by omega) (by omega), xup_n hj, xfi_o (by omega), h1.2 79 (by omega)]
    have f790 : M2 79 0 = 0 := by rw [fr 79 (by omega) (by omega), xup_e rfl]
    have f47 : ∀ j, 0 ≤ j → j < 4 → M2 47 j = -1 := by
      intro j h2 h3
      rw [fr 47 (by omega) (by omega), xup_o (by omega), xfi_e h2 h3]
    obtain ⟨⟨i1, i2, i3, i4, i5, i6, i7, i8, i9⟩, ⟨g1, g2, g3, g4, g5, g6, g7, g8, g9, g10⟩, T, H, Me, _⟩ := I
    have hn := H.2.2.1
    have b9 := K.2.2.1
    unfold gB at b9
    have e9 := f95 9 (by omega) (by omega)
    refine ⟨rI_fb f95 (rI_fr h1.1 K.2.2 f1) K.2.2, gW_fb f95 K.2.2, rTape_fr T ⟨f2 _ ?_ ?_ ?_ ?_ ?_, f2 _ ?_ ?_ ?_ ?_ ?_, f2 _ ?_ ?_ ?_ ?_ ?_⟩ ⟨f94 _ ?_ ?_, f94 _ ?_ ?_, f94 _ ?_ ?_⟩, rHist_0 f790 f943 (by rw [e9]; omega) (by rw [f79 1 (by omega)]; exact hn), rMemo_0 Me ⟨f2 _ ?_ ?_ ?_ ?_ ?_, f2 _ ?_ ?_ ?_ ?_ ?_, f2 _ ?_ ?_ ?_ ?_ ?_⟩ f47, ?zk⟩
    case zk =>
      refine ⟨fun j hj => by rw [f2 108 (by omega) (by omega) (by omega) (by omega) (by omega)]; exact K0 j hj, ?_⟩
      rw [if_pos rfl, f2 96 (by omega) (by omega) (by omega) (by omega) (by omega)]
      exact ⟨f944, rI_fr K.2.1 K.2.2 (fun o h1 h2 => f2 _ (by omega) (by omega) (by omega) (by omega) (by omega)), K.2.2⟩
    all_goals omega
  · unfold fX11_image fX11_takeImage
    rw [if_neg h, yk_xb, yk_xj, yk_xb]
    refine yk.mono (copy_to I.1 I.2.1) ?_
    intro M1 h1
    rw [yk_some, yk_some]
    refine yk.mono (imageT_e I h h1.1 (fun o h2 h3 => h1.2 o (by omega))) ?_
    intro z hz
    exact ⟨hz.1.symm, hz.2⟩
