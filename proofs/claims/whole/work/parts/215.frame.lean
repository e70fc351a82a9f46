/-! what a change elsewhere leaves alone -/
section FR
variable {A A' : xM} {W W' : Int → Int}
theorem sL_fr (w : ∀ i, 2320 ≤ i → W' i = W i) {k : Int} (hk : 0 ≤ k) (n : Nat) : ∀ i, 0 ≤ i → sL W' k i n = sL W k i n := by
  induction n with
  | zero => intro i _; rfl
  | succ n ih =>
    intro i hi
    show (_, _) :: _ = (_, _) :: _
    rw [w _ (by omega), w _ (by omega), ih _ (by omega)]
theorem sFr_fr (w : ∀ i, 2320 ≤ i → W' i = W i) {k i : Int} (hk : 0 ≤ k) (hi : 0 ≤ i) : sFr W' k i = sFr W k i := w _ (by omega)
theorem sMi_fr (w : ∀ i, 2320 ≤ i → W' i = W i) {k i : Int} (hk : 0 ≤ k) (hi : 0 ≤ i) : sMi W' k i = sMi W k i := w _ (by omega)
theorem sTo_fr (w : ∀ i, 2320 ≤ i → W' i = W i) {k i : Int} (hk : 0 ≤ k) (hi : 0 ≤ i) : sTo W' k i = sTo W k i := w _ (by omega)
theorem sVa_fr (w : ∀ i, 2320 ≤ i → W' i = W i) {k i : Int} (hk : 0 ≤ k) (hi : 0 ≤ i) (g : gLine W k i) : sVa W' k i = sVa W k i := by
  unfold sVa
  rw [sFr_fr w hk hi, sMi_fr w hk hi, sL_fr w hk _ _ g.1.1]
theorem sCo_fr (w : ∀ i, 2320 ≤ i → W' i = W i) {k i : Int} (hk : 0 ≤ k) (hi : 0 ≤ i) (g : gLine W k i) : sCo W' k i = sCo W k i := by
  unfold sCo
  rw [sTo_fr w hk hi, sMi_fr w hk hi, sL_fr w hk _ _ (Int.le_trans g.1.1 g.1.2.1)]
theorem gLine_fr (w : ∀ i, 2320 ≤ i → W' i = W i) {k i : Int} (hk : 0 ≤ k) (hi : 0 ≤ i) (g : gLine W k i) : gLine W' k i := by
  have h := g
  unfold gLine at h ⊢
  rw [sVa_fr w hk hi g, sCo_fr w hk hi g, sFr_fr w hk hi, sMi_fr w hk hi, sTo_fr w hk hi]
  exact h
theorem gWant_fr (w : ∀ i, 2320 ≤ i → W' i = W i) {k : Int} (hk : 0 ≤ k) (g : gWant W k) : gWant W' k := by
  have e : W' (2320 + k) = W (2320 + k) := w _ (by omega)
  unfold gWant
  rw [e]
  exact ⟨g.1, fun i h0 h1 => gLine_fr w hk h0 (g.2 i h0 h1)⟩
theorem cLine_fr (w : ∀ i, 2320 ≤ i → W' i = W i) {k i : Int} (hk : 0 ≤ k) (hi : 0 ≤ i) (g : gLine W k i) : cLine W' k i = cLine W k i := by
  unfold cLine
  rw [sVa_fr w hk hi g, sCo_fr w hk hi g, sMi_fr w hk hi, sTo_fr w hk hi]
theorem cAll_fr (w : ∀ i, 2320 ≤ i → W' i = W i) {k : Int} (hk : 0 ≤ k) (n : Nat) (g : ∀ i, 0 ≤ i → i < (n : Int) → gLine W k i) : cAll W' k n = cAll W k n := by
  induction n with
  | zero => rfl
  | succ n ih =>
    show _ ++ _ = _ ++ _
    rw [ih (fun i h0 h1 => g i h0 (by omega)), cLine_fr w hk (by omega) (g _ (by omega) (by omega))]
theorem cOf_fr (w : ∀ i, 2320 ≤ i → W' i = W i) {k : Int} (hk : 0 ≤ k) (g : gWant W k) : cOf W' k = cOf W k := by
  unfold cOf
  rw [w _ (by omega), cAll_fr w hk _ (fun i h0 h1 => g.2 i h0 (by have := g.1; omega))]
theorem noDay_fr (w : ∀ i, 2320 ≤ i → W' i = W i) {k : Int} (hk : 0 ≤ k) (g : gWant W k) (h : noDay W k) : noDay W' k := by
  unfold noDay at h ⊢
  rw [w (2320 + k) (by omega)]
  intro i h0 h1
  rw [sVa_fr w hk h0 (g.2 i h0 h1), sCo_fr w hk h0 (g.2 i h0 h1)]
  exact h i h0 h1
theorem rWant_fr {k : Nat} (w : ∀ i, 2320 ≤ i → W' i = W i) (a1 : A' (28 + 2 * k) = A (28 + 2 * k)) (a2 : A' (29 + 2 * k) = A (29 + 2 * k)) (g : gWant W k) (h : rWant A W k) : rWant A' W' k := by
  unfold rWant at h ⊢
  rw [cOf_fr w (by omega) g, w _ (by omega), a1, a2]
  exact ⟨h.1, h.2.1, h.2.2.1, h.2.2.2.1, h.2.2.2.2.1, fun e => noDay_fr w (by omega) g (h.2.2.2.2.2 e)⟩
theorem sLine_fr (w : ∀ i, 2320 ≤ i → W' i = W i) {F : Int → Int} {k i : Int} (hk : 0 ≤ k) (hi : 0 ≤ i) (g : gLine W k i) : sLine W' F k i = sLine W F k i := by
  unfold sLine
  rw [sVa_fr w hk hi g, sCo_fr w hk hi g, sMi_fr w hk hi, sTo_fr w hk hi]
theorem sSum_fr (w : ∀ i, 2320 ≤ i → W' i = W i) {F : Int → Int} {k : Int} (hk : 0 ≤ k) (n : Nat) (g : ∀ i, 0 ≤ i → i < (n : Int) → gLine W k i) : sSum W' F k n = sSum W F k n := by
  induction n with
  | zero => rfl
  | succ n ih =>
    show _ + _ = _ + _
    rw [ih (fun i h0 h1 => g i h0 (by omega)), sLine_fr w hk (by omega) (g _ (by omega) (by omega))]
theorem sF_fr (w : ∀ i, 620 ≤ i → i < 1484 → W' i = W i) {place day made : Int} (hp : 0 ≤ place ∧ place < 24) (hd : 0 ≤ day) : sF W' place day made = sF W place day made := by
  funext s
  unfold sF
  by_cases h : s = 2 ∨ s = 3 ∨ s = 4
  · rw [w _ (by omega) (by omega)]
  · rw [if_neg h, if_neg h]
theorem sVal_fr (w : ∀ i, 2320 ≤ i → W' i = W i) (w2 : ∀ i, 620 ≤ i → i < 1484 → W' i = W i) {k place day made : Int} (hk : 0 ≤ k) (g : gWant W k) (hp : 0 ≤ place ∧ place < 24) (hd : 0 ≤ day) : sVal W' k place day made = sVal W k place day made := by
  unfold sVal
  rw [sF_fr w2 hp hd, w _ (by omega), sSum_fr w hk _ (fun i h0 h1 => g.2 i h0 (by have := g.1; omega))]
theorem rB_fr (h : rB A W) (a : A' 1 = A 1 ∧ A' 5 = A 5 ∧ A' 12 = A 12 ∧ A' 17 = A 17 ∧ A' 23 = A 23) (w : ∀ i, 0 ≤ i → i ≤ 9 → W' i = W i) : rB A' W' := by
  unfold rB at *
  rw [a.1, a.2.1, a.2.2.1, a.2.2.2.1, a.2.2.2.2, w 0, w 1, w 2, w 3, w 4, w 5, w 6, w 7, w 8, w 9]
  · exact h
  all_goals omega
theorem gB_fr (h : gB W) (w : ∀ i, 0 ≤ i → i ≤ 9 → W' i = W i) : gB W' := by
  unfold gB at *
  rw [w 0, w 1, w 2, w 3, w 4, w 5, w 6, w 7, w 8, w 9]
  · exact h
  all_goals omega
theorem rSky_fr (h : rSky A W) (a : A' 2 = A 2) (w : ∀ i, 620 ≤ i → i < 1484 → W' i = W i) : rSky A' W' := by
  intro i h0 h1
  rw [a, w _ (by omega) (by omega)]
  exact h i h0 h1
theorem gSky_fr (h : gSky W) (w : ∀ i, 620 ≤ i → i < 1484 → W' i = W i) : gSky W' := by
  intro i h0 h1
  rw [w _ (by omega) (by omega)]
  exact h i h0 h1
theorem rBook_fr (h : rBook A W) (g : gB W) (a : A' 3 = A 3) (w2 : W' 2 = W 2) (w9 : W' 9 = W 9) (w : ∀ i, 1490 ≤ i → i < 2310 → W' i = W i) : rBook A' W' := by
  intro i h0 h1
  have := g.2.2.2.2.2
  rw [w9] at h1
  rw [a, w2, w9, w _ (by omega) (by omega)]
  exact h i h0 h1
theorem gBook_fr (h : gBook W) (g : gB W) (w2 : W' 2 = W 2) (w9 : W' 9 = W 9) (w : ∀ i, 1490 ≤ i → i < 2310 → W' i = W i) : gBook W' := by
  intro i h0 h1
  have := g.2.2.2.2.2
  rw [w9] at h1
  rw [w2, w9, w _ (by omega) (by omega), w _ (by omega) (by omega)]
  exact h i h0 h1
theorem rPlan_fr (h : rPlan A W) (a : A' 4 = A 4) (w : ∀ i, 70 ≤ i → i < 130 → W' i = W i) : rPlan A' W' := by
  intro i h0 h1
  rw [a, w _ (by omega) (by omega)]
  exact h i h0 h1
theorem gPlan_fr (h : gPlan W) (w : ∀ i, 70 ≤ i → i < 130 → W' i = W i) : gPlan W' := by
  intro i h0 h1
  rw [w _ (by omega) (by omega)]
  exact h i h0 h1
theorem rPlot_fr (h : rPlot A W) (g : gB W) (a : A' 6 = A 6 ∧ A' 7 = A 7 ∧ A' 8 = A 8 ∧ A' 9 = A 9 ∧ A' 10 = A 10) (w5 : W' 5 = W 5) (w : ∀ i, 20 ≤ i → i < 70 → W' i = W i) : rPlot A' W' := by
  intro i h0 h1
  have := g.2.1
  rw [w5] at h1
  rw [a.1, a.2.1, a.2.2.1, a.2.2.2.1, a.2.2.2.2, w (20 + 4 * i), w (21 + 4 * i), w (22 + 4 * i), w (23 + 4 * i), w (60 + i)]
  · exact h i h0 h1
  all_goals omega
theorem gPlot_fr (h : gPlot W) (g : gB W) (w0 : W' 0 = W 0) (w5 : W' 5 = W 5) (w : ∀ i, 20 ≤ i → i < 60 → i % 4 ≠ 3 → W' i = W i) : gPlot W' := by
  intro i h0 h1
  have := g.2.1
  rw [w5] at h1
  rw [w0, w (20 + 4 * i), w (21 + 4 * i), w (22 + 4 * i)]
  · exact h i h0 h1
  all_goals omega
theorem gPay_fr (h : gPay W) (w5 : W' 5 = W 5) (w : ∀ i, 60 ≤ i → i < 70 → W' i = W i) : gPay W' := by
  intro i h0 h1
  rw [w5, w _ (by omega) (by omega)]
  exact h i h0 h1
theorem rSale_fr (h : rSale A W) (g : gB W) (a : A' 13 = A 13 ∧ A' 14 = A 14 ∧ A' 15 = A 15 ∧ A' 16 = A 16) (w6 : W' 6 = W 6) (w : ∀ i, 130 ≤ i → i < 370 → W' i = W i) : rSale A' W' := by
  intro i h0 h1
  have := g.2.2.1
  rw [w6] at h1
  rw [a.1, a.2.1, a.2.2.1, a.2.2.2, w (130 + 4 * i), w (131 + 4 * i), w (132 + 4 * i), w (133 + 4 * i)]
  · exact h i h0 h1
  all_goals omega
theorem gSale_fr (h : gSale W) (g : gB W) (w5 : W 5 ≤ W' 5) (w6 : W' 6 = W 6) (w : ∀ i, 130 ≤ i → i < 370 → W' i = W i) : gSale W' := by
  intro i h0 h1
  have := g.2.2.1
  rw [w6] at h1
  have q := h i h0 h1
  rw [w (130 + 4 * i), w (131 + 4 * i), w (132 + 4 * i), w (133 + 4 * i)]
  all_goals omega
theorem rProm_fr (h : rProm A W) (g : gB W) (a : A' 17 = A 17 ∧ A' 18 = A 18 ∧ A' 19 = A 19 ∧ A' 20 = A 20 ∧ A' 21 = A 21) (w7 : W' 7 = W 7) (w : ∀ i, 370 ≤ i → i < 490 → W' i = W i) : rProm A' W' := by
  unfold rProm
  rw [a.1, w7]
  refine ⟨h.1, ?_⟩
  intro i h0 h1
  have := g.2.2.2.1
  rw [a.2.1, a.2.2.1, a.2.2.2.1, a.2.2.2.2, w (370 + 5 * i), w (371 + 5 * i), w (372 + 5 * i), w (373 + 5 * i), w (374 + 5 * i)]
  · exact h.2 i h0 h1
  all_goals omega
theorem nOwn_fr {o : Int} (n : Nat) (hn : n ≤ 24) (w : ∀ i, 370 ≤ i → i < 490 → W' i = W i) : nOwn W' o n = nOwn W o n := by
  induction n with
  | zero => rfl
  | succ n ih =>
    show _ + _ = _ + _
    rw [ih (by omega), w _ (by omega) (by omega)]
theorem gProm_fr (h : gProm W) (g : gB W) (w5 : W 5 ≤ W' 5) (w7 : W' 7 = W 7) (w : ∀ i, 370 ≤ i → i < 490 → W' i = W i) : gProm W' := by
  have := g.2.2.2.1
  unfold gProm
  rw [w7]
  refine ⟨?_, ?_⟩
  · intro i h0 h1
    have q := h.1 i h0 h1
    rw [w (370 + 5 * i), w (371 + 5 * i), w (372 + 5 * i), w (373 + 5 * i), w (374 + 5 * i)]
    all_goals omega
  · intro o
    rw [nOwn_fr _ (by omega) w]
    exact h.2 o
theorem rLog_fr (h : rLog A W) (g : gB W) (a : A' 24 = A 24 ∧ A' 25 = A 25 ∧ A' 26 = A 26) (w8 : W' 8 = W 8) (w : ∀ i, 490 ≤ i → i < 620 → W' i = W i) : rLog A' W' := by
  intro i h0 h1
  have := g.2.2.2.2.1
  rw [w8] at h1
  rw [a.1, a.2.1, a.2.2, w (490 + 3 * i), w (491 + 3 * i), w (492 + 3 * i)]
  · exact h i h0 h1
  all_goals omega
theorem gLog_fr (h : gLog W) (g : gB W) (w0 : W' 0 = W 0) (w5 : W 5 ≤ W' 5) (w8 : W' 8 = W 8) (w : ∀ i, 490 ≤ i → i < 620 → W' i = W i) : gLog W' := by
  intro i h0 h1
  have := g.2.2.2.2.1
  rw [w8] at h1
  have q := h i h0 h1
  rw [w0, w (490 + 3 * i), w (491 + 3 * i), w (492 + 3 * i)]
  all_goals omega
end FR
section FR2
variable {M M' : xM} {c : Int} {ph : Bool}
theorem rTape_fr (h : rTape M) (a : M' 36 = M 36 ∧ M' 37 = M 37 ∧ M' 100 = M 100) (m : M' 94 12 = M 94 12 ∧ M' 94 19 = M 94 19 ∧ M' 94 21 = M 94 21) : rTape M' := by
  unfold rTape at *
  rw [a.1, a.2.1, a.2.2, m.1, m.2.1, m.2.2]
  exact h
theorem rHist_0 (a : M' 79 0 = 0) (m : M' 94 3 = 0) (b : 0 ≤ M' 95 9) (n : 0 ≤ M' 79 1 ∧ M' 79 1 < 10) : rHist M' := by
  unfold rHist
  rw [a, m]
  exact ⟨rfl, by omega, n, fun i h0 h1 => by omega⟩
theorem rHist_fr (h : rHist M) (a : M' 79 = M 79 ∧ M' 80 = M 80 ∧ M' 81 = M 81 ∧ M' 82 = M 82 ∧ M' 97 = M 97) (b : ∀ q : Nat, q < 10 → M' (84 + q) = M (84 + q)) (m : M' 94 3 = M 94 3) (w : M' 95 0 = M 95 0 ∧ M' 95 2 = M 95 2 ∧ M' 95 5 = M 95 5 ∧ M' 95 9 = M 95 9) : rHist M' := by
  unfold rHist at *
  rw [a.1, a.2.1, a.2.2.1, a.2.2.2.1, a.2.2.2.2, m, w.1, w.2.1, w.2.2.1, w.2.2.2]
  refine ⟨h.1, h.2.1, h.2.2.1, ?_⟩
  intro i h0 h1 q hq
  rw [b q (by omega)]
  exact h.2.2.2 i h0 h1 q hq
theorem rMemo_fr {W W' : Int → Int} (h : rMemo c M W) (g : ∀ k : Int, 0 ≤ k → k < 4 → gWant W k) (a : M' 43 = M 43 ∧ M' 44 = M 44 ∧ M' 45 = M 45 ∧ M' 46 = M 46 ∧ M' 47 = M 47) (b : ∀ k : Nat, k < 4 → M' (28 + 2 * k) = M (28 + 2 * k)) (w : ∀ i, 2320 ≤ i → W' i = W i) (w2 : ∀ i, 620 ≤ i → i < 1484 → W' i = W i) : rMemo c M' W' := by
  unfold rMemo at *
  rw [a.1, a.2.1, a.2.2.1, a.2.2.2.1, a.2.2.2.2]
  refine ⟨h.1, h.2.1, ?_⟩
  intro k hk
  rw [b k hk]
  refine ⟨(h.2.2 k hk).1, (h.2.2 k hk).2.1, ?_⟩
  intro place made day hp hm hd e1 e2
  rw [sVal_fr w w2 (by omega) (g k (by omega) (by omega)) hp hd.1]
  exact (h.2.2 k hk).2.2 place made day hp hm hd e1 e2
/-- nothing is kept of worths -/
theorem rMemo_0 {W W' : Int → Int} (h : rMemo c M W) (a : M' 43 = M 43 ∧ M' 45 = M 45 ∧ M' 46 = M 46) (b : ∀ i, 0 ≤ i → i < 4 → M' 47 i = -1) : rMemo c M' W' := by
  unfold rMemo at *
  rw [a.1, a.2.1, a.2.2]
  refine ⟨h.1, h.2.1, ?_⟩
  intro k hk
  rw [b k (by omega) (by omega)]
  refine ⟨(h.2.2 k hk).1, by omega, ?_⟩
  intro place made day hp hm hd e1 e2
  exfalso
  split at e1 <;> omega
theorem rMemo_le {c' : Int} {W : Int → Int} (h : rMemo c M W) (hc : c ≤ c') : rMemo c' M W := ⟨⟨h.1.1, Int.le_trans h.1.2 hc⟩, h.2⟩
theorem rI_fr {A A' : xM} {W : Int → Int} (h : rI A W) (g : gW W) (a : ∀ o, 1 ≤ o → o ≤ 35 → A' o = A o) : rI A' W := by
  obtain ⟨i1, i2, i3, i4, i5, i6, i7, i8, i9⟩ := h
  obtain ⟨g1, g2, g3, g4, g5, g6, g7, g8, g9, g10⟩ := g
  refine ⟨rB_fr i1 ⟨a _ ?_ ?_, a _ ?_ ?_, a _ ?_ ?_, a _ ?_ ?_, a _ ?_ ?_⟩ (fun _ _ _ => rfl), rSky_fr i2 (a _ ?_ ?_) (fun _ _ _ => rfl), rBook_fr i3 g1 (a _ ?_ ?_) rfl rfl (fun _ _ _ => rfl), rPlan_fr i4 (a _ ?_ ?_) (fun _ _ _ => rfl), rPlot_fr i5 g1 ⟨a _ ?_ ?_, a _ ?_ ?_, a _ ?_ ?_, a _ ?_ ?_, a _ ?_ ?_⟩ rfl (fun _ _ _ => rfl), rSale_fr i6 g1 ⟨a _ ?_ ?_, a _ ?_ ?_, a _ ?_ ?_, a _ ?_ ?_⟩ rfl (fun _ _ _ => rfl), rProm_fr i7 g1 ⟨a _ ?_ ?_, a _ ?_ ?_, a _ ?_ ?_, a _ ?_ ?_, a _ ?_ ?_⟩ rfl (fun _ _ _ => rfl), rLog_fr i8 g1 ⟨a _ ?_ ?_, a _ ?_ ?_, a _ ?_ ?_⟩ rfl (fun _ _ _ => rfl), fun k hk => rWant_fr (fun _ _ => rfl) (a _ ?_ ?_) (a _ ?_ ?_) (g10 _ ?_ ?_) (i9 k hk)⟩
  all_goals omega
theorem rKept_fr (h : rKept ph M) (a : ∀ o, 111 ≤ o → M' o = M o) (b : M' 96 = M 96) (m : M' 94 4 = M 94 4) (s0 : M' 108 = M 108) : rKept ph M' := by
  obtain ⟨hs, h⟩ := h
  refine ⟨fun j hj => by rw [s0]; exact hs j hj, ?_⟩
  split
  · rename_i hp
    rw [if_pos hp] at h
    rw [m, b]
    exact ⟨h.1, rI_fr h.2.1 h.2.2 (fun o h1 _ => a _ (by omega)), h.2.2⟩
  · rename_i hp
    rw [if_neg hp] at h
    rw [m]
    exact h
end FR2
