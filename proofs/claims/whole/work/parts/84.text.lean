/-! text, the call -/
section WE
variable {W W' : Int → Int} {k : Int}
theorem sL_w (w : wE W W' k) (n : Nat) : ∀ i : Int, 0 ≤ i → i + n ≤ 409 → sL W' k i n = sL W k i n := by
  induction n with
  | zero => intro i _ _; rfl
  | succ n ih =>
    intro i hi hn
    have e1 := w.2.2 (2 * i) (by omega) (by omega)
    have e2 := w.2.2 (2 * i + 1) (by omega) (by omega)
    rw [← Int.add_assoc] at e2
    show (_, _) :: _ = (_, _) :: _
    rw [e1, e2, ih _ (by omega) (by omega)]
theorem sPos_w (w : wE W W' k) {i : Int} (h0 : 0 ≤ i) (h1 : i < 16) : sFr W' k i = sFr W k i ∧ sMi W' k i = sMi W k i ∧ sTo W' k i = sTo W k i := w.2.1 i h0 h1
theorem sVa_w (w : wE W W' k) {i : Int} (h0 : 0 ≤ i) (h1 : i < 16) (g : gLine W k i) : sVa W' k i = sVa W k i := by
  have p := sPos_w w h0 h1
  have g1 := g.1
  unfold sVa
  rw [p.1, p.2.1]
  exact sL_w w _ _ (by omega) (by omega)
theorem sCo_w (w : wE W W' k) {i : Int} (h0 : 0 ≤ i) (h1 : i < 16) (g : gLine W k i) : sCo W' k i = sCo W k i := by
  have p := sPos_w w h0 h1
  have g1 := g.1
  unfold sCo
  rw [p.2.2, p.2.1]
  exact sL_w w _ _ (by omega) (by omega)
theorem gLine_w (w : wE W W' k) {i : Int} (h0 : 0 ≤ i) (h1 : i < 16) (g : gLine W k i) : gLine W' k i := by
  have p := sPos_w w h0 h1
  have h := g
  unfold gLine at h ⊢
  rw [sVa_w w h0 h1 g, sCo_w w h0 h1 g, p.1, p.2.1, p.2.2]
  exact h
theorem gWant_w (w : wE W W' k) (g : gWant W k) : gWant W' k := by
  unfold gWant
  rw [w.1]
  exact ⟨g.1, fun i h0 h1 => gLine_w w h0 (by have := g.1; omega) (g.2 i h0 h1)⟩
theorem cAll_w (w : wE W W' k) (n : Nat) (hn : n ≤ 16) (g : ∀ i, 0 ≤ i → i < (n : Int) → gLine W k i) : cAll W' k n = cAll W k n := by
  induction n with
  | zero => rfl
  | succ n ih =>
    have gn := g n (by omega) (by omega)
    have p := sPos_w w (i := n) (by omega) (by omega)
    show _ ++ _ = _ ++ _
    rw [ih (by omega) (fun i h0 h1 => g i h0 (by omega))]
    congr 1
    unfold cLine
    rw [sVa_w w (by omega) (by omega) gn, sCo_w w (by omega) (by omega) gn, p.2.1, p.2.2]
theorem cOf_w (w : wE W W' k) (g : gWant W k) : cOf W' k = cOf W k := by
  have g1 := g.1
  unfold cOf
  rw [w.1, cAll_w w _ (by omega) (fun i h0 h1 => g.2 i h0 (by omega))]
theorem noDay_w (w : wE W W' k) (g : gWant W k) (h : noDay W k) : noDay W' k := by
  have g1 := g.1
  unfold noDay at h ⊢
  rw [w.1]
  intro i h0 h1
  rw [sVa_w w h0 (by omega) (g.2 i h0 h1), sCo_w w h0 (by omega) (g.2 i h0 h1)]
  exact h i h0 h1
end WE
theorem rWant_w {A A' : xM} {W W' : Int → Int} {k : Nat} (w : wE W W' k) (a1 : A' (28 + 2 * k) = A (28 + 2 * k)) (a2 : A' (29 + 2 * k) = A (29 + 2 * k)) (g : gWant W k) (h : rWant A W k) : rWant A' W' k := by
  unfold rWant at h ⊢
  rw [cOf_w w g, w.1, a1, a2]
  exact ⟨h.1, h.2.1, h.2.2.1, h.2.2.2.1, h.2.2.2.2.1, fun e => noDay_w w g (h.2.2.2.2.2 e)⟩
theorem Inv_text {ph : Bool} {c : Int} {M M' : xM} (I : Inv ph c M) (fo : ∀ o, o ≠ 36 → (o < 38 ∨ 42 < o) → o ≠ 47 → (o < 28 ∨ 35 < o) → o ≠ 94 → o ≠ 95 → o ≠ 98 → o ≠ 99 → M' o = M o) (t0 : M' 36 0 = 0) (t12 : M' 94 12 = 0) (t1 : M' 36 1 = M' 94 19) (t2 : M' 36 2 = M' 94 21) (h94 : M' 94 3 = M 94 3 ∧ M' 94 4 = M 94 4) (w : ∀ j, j < 2320 → M' 95 j = M 95 j) (wn : ∀ k, k < 4 → rWant M' (M' 95) k) (gw : ∀ k : Int, 0 ≤ k → k < 4 → gWant (M' 95) k) (me : rMemo c M' (M' 95)) : Inv ph c M' := by
  obtain ⟨⟨i1, i2, i3, i4, i5, i6, i7, i8, i9⟩, ⟨g1, g2, g3, g4, g5, g6, g7, g8, g9, g10⟩, T, H, Me, K⟩ := I
  have f : ∀ o, (o < 28 ∨ 48 ≤ o) → o ≠ 94 → o ≠ 95 → o ≠ 98 → o ≠ 99 → M' o = M o := fun o a b c d e => fo o (by omega) (by omega) (by omega) (by omega) b c d e
  refine ⟨⟨rB_fr i1 ⟨f _ ?_ ?_ ?_ ?_ ?_, f _ ?_ ?_ ?_ ?_ ?_, f _ ?_ ?_ ?_ ?_ ?_, f _ ?_ ?_ ?_ ?_ ?_, f _ ?_ ?_ ?_ ?_ ?_⟩ (fun j _ _ => w j ?_), rSky_fr i2 (f _ ?_ ?_ ?_ ?_ ?_) (fun j _ _ => w j ?_), rBook_fr i3 g1 (f _ ?_ ?_ ?_ ?_ ?_) (w _ ?_) (w _ ?_) (fun j _ _ => w j ?_), rPlan_fr i4 (f _ ?_ ?_ ?_ ?_ ?_) (fun j _ _ => w j ?_), rPlot_fr i5 g1 ⟨f _ ?_ ?_ ?_ ?_ ?_, f _ ?_ ?_ ?_ ?_ ?_, f _ ?_ ?_ ?_ ?_ ?_, f _ ?_ ?_ ?_ ?_ ?_, f _ ?_ ?_ ?_ ?_ ?_⟩ (w _ ?_) (fun j _ _ => w j ?_), rSale_fr i6 g1 ⟨f _ ?_ ?_ ?_ ?_ ?_, f _ ?_ ?_ ?_ ?_ ?_, f _ ?_ ?_ ?_ ?_ ?_, f _ ?_ ?_ ?_ ?_ ?_⟩ (w _ ?_) (fun j _ _ => w j ?_), rProm_fr i7 g1 ⟨f _ ?_ ?_ ?_ ?_ ?_, f _ ?_ ?_ ?_ ?_ ?_, f _ ?_ ?_ ?_ ?_ ?_, f _ ?_ ?_ ?_ ?_ ?_, f _ ?_ ?_ ?_ ?_ ?_⟩ (w _ ?_) (fun j _ _ => w j ?_), rLog_fr i8 g1 ⟨f _ ?_ ?_ ?_ ?_ ?_, f _ ?_ ?_ ?_ ?_ ?_, f _ ?_ ?_ ?_ ?_ ?_⟩ (w _ ?_) (fun j _ _ => w j ?_), wn⟩, ⟨gB_fr g1 (fun j _ _ => w j ?_), gSky_fr g2 (fun j _ _ => w j ?_), gBook_fr g3 g1 (w _ ?_) (w _ ?_) (fun j _ _ => w j ?_), gPlan_fr g4 (fun j _ _ => w j ?_), gPlot_fr g5 g1 (w _ ?_) (w _ ?_) (fun j _ _ _ => w j ?_), gPay_fr g6 (w _ ?_) (fun j _ _ => w j ?_), gSale_fr g7 g1 (by rw [w 5 (by omega)]; omega) (w _ ?_) (fun j _ _ => w j ?_), gProm_fr g8 g1 (by rw [w 5 (by omega)]; omega) (w _ ?_) (fun j _ _ => w j ?_), gLog_fr g9 g1 (w _ ?_) (by rw [w 5 (by omega)]; omega) (w _ ?_) (fun j _ _ => w j ?_), gw⟩, ?T, rHist_fr H ⟨f _ ?_ ?_ ?_ ?_ ?_, f _ ?_ ?_ ?_ ?_ ?_, f _ ?_ ?_ ?_ ?_ ?_, f _ ?_ ?_ ?_ ?_ ?_, f _ ?_ ?_ ?_ ?_ ?_⟩ (fun q hq => f _ ?_ ?_ ?_ ?_ ?_) h94.1 ⟨w _ ?_, w _ ?_, w _ ?_, w _ ?_⟩, me, rKept_fr K (fun o ho => f _ ?_ ?_ ?_ ?_ ?_) (f _ ?_ ?_ ?_ ?_ ?_) h94.2 (f _ ?_ ?_ ?_ ?_ ?_)⟩
  case T => exact ⟨by rw [t0, t12], by omega, t1, t2, fun i i0 i1 => by omega⟩
  all_goals omega
theorem nw {k : Nat} (hk : k < 4) : (28 + 2 * k ≠ 94 ∧ 28 + 2 * k ≠ 95 ∧ 28 + 2 * k ≠ 98 ∧ 28 + 2 * k ≠ 99 ∧ 28 + 2 * k ≠ 47 ∧ 28 + 2 * k ≠ 36 ∧ (28 + 2 * k < 38 ∨ 42 < 28 + 2 * k)) ∧ (29 + 2 * k ≠ 94 ∧ 29 + 2 * k ≠ 95 ∧ 29 + 2 * k ≠ 98 ∧ 29 + 2 * k ≠ 99 ∧ 29 + 2 * k ≠ 47 ∧ 29 + 2 * k ≠ 36 ∧ (29 + 2 * k < 38 ∨ 42 < 29 + 2 * k)) := by omega
theorem nw2 {k k' : Nat} (e : k' ≠ k) : 28 + 2 * k' ≠ 28 + 2 * k ∧ 28 + 2 * k' ≠ 28 + 2 * k + 1 ∧ 29 + 2 * k' ≠ 28 + 2 * k ∧ 29 + 2 * k' ≠ 28 + 2 * k + 1 := by omega
theorem rWant_mk {A B : xM} {W : Int → Int} {k : Nat} {ls : List (St × St)} (a1 : A (28 + 2 * k) = B (28 + 2 * k)) (a2 : A (29 + 2 * k) = B (29 + 2 * k)) (hw : W (2320 + (k : Int)) = ls.length) (h1 : cOf W k = cdL ls) (h2 : (cdL ls).length ≤ 400) (h3 : (∀ q ∈ gsL ls, q.1 ≠ 6) → noDay W k) (y3 : B (28 + 2 * k) 0 = ls.length ∧ B (28 + 2 * k) 1 = (cdL ls).length) (y4 : ∀ i : Nat, i < (cdL ls).length → B (28 + 2 * k + 1) i = (cdL ls).getD i 0) (y5 : (B (28 + 2 * k) 2 = 0 ∨ B (28 + 2 * k) 2 = 1) ∧ (B (28 + 2 * k) 2 = 0 → ∀ q ∈ gsL ls, q.1 ≠ 6)) : rWant A W k := by
  have e29 : 28 + 2 * k + 1 = 29 + 2 * k := by omega
  rw [e29] at y4
  unfold rWant
  rw [h1, a1, a2]
  exact ⟨by rw [y3.1, hw], y3.2, h2, y4, y5.1, fun w => h3 (y5.2 w)⟩
/-- a text that was read -/
theorem text_ok {ph : Bool} {c : Int} {M Q Z : xM} {k : Nat} {ls : List (St × St)} (I : Inv ph c M) (hk : k < 4) (f1 : ∀ x, x ≠ 36 → (x < 38 ∨ 42 < x) → x ≠ 28 + 2 * k → x ≠ 28 + 2 * k + 1 → Q x = M x) (f0 : Q 36 0 = 0) (hl1 : (cdL ls).length ≤ 400) (hl2 : ls.length ≤ 16) (hl3 : ∀ l ∈ ls, okL l) (y2 : Q 36 1 = 0 ∧ Q 36 2 = -1) (y3 : Q (28 + 2 * k) 0 = ls.length ∧ Q (28 + 2 * k) 1 = (cdL ls).length) (y4 : ∀ i : Nat, i < (cdL ls).length → Q (28 + 2 * k + 1) i = (cdL ls).getD i 0) (y5 : (Q (28 + 2 * k) 2 = 0 ∨ Q (28 + 2 * k) 2 = 1) ∧ (Q (28 + 2 * k) 2 = 0 → ∀ q ∈ gsL ls, q.1 ≠ 6)) (zo : ∀ o, o ≠ 94 → o ≠ 95 → o ≠ 98 → o ≠ 99 → o ≠ 47 → Z o = Q o) (z47 : ∀ i, 0 ≤ i → i < 4 → Z 47 i = -1) (zj : ∀ j, j < 10 → Z 94 j = M 94 j) (z12 : Z 94 12 = 0) (z5 : Z 94 19 = 0 ∧ Z 94 21 = -1) (z6 : wT (M 95) (Z 95) k ls) : Inv ph c Z := by
  obtain ⟨cO1, cO2, cO3⟩ := wT_all z6 hl3 hl1 hl2
  have gM := I.2.1.2.2.2.2.2.2.2.2.2
  have rM := I.1.2.2.2.2.2.2.2.2
  have me := I.2.2.2.2.1
  have z36 := zo 36 (by omega) (by omega) (by omega) (by omega) (by omega)
  have wo : ∀ k' : Nat, k' < 4 → k' ≠ k → wE (M 95) (Z 95) (k' : Int) := fun k' h1 h2 => z6.2.2.2 k' (by omega) (by omega) (by omega)
  have own : rWant Z (Z 95) k := rWant_mk (zo _ (nw hk).1.1 (nw hk).1.2.1 (nw hk).1.2.2.1 (nw hk).1.2.2.2.1 (nw hk).1.2.2.2.2.1) (zo _ (nw hk).2.1 (nw hk).2.2.1 (nw hk).2.2.2.1 (nw hk).2.2.2.2.1 (nw hk).2.2.2.2.2.1) z6.1.1 cO1 hl1 cO3 y3 y4 y5
  have oth : ∀ k' : Nat, k' < 4 → k' ≠ k → rWant Z (Z 95) k' := by
    intro k' hk' e
    have n1 := nw hk'
    have n2 := nw2 e
    refine rWant_w (wo k' hk' e) ?_ ?_ (gM k' (by omega) (by omega)) (rM k' hk')
    · rw [zo _ n1.1.1 n1.1.2.1 n1.1.2.2.1 n1.1.2.2.2.1 n1.1.2.2.2.2.1]
      exact f1 _ n1.1.2.2.2.2.2.1 n1.1.2.2.2.2.2.2 n2.1 n2.2.1
    · rw [zo _ n1.2.1 n1.2.2.1 n1.2.2.2.1 n1.2.2.2.2.1 n1.2.2.2.2.2.1]
      exact f1 _ n1.2.2.2.2.2.2.1 n1.2.2.2.2.2.2.2 n2.2.2.1 n2.2.2.2
  have gw : ∀ k' : Int, 0 ≤ k' → k' < 4 → gWant (Z 95) k' := by
    intro k' h0 h1
    obtain ⟨x, rfl⟩ := Int.eq_ofNat_of_zero_le h0
    by_cases e : x = k
    · rw [e]; exact cO2
    · exact gWant_w (wo x (by omega) e) (gM x (by omega) (by omega))
  have wl := z6.2.2.1
  clear z6 cO1 cO2 cO3 y3 y4 y5 hl1 hl2 hl3 gM rM wo
  refine Inv_text I (fun o h1 h2 h3 h4 h5 h6 h7 h8 => by rw [zo o h5 h6 h7 h8 h3]; exact f1 o h1 h2 (by omega) (by omega)) (by rw [z36]; exact f0) z12 (by rw [z36, y2.1, z5.1]) (by rw [z36, y2.2, z5.2]) ⟨zj 3 (by omega), zj 4 (by omega)⟩ wl ?_ gw ?_
  · intro k' hk'
    by_cases e : k' = k
    · rw [e]; exact own
    · exact oth k' hk' e
  · clear gw own oth
    refine rMemo_0 me ⟨?_, ?_, ?_⟩ z47
    all_goals
      rw [zo _ (by omega) (by omega) (by omega) (by omega) (by omega)]
      exact f1 _ (by omega) (by omega) (by omega) (by omega)
theorem tc_text {ph : Bool} {c : Int} {M : xM} {a : Int} (I : Inv ph c M) (ha : -2147483648 ≤ a ∧ a < 2147483648) : yk (fX11_text M a) fun q => yk (fX12_text q.2 a) fun z => q.1 = z.1 ∧ Inv ph c z.2 := by
  have T := I.2.2.1
  have T2 := T.2.1
  unfold fX11_text
  rw [within_eq (by omega) (by omega) (by omega) (by omega) (by omega) (by omega)]
  by_cases g : 0 ≤ a ∧ a ≤ 3
  · obtain ⟨k, rfl⟩ := Int.eq_ofNat_of_zero_le g.1
    have hk : k < 4 := by omega
    rw [if_pos (decide_eq_true g)]
    have ek : (wr (k : Int)).toNat = k := by rw [wr_id (by omega) (by omega)]; rfl
    rw [xix_at g.1 (by omega) (by omega), ek, yk_xb2]
    refine yk.mono (into_e (o := 28 + 2 * k) (M 94 16) (by omega) ⟨T2, fun i i0 i1 => T.2.2.2.2 i i0 i1⟩ T.1) ?_
    intro q hq
    obtain ⟨f1, f0, hm⟩ := hq
    have q94 := f1 94 (by omega) (by omega) (by omega) (by omega)
    have q95 := f1 95 (by omega) (by omega) (by omega) (by omega)
    have q100 := f1 100 (by omega) (by omega) (by omega) (by omega)
    have tO1 : tO M := ⟨T2, fun i i0 i1 => (T.2.2.2.2 i i0 i1).2⟩
    rcases txt_g (T := M 100) (v := M 94 16) T2 with ⟨f, ef, hf⟩ | ⟨ls, el, hl1, hl2, hl3⟩
    · rw [ef] at hm
      obtain ⟨y1, y2, y3, y4⟩ := hm
      rw [y1, if_pos rfl, yk_some]
      dsimp only
      refine yk.mono (textM_e (M := q.2) g (tO_fr tO1 q100 (by rw [q94]))) ?_
      intro z hz
      rw [q100, q94, ef] at hz
      obtain ⟨z1, z2, z3, z4, z5, z6⟩ := hz
      refine ⟨z4.symm, ?_⟩
      have z95 : z.2 95 = M 95 := by rw [z6, q95]
      have zo : ∀ o, o ≠ 36 → (o < 38 ∨ 42 < o) → o ≠ 94 → o ≠ 95 → o ≠ 98 → o ≠ 99 → z.2 o = M o := by
        intro o h1 h2 h3 h4 h5 h6
        rw [z1 o h3 h4 h5 h6]
        by_cases c1 : o = 28 + 2 * k
        · rw [c1]; exact y3
        · by_cases c2 : o = 28 + 2 * k + 1
          · rw [c2]; exact y4
          · exact f1 o h1 h2 c1 c2
      have z36 := z1 36 (by omega) (by omega) (by omega) (by omega)
      refine Inv_text I (fun o h1 h2 _ _ h3 h4 h5 h6 => zo o h1 h2 h3 h4 h5 h6) (by rw [z36]; exact f0) z3 (by rw [z36, y2.1, z5.1]) (by rw [z36, y2.2, z5.2]) ⟨by rw [z2 3 (by omega)], by rw [z2 4 (by omega)]⟩ (fun j _ => by rw [z95]) ?_ ?_ ?_
      · intro k' hk'
        rw [z95]
        exact rWant_fr (fun _ _ => rfl) (zo _ (by omega) (by omega) (by omega) (by omega) (by omega) (by omega)) (zo _ (by omega) (by omega) (by omega) (by omega) (by omega) (by omega)) (I.2.1.2.2.2.2.2.2.2.2.2 k' (by omega) (by omega)) (I.1.2.2.2.2.2.2.2.2 k' hk')
      · rw [z95]; exact I.2.1.2.2.2.2.2.2.2.2.2
      · rw [z95]
        refine rMemo_fr I.2.2.2.2.1 I.2.1.2.2.2.2.2.2.2.2.2 ⟨?_, ?_, ?_, ?_, ?_⟩ (fun k' hk' => ?_) (fun _ _ => rfl) (fun _ _ _ => rfl)
        all_goals exact zo _ (by omega) (by omega) (by omega) (by omega) (by omega) (by omega)
    · rw [el] at hm
      obtain ⟨y1, y2, y3, y4, y5⟩ := hm
      rw [y1, if_neg (by rw [wr_id (by omega) (by omega), wr_id (by omega) (by omega)]; omega), forget_e, yk_xb, yk_some, yk_some]
      dsimp only
      have w94 : xfi q.2 47 4 (-1) 94 = M 94 := by rw [xfi_o (by omega)]; exact q94
      have w95 : xfi q.2 47 4 (-1) 95 = M 95 := by rw [xfi_o (by omega)]; exact q95
      have w100 : xfi q.2 47 4 (-1) 100 = M 100 := by rw [xfi_o (by omega)]; exact q100
      refine yk.mono (textM_e (M := xfi q.2 47 4 (-1)) g (tO_fr tO1 w100 (by rw [w94]))) ?_
      intro z hz
      rw [w100, w94, w95, el] at hz
      obtain ⟨z1, z2, z3, z4, z5, z6⟩ := hz
      refine ⟨z4.symm, text_ok I hk f1 f0 hl1 hl2 hl3 y2 y3 y4 y5 (fun o h3 h4 h5 h6 h7 => ?_) (fun i i0 i1 => ?_) z2 z3 z5 z6⟩
      · rw [z1 o h3 h4 h5 h6, xfi_o h7]
      · rw [z1 47 (by decide) (by decide) (by decide) (by decide), xfi_e i0 i1]
  · rw [if_neg (by rw [decide_eq_true_eq]; exact g)]
    have e4 : fX7_leaveUnread M = some (xup (xup (xup M 36 1 0) 36 2 (-1)) 36 0 0) := rfl
    rw [e4, yk_xb, yk_some, yk_some]
    dsimp only
    unfold fX12_text
    rw [yk_xlet, isIn_eq (by omega) (by omega) (by omega) (by omega) (by omega) (by omega), if_neg (by rw [decide_eq_true_eq]; exact g), yk_xlet, yk_xlet, yk_xlet, yk_some]
    refine ⟨rfl, ?_⟩
    dsimp only
    generalize hz : xup (xup (xup (xup (xup (xup (xup M 36 1 0) 36 2 (-1)) 36 0 0) 94 17 0) 94 12 0) 94 19 0) 94 21 (-1) = Z
    have zo : ∀ o, o ≠ 36 → o ≠ 94 → Z o = M o := fun o h1 h2 => by rw [← hz, xup_o h2, xup_o h2, xup_o h2, xup_o h2, xup_o h1, xup_o h1, xup_o h1]
    have z95 := zo 95 (by omega) (by omega)
    refine Inv_text I (fun o h1 _ _ _ h3 _ _ _ => zo o h1 h3) ?_ ?_ ?_ ?_ ⟨?_, ?_⟩ (fun j _ => by rw [z95]) ?_ ?_ ?_
    · rw [← hz, xup_o (by omega), xup_o (by omega), xup_o (by omega), xup_o (by omega), xup_e rfl]
    · rw [← hz, xup_n (by omega), xup_n (by omega), xup_e rfl]
    · rw [← hz, xup_o (by omega), xup_o (by omega), xup_o (by omega), xup_o (by omega), xup_n (by omega), xup_n (by omega), xup_e rfl, xup_n (by omega), xup_e rfl]
    · rw [← hz, xup_o (by omega), xup_o (by omega), xup_o (by omega), xup_o (by omega), xup_n (by omega), xup_e rfl, xup_e rfl]
    · rw [← hz, xup_n (by omega), xup_n (by omega), xup_n (by omega), xup_n (by omega), xup_o (by omega), xup_o (by omega), xup_o (by omega)]
    · rw [← hz, xup_n (by omega), xup_n (by omega), xup_n (by omega), xup_n (by omega), xup_o (by omega), xup_o (by omega), xup_o (by omega)]
    · intro k' hk'
      rw [z95]
      exact rWant_fr (fun _ _ => rfl) (zo _ (by omega) (by omega)) (zo _ (by omega) (by omega)) (I.2.1.2.2.2.2.2.2.2.2.2 k' (by omega) (by omega)) (I.1.2.2.2.2.2.2.2.2 k' hk')
    · rw [z95]; exact I.2.1.2.2.2.2.2.2.2.2.2
    · rw [z95]
      refine rMemo_fr I.2.2.2.2.1 I.2.1.2.2.2.2.2.2.2.2.2 ⟨?_, ?_, ?_, ?_, ?_⟩ (fun k' hk' => ?_) (fun _ _ => rfl) (fun _ _ _ => rfl)
      all_goals exact zo _ (by omega) (by omega)
