/-! votes -/
theorem rI_fr2 {A A' : xM} {W : Int → Int} (h : rI A W) (g : gW W) (a : ∀ o, 1 ≤ o → o ≤ 35 → o ≠ 11 → o ≠ 22 → A' o = A o) : rI A' W := by
  obtain ⟨i1, i2, i3, i4, i5, i6, i7, i8, i9⟩ := h
  obtain ⟨g1, g2, g3, g4, g5, g6, g7, g8, g9, g10⟩ := g
  refine ⟨rB_fr i1 ⟨a _ ?_ ?_ ?_ ?_, a _ ?_ ?_ ?_ ?_, a _ ?_ ?_ ?_ ?_, a _ ?_ ?_ ?_ ?_, a _ ?_ ?_ ?_ ?_⟩ (fun _ _ _ => rfl), rSky_fr i2 (a _ ?_ ?_ ?_ ?_) (fun _ _ _ => rfl), rBook_fr i3 g1 (a _ ?_ ?_ ?_ ?_) rfl rfl (fun _ _ _ => rfl), rPlan_fr i4 (a _ ?_ ?_ ?_ ?_) (fun _ _ _ => rfl), rPlot_fr i5 g1 ⟨a _ ?_ ?_ ?_ ?_, a _ ?_ ?_ ?_ ?_, a _ ?_ ?_ ?_ ?_, a _ ?_ ?_ ?_ ?_, a _ ?_ ?_ ?_ ?_⟩ rfl (fun _ _ _ => rfl), rSale_fr i6 g1 ⟨a _ ?_ ?_ ?_ ?_, a _ ?_ ?_ ?_ ?_, a _ ?_ ?_ ?_ ?_, a _ ?_ ?_ ?_ ?_⟩ rfl (fun _ _ _ => rfl), rProm_fr i7 g1 ⟨a _ ?_ ?_ ?_ ?_, a _ ?_ ?_ ?_ ?_, a _ ?_ ?_ ?_ ?_, a _ ?_ ?_ ?_ ?_, a _ ?_ ?_ ?_ ?_⟩ rfl (fun _ _ _ => rfl), rLog_fr i8 g1 ⟨a _ ?_ ?_ ?_ ?_, a _ ?_ ?_ ?_ ?_, a _ ?_ ?_ ?_ ?_⟩ rfl (fun _ _ _ => rfl), fun k hk => rWant_fr (fun _ _ => rfl) (a _ ?_ ?_ ?_ ?_) (a _ ?_ ?_ ?_ ?_) (g10 _ ?_ ?_) (i9 k hk)⟩
  all_goals omega
theorem Inv_scr {ph : Bool} {c c' : Int} {M M' : xM} (I : Inv ph c M) (me : rMemo c' M' (M 95)) (f : ∀ o, o ≠ 0 → o ≠ 11 → o ≠ 22 → o ≠ 36 → o ≠ 94 → (o < 38 ∨ 78 < o) → (o < 98 ∨ o = 100 ∨ 110 < o) → M' o = M o) (h36 : M' 36 0 = M 36 0 ∧ M' 36 1 = M 36 1 ∧ M' 36 2 = M 36 2) (h94 : M' 94 3 = M 94 3 ∧ M' 94 4 = M 94 4 ∧ M' 94 12 = M 94 12 ∧ M' 94 19 = M 94 19 ∧ M' 94 21 = M 94 21) (s0 : M' 108 = M 108) : Inv ph c' M' := by
  obtain ⟨i, g, T, H, Me, K⟩ := I
  have w : M' 95 = M 95 := f _ (by omega) (by omega) (by omega) (by omega) (by omega) (by omega) (by omega)
  unfold Inv
  rw [w]
  refine ⟨rI_fr2 i g (fun o h1 h2 h3 h4 => f _ (by omega) h3 h4 (by omega) (by omega) (by omega) (by omega)), g, ?_, rHist_fr H ⟨f _ ?_ ?_ ?_ ?_ ?_ ?_ ?_, f _ ?_ ?_ ?_ ?_ ?_ ?_ ?_, f _ ?_ ?_ ?_ ?_ ?_ ?_ ?_, f _ ?_ ?_ ?_ ?_ ?_ ?_ ?_, f _ ?_ ?_ ?_ ?_ ?_ ?_ ?_⟩ (fun q hq => f _ ?_ ?_ ?_ ?_ ?_ ?_ ?_) h94.1 (by rw [w]; exact ⟨rfl, rfl, rfl, rfl⟩), me, rKept_fr K (fun o ho => f _ ?_ ?_ ?_ ?_ ?_ ?_ ?_) (f _ ?_ ?_ ?_ ?_ ?_ ?_ ?_) h94.2.1 s0⟩
  case refine_1 =>
    unfold rTape at *
    rw [h36.1, h36.2.1, h36.2.2, h94.2.2.1, h94.2.2.2.1, h94.2.2.2.2, f 37 (by omega) (by omega) (by omega) (by omega) (by omega) (by omega) (by omega), f 100 (by omega) (by omega) (by omega) (by omega) (by omega) (by omega) (by omega)]
    exact T
  all_goals omega
def sPrOn (W : Int → Int) (o d i : Int) : Bool := decide (W (370 + 5 * i) = o ∧ W (374 + 5 * i) = 0 ∧ W (372 + 5 * i) ≤ d ∧ d ≤ W (373 + 5 * i))
def sPr (W : Int → Int) (o d : Int) : Int := fI (sPrOn W o d) 0 (W 7).toNat
def sRather (s u n : Int) : Int := if u ≤ s ∧ n ≤ s then 0 else if n ≤ u then 1 else -1
def sVote (W : Int → Int) (o : Int) : Int := if sPr W o (W 2) = -1 then sRather (sWorth W o (W 2) (W 1) 0) (sWorth W o (W 2) ((W 1 + 1) % W 0) 1) (sWorth W o (W 2) ((W 1 - 1) % W 0) (-1)) else W (371 + 5 * sPr W o (W 2))
theorem first_q {W : Int → Int} {M : xM} {o d : Int} (iP : rProm M W) (gP : gProm W) (gb : gB W) (i7 : M 17 0 = W 7) (ho : -2147483648 ≤ o ∧ o < 2147483648) (hd : -2147483648 ≤ d ∧ d < 2147483648) (m : Nat) : ∀ (n : Nat) (i : Int), 0 ≤ i → i + m = W 7 → m < n → fX5_firstOn_L2 n M o d i = some (if fI (sPrOn W o d) i m = -1 then .inl () else .inr (fI (sPrOn W o d) i m)) := by
  unfold gB at gb
  induction m with
  | zero =>
    intro n i h0 h1 h2
    obtain ⟨n', rfl⟩ : ∃ n', n = n' + 1 := ⟨n - 1, by omega⟩
    unfold fX5_firstOn_L2
    simp (disch := omega) only [wr_id, if_neg]
    rfl
  | succ m ih =>
    intro n i h0 h1 h2
    obtain ⟨n', rfl⟩ : ∃ n', n = n' + 1 := ⟨n - 1, by omega⟩
    have c := iP.2 i h0 (by omega)
    have g := gP.1 i h0 (by omega)
    have r := ih n' (i + 1) (by omega) (by omega) (by omega)
    have hlt : i < W 7 := by omega
    unfold fX5_firstOn_L2
    rw [stands_e (i := i) iP i7 (by omega) (by omega)]
    by_cases hP : W (370 + 5 * i) = o ∧ W (374 + 5 * i) = 0 ∧ W (372 + 5 * i) ≤ d ∧ d ≤ W (373 + 5 * i)
    · rw [fI_t (P := sPrOn W o d) (by simpa only [sPrOn, decide_eq_true_eq] using hP), if_neg (show ¬ i = -1 by omega)]
      simp (disch := omega) only [xrd_at, wr_id, decide_eq_true_eq, if_pos, if_neg, c]
    · rw [fI_f (P := sPrOn W o d) (by simpa only [sPrOn, decide_eq_true_eq] using hP), ← r]
      simp (disch := omega) only [xrd_at, wr_id, decide_eq_true_eq, c]
      repeat' split
      all_goals first | (exfalso; omega; done) | rfl
theorem firstM_q {M : xM} {o : Int} (gP : gProm (M 95)) (gb : gB (M 95)) (ho : -2147483648 ≤ o ∧ o < 2147483648) (m : Nat) : ∀ (n : Nat) (i : Int), 0 ≤ i → i + m = M 95 7 → m < n → fX12_voteOf_L2 n M o i = some (if fI (sPrOn (M 95) o (M 95 2)) i m = -1 then .inl () else .inr (M 95 (371 + 5 * fI (sPrOn (M 95) o (M 95 2)) i m))) := by
  unfold gB at gb
  induction m with
  | zero =>
    intro n i h0 h1 h2
    obtain ⟨n', rfl⟩ : ∃ n', n = n' + 1 := ⟨n - 1, by omega⟩
    unfold fX12_voteOf_L2
    simp (disch := omega) only [wr_id, if_neg]
    rfl
  | succ m ih =>
    intro n i h0 h1 h2
    obtain ⟨n', rfl⟩ : ∃ n', n = n' + 1 := ⟨n - 1, by omega⟩
    have g := gP.1 i h0 (by omega)
    have r := ih n' (i + 1) (by omega) (by omega) (by omega)
    have hlt : i < M 95 7 := by omega
    have a0 : 370 + 5 * i + 1 = 371 + 5 * i := by omega
    have a1 : 370 + 5 * i + 2 = 372 + 5 * i := by omega
    have a2 : 370 + 5 * i + 3 = 373 + 5 * i := by omega
    unfold fX12_voteOf_L2
    rw [standsM_e gP (by omega) (by omega)]
    by_cases hP : M 95 (370 + 5 * i) = o ∧ M 95 (374 + 5 * i) = 0 ∧ M 95 (372 + 5 * i) ≤ M 95 2 ∧ M 95 2 ≤ M 95 (373 + 5 * i)
    · rw [fI_t (P := sPrOn (M 95) o (M 95 2)) (by simpa only [sPrOn, decide_eq_true_eq] using hP), if_neg (show ¬ i = -1 by omega)]
      simp (disch := omega) only [xb, xrd_at, wr_id, isIn_eq, decide_eq_true_eq, if_pos, if_neg, a0, a1, a2]
    · rw [fI_f (P := sPrOn (M 95) o (M 95 2)) (by simpa only [sPrOn, decide_eq_true_eq] using hP), ← r]
      simp (disch := omega) only [xb, xrd_at, wr_id, isIn_eq, decide_eq_true_eq, a0, a1, a2]
      repeat' split
      all_goals first | (exfalso; omega; done) | rfl
theorem firstOn_e {W : Int → Int} {M : xM} {o d : Int} (iP : rProm M W) (gP : gProm W) (gb : gB W) (i7 : M 17 0 = W 7) (ho : -2147483648 ≤ o ∧ o < 2147483648) (hd : -2147483648 ≤ d ∧ d < 2147483648) : fX5_firstOn M o d = some (sPr W o d) := by
  have gb' := gb
  unfold gB at gb'
  have q := first_q iP gP gb i7 ho hd (W 7).toNat xfuel 0 (by omega) (by omega) (by unfold xfuel; omega)
  unfold fX5_firstOn sPr
  rw [q]
  by_cases h : fI (sPrOn W o d) 0 (W 7).toNat = -1
  · rw [if_pos h, h]
    rfl
  · rw [if_neg h]
    rfl
section VO
variable {W : Int → Int} {M0 : xM} {o : Int}
theorem vstep {c : Int} {M : xM} {n : Nat} {v m k tr : Int} {P : Int × xM → Prop} (i : rI M W) (g : gW W) (me : rMemo c M W) (hc : c < 2000000000) (ho : 0 ≤ o ∧ o < W 5) (hk : 0 ≤ k ∧ k < 3) (htr : ([0, 1, -1] : List Int).getD k.toNat 0 = tr) (ht : -1 ≤ tr ∧ tr ≤ 1) (hm : -9999 ≤ m ∧ m ≤ 9999) (next : ∀ M', rMemo (c + 1) M' W → (∀ x, (x < 43 ∨ 49 < x) → M' x = M x) → yk (fX11_voteOf_L71 n M' o (if m < sWorth W o (W 2) ((W 1 + tr) % W 0) tr then tr else v) (if m < sWorth W o (W 2) ((W 1 + tr) % W 0) tr then sWorth W o (W 2) ((W 1 + tr) % W 0) tr else m) (k + 1)) P) : yk (fX11_voteOf_L71 (n + 1) M o v m k) P := by
  have gb := g.1
  have iB := i.1
  unfold gB at gb
  unfold rB at iB
  have md := md_rng (a := W 1 + tr) (n := W 0) (by omega)
  have sr := sWorth_rng W o (W 2) ((W 1 + tr) % W 0) tr
  unfold fX11_voteOf_L71
  simp (disch := omega) only [wr_id, if_pos, xtb_at, htr, iB.1.1, iB.1.2.1, iB.1.2.2.1, wrap_eq, xb, yk_xb2]
  refine yk.mono (worthTo_e i g me hc ho (by omega) (by omega) (by omega)) ?_
  intro q hq
  rw [hq.1, wr_id (by omega) (by omega)]
  have nx := next q.2 hq.2.1 hq.2.2
  by_cases h : m < sWorth W o (W 2) ((W 1 + tr) % W 0) tr
  · rw [if_pos h]
    rw [if_pos h, if_pos h] at nx
    exact nx
  · rw [if_neg h]
    rw [if_neg h, if_neg h] at nx
    exact nx
theorem voteOf_e {c : Int} {M : xM} (i : rI M W) (g : gW W) (me : rMemo c M W) (hc : c < 1999999990) (ho : 0 ≤ o ∧ o < W 5) : yk (fX11_voteOf M o) fun q => q.1 = sVote W o ∧ rMemo (c + 3) q.2 W ∧ ∀ x, (x < 43 ∨ 49 < x) → q.2 x = M x := by
  have gb := g.1
  have iB := i.1
  have gb' := g.1
  unfold gB at gb
  unfold rB at iB
  have fo := firstOn_e (o := o) (d := W 2) i.2.2.2.2.2.2.1 g.2.2.2.2.2.2.2.1 gb' (by omega) (by omega) (by omega)
  have fr := fI_rng (sPrOn W o (W 2)) (W 7).toNat 0
  unfold fX11_voteOf sVote
  rw [iB.1.2.2.1, fo, yk_xb, yk_some]
  have e1 : wr (-1) = -1 := by decide
  rw [e1]
  by_cases h : sPr W o (W 2) = -1
  · rw [if_pos h, if_pos (by rw [h]; exact e1), yk_xb2, iB.1.2.1]
    refine yk.mono (worthTo_e i g me (by omega) ho (by omega) (by omega) (by omega)) ?_
    intro q hq
    rw [yk_xb2]
    have sr := sWorth_rng W o (W 2) (W 1) 0
    have sr1 := sWorth_rng W o (W 2) ((W 1 + 1) % W 0) 1
    have ex : ∃ y, xfuel = y + 3 := ⟨999997, by unfold xfuel; omega⟩
    obtain ⟨y, hy⟩ := ex
    rw [hy, hq.1]
    have fr1 : ∀ M' : xM, (∀ x, (x < 43 ∨ 49 < x) → M' x = M x) → rI M' W := fun M' f => rI_fr2 i g (fun x h1 h2 _ _ => f x (by omega))
    refine vstep (tr := 1) (fr1 _ hq.2.2) g hq.2.1 (by omega) ho (by omega) rfl (by omega) (by omega) ?_
    intro M1 me1 f1
    have f1' : ∀ x, (x < 43 ∨ 49 < x) → M1 x = M x := fun x hx => by rw [f1 x hx, hq.2.2 x hx]
    refine vstep (tr := -1) (fr1 _ f1') g me1 (by omega) ho (by omega) rfl (by omega) (by split <;> omega) ?_
    intro M2 me2 f2
    have f2' : ∀ x, (x < 43 ∨ 49 < x) → M2 x = M x := fun x hx => by rw [f2 x hx, f1' x hx]
    unfold fX11_voteOf_L71
    have e3 : ¬ wr (1 + 1 + 1) < wr 3 := by decide
    rw [if_neg e3, yk_some, yk_some]
    refine ⟨?_, ?_, f2'⟩
    · unfold sRather
      have e4 : W 1 + -1 = W 1 - 1 := by omega
      rw [e4]
      generalize sWorth W o (W 2) (W 1) 0 = a at *
      generalize sWorth W o (W 2) ((W 1 + 1) % W 0) 1 = b at *
      generalize sWorth W o (W 2) ((W 1 - 1) % W 0) (-1) = d at *
      dsimp only
      by_cases c1 : a < b
      · rw [if_pos c1, if_pos c1]
        by_cases c2 : b < d
        · rw [if_pos c2, if_neg (by omega), if_neg (by omega)]
        · rw [if_neg c2, if_neg (by omega), if_pos (by omega)]
      · rw [if_neg c1, if_neg c1]
        by_cases c2 : a < d
        · rw [if_pos c2, if_neg (by omega), if_neg (by omega)]
        · rw [if_neg c2, if_pos (by omega)]
    · have e5 : c + 1 + 1 + 1 = c + 3 := by omega
      rw [e5] at me2
      exact me2
  · have hr : 0 ≤ sPr W o (W 2) ∧ sPr W o (W 2) < W 7 := by
      unfold sPr at h ⊢
      omega
    have ip := (i.2.2.2.2.2.2.1.2 _ hr.1 hr.2).2.1
    rw [if_neg h, wr_id (by omega) (by omega), if_neg h, xrd_at hr.1 (by omega) (by omega), yk_some]
    exact ⟨ip, rMemo_le me (by omega), fun _ _ => rfl⟩
theorem voteOfM_e {M : xM} (g : gW (M 95)) (ho : 0 ≤ o ∧ o < M 95 5) : yk (fX12_voteOf M o) fun q => q.1 = sVote (M 95) o ∧ ∀ x, x ≠ 101 → x ≠ 102 → q.2 x = M x := by
  have gb := g.1
  have gb' := g.1
  unfold gB at gb
  have fo := firstM_q (o := o) g.2.2.2.2.2.2.2.1 gb' (by omega) (M 95 7).toNat xfuel 0 (by omega) (by omega) (by unfold xfuel; omega)
  have md1 := md_rng (a := M 95 1 + 1) (n := M 95 0) (by omega)
  have md2 := md_rng (a := M 95 1 - 1) (n := M 95 0) (by omega)
  unfold fX12_voteOf sVote sPr
  rw [fo, yk_xs0]
  by_cases h : fI (sPrOn (M 95) o (M 95 2)) 0 (M 95 7).toNat = -1
  · rw [if_pos h, if_pos h, yk_some, Sum.elim_inl, yk_xb2]
    refine yk.mono (worthOf_e g ho (by omega) (by omega) (by omega)) ?_
    intro q1 h1
    have w1 := h1.2 95 (by omega) (by omega)
    rw [modulo_eq (by rw [w1]; omega) (by rw [w1]; omega) (by rw [w1]; omega) (by rw [w1]; omega), w1, yk_xb, yk_some, yk_xb2]
    refine yk.mono (worthOf_e (M := q1.2) (by rw [w1]; exact g) (by rw [w1]; exact ho) (by omega) (by omega) (by omega)) ?_
    intro q2 h2
    have w2 := h2.2 95 (by omega) (by omega)
    rw [w1] at w2
    rw [modulo_eq (by rw [w2]; omega) (by rw [w2]; omega) (by rw [w2]; omega) (by rw [w2]; omega), w2, yk_xb, yk_some, yk_xb2]
    refine yk.mono (worthOf_e (M := q2.2) (by rw [w2]; exact g) (by rw [w2]; exact ho) (by omega) (by omega) (by omega)) ?_
    intro q3 h3
    have e1 := h1.1
    have e2 := h2.1
    have e3 := h3.1
    rw [w1] at e2
    rw [w2] at e3
    have s1 := sWorth_rng (M 95) o (M 95 2) (M 95 1) 0
    have s2 := sWorth_rng (M 95) o (M 95 2) ((M 95 1 + 1) % M 95 0) 1
    have s3 := sWorth_rng (M 95) o (M 95 2) ((M 95 1 - 1) % M 95 0) (-1)
    have fr : ∀ x, x ≠ 101 → x ≠ 102 → q3.2 x = M x := fun x x1 x2 => by rw [h3.2 x x1 x2, h2.2 x x1 x2, h1.2 x x1 x2]
    rw [yk_xj, e1, e2, e3]
    unfold sRather
    generalize sWorth (M 95) o (M 95 2) (M 95 1) 0 = a at *
    generalize sWorth (M 95) o (M 95 2) ((M 95 1 + 1) % M 95 0) 1 = b at *
    generalize sWorth (M 95) o (M 95 2) ((M 95 1 - 1) % M 95 0) (-1) = d at *
    rw [wr_id (x := a) (by omega) (by omega), wr_id (x := b) (by omega) (by omega), wr_id (x := d) (by omega) (by omega)]
    by_cases c0 : b ≤ a ∧ d ≤ a
    · rw [if_neg (by omega), if_neg (by omega), if_pos c0, yk_some]
      exact ⟨rfl, fr⟩
    · rw [if_neg c0]
      by_cases c1 : b < d
      · rw [if_neg (show ¬ d ≤ b by omega)]
        by_cases c2 : a < b
        · rw [if_pos c2, if_pos c1, yk_some]
          exact ⟨rfl, fr⟩
        · rw [if_neg c2, if_pos (by omega), if_pos c1, yk_some]
          exact ⟨rfl, fr⟩
      · rw [if_pos (show d ≤ b by omega), if_pos (show a < b by omega), if_neg c1, yk_some]
        exact ⟨rfl, fr⟩
  · rw [if_neg h, if_neg h, yk_some, Sum.elim_inr, yk_some]
    exact ⟨rfl, fun _ _ _ => rfl⟩
end VO
theorem sVote_rng {W : Int → Int} {o : Int} (g : gW W) : -1 ≤ sVote W o ∧ sVote W o ≤ 1 := by
  have gb := g.1
  unfold gB at gb
  have fr := fI_rng (sPrOn W o (W 2)) (W 7).toNat 0
  unfold sVote sPr
  split
  · unfold sRather
    repeat' split
    all_goals omega
  · rename_i h
    exact (g.2.2.2.2.2.2.2.1.1 _ (by omega) (by omega)).2.1
theorem tc_worth {ph : Bool} {c : Int} {M : xM} {a b d e : Int} (I : Inv ph c M) (hc : c < 1900000000) (ha : -2147483648 ≤ a ∧ a < 2147483648) (hb : -2147483648 ≤ b ∧ b < 2147483648) (hd : -2147483648 ≤ d ∧ d < 2147483648) (he : -2147483648 ≤ e ∧ e < 2147483648) : yk (fX11_worth M a b d e) fun q => yk (fX12_worth q.2 a b d e) fun z => q.1 = z.1 ∧ Inv ph (c + 1) z.2 := by
  have iB := I.1.1
  have gb := I.2.1.1
  unfold rB at iB
  unfold gB at gb
  by_cases g : (0 ≤ a ∧ a < M 95 5) ∧ (0 ≤ b ∧ b ≤ 9999) ∧ (0 ≤ d ∧ d < M 95 0) ∧ (-1 ≤ e ∧ e ≤ 1)
  · unfold fX11_worth fX4_has fX11_isDay fX1_hasAngle
    simp (disch := omega) only [turn_eq, within_eq, decide_eq_true_eq, if_pos, yk_xb2]
    refine yk.mono (worthTo_e I.1 I.2.1 I.2.2.2.2.1 (by omega) g.1 (by omega) (by omega) (by omega)) ?_
    intro q hq
    rw [yk_some]
    have w := hq.2.2 95 (by omega)
    unfold fX12_worth fX12_isPlot fX12_isDay fX12_isAngle
    simp (disch := omega) only [w, isIn_eq, decide_eq_true_eq, if_pos, yk_xb2]
    refine yk.mono (worthOf_e (M := q.2) (by rw [w]; exact I.2.1) (by rw [w]; exact g.1) (by omega) (by omega) (by omega)) ?_
    intro z hz
    rw [yk_some]
    refine ⟨by rw [hq.1, hz.1, w], ?_⟩
    have f : ∀ o, (o < 43 ∨ 49 < o) → o ≠ 101 → o ≠ 102 → z.2 o = M o := fun o h1 h2 h3 => by rw [hz.2 o h2 h3, hq.2.2 o h1]
    have e36 := f 36 (by omega) (by omega) (by omega)
    have e94 := f 94 (by omega) (by omega) (by omega)
    refine Inv_scr I ?_ (fun o h0 h1 h2 h3 h4 h5 h6 => f o (by omega) (by omega) (by omega)) (by rw [e36]; exact ⟨rfl, rfl, rfl⟩) (by rw [e94]; exact ⟨rfl, rfl, rfl, rfl, rfl⟩) (f 108 (by omega) (by omega) (by omega))
    refine rMemo_fr hq.2.1 I.2.1.2.2.2.2.2.2.2.2.2 ⟨hz.2 _ (by omega) (by omega), hz.2 _ (by omega) (by omega), hz.2 _ (by omega) (by omega), hz.2 _ (by omega) (by omega), hz.2 _ (by omega) (by omega)⟩ (fun k hk => hz.2 _ (by omega) (by omega)) (fun _ _ => rfl) (fun _ _ _ => rfl)
  · have e1 : fX11_worth M a b d e = some (-100000, M) := by
      unfold fX11_worth fX4_has fX11_isDay fX1_hasAngle
      simp (disch := omega) only [turn_eq, within_eq, decide_eq_true_eq]
      repeat' split
      all_goals first | (exfalso; omega; done) | rfl
    have e2 : fX12_worth M a b d e = some (-100000, M) := by
      unfold fX12_worth fX12_isPlot fX12_isDay fX12_isAngle
      simp (disch := omega) only [within_eq, isIn_eq, decide_eq_true_eq, xwt_at, xrd_at, xix_at, wr_id]
      repeat' split
      all_goals first | (exfalso; omega; done) | rfl
    refine ⟨_, e1, _, e2, rfl, ?_⟩
    obtain ⟨i, g, T, H, Me, K⟩ := I
    exact ⟨i, g, T, H, rMemo_le Me (by omega), K⟩
theorem Inv_le {ph : Bool} {c c' : Int} {M : xM} (I : Inv ph c M) (h : c ≤ c') : Inv ph c' M := by
  obtain ⟨i, g, T, H, Me, K⟩ := I
  exact ⟨i, g, T, H, rMemo_le Me h, K⟩
theorem tc_votes {ph : Bool} {c : Int} {M : xM} {a : Int} (I : Inv ph c M) (hc : c < 1900000000) (ha : -2147483648 ≤ a ∧ a < 2147483648) : yk (fX11_votes M a) fun q => yk (fX12_votes q.2 a) fun z => q.1 = z.1 ∧ Inv ph (c + 3) z.2 := by
  have iB := I.1.1
  have gb := I.2.1.1
  unfold rB at iB
  unfold gB at gb
  by_cases g : 0 ≤ a ∧ a < M 95 5
  · have hr := sHold_rng (W := M 95) (p := a) (d := M 95 2) I.2.1.2.2.2.2.2.2.1 I.2.1.1 g
    unfold fX11_votes fX4_has
    simp (disch := omega) only [within_eq, decide_eq_true_eq, if_pos, iB.1.2.2.1]
    rw [holdOn_e (W := M 95) I.1.2.2.2.2.2.1 I.2.1.2.2.2.2.2.2.1 I.2.1.1 (by omega) (by omega) (by omega), yk_xb, yk_some, yk_xb2]
    refine yk.mono (voteOf_e I.1 I.2.1 I.2.2.2.2.1 (by omega) hr) ?_
    intro q hq
    rw [yk_some]
    have w := hq.2.2 95 (by omega)
    unfold fX12_votes fX12_isPlot
    simp (disch := omega) only [w, isIn_eq, decide_eq_true_eq, if_pos]
    rw [holdOf_e (M := q.2) (by rw [w]; exact I.2.1.2.2.2.2.2.2.1) (by rw [w]; exact I.2.1.1) (by omega) (by omega), yk_xb, yk_some, yk_xb2, w]
    refine yk.mono (voteOfM_e (M := q.2) (by rw [w]; exact I.2.1) (by rw [w]; exact hr)) ?_
    intro z hz
    rw [yk_some]
    refine ⟨by rw [hq.1, hz.1, w], ?_⟩
    have f : ∀ o, (o < 43 ∨ 49 < o) → o ≠ 101 → o ≠ 102 → z.2 o = M o := fun o h1 h2 h3 => by rw [hz.2 o h2 h3, hq.2.2 o h1]
    have e36 := f 36 (by omega) (by omega) (by omega)
    have e94 := f 94 (by omega) (by omega) (by omega)
    refine Inv_scr I ?_ (fun o h0 h1 h2 h3 h4 h5 h6 => f o (by omega) (by omega) (by omega)) (by rw [e36]; exact ⟨rfl, rfl, rfl⟩) (by rw [e94]; exact ⟨rfl, rfl, rfl, rfl, rfl⟩) (f 108 (by omega) (by omega) (by omega))
    refine rMemo_fr hq.2.1 I.2.1.2.2.2.2.2.2.2.2.2 ⟨hz.2 _ (by omega) (by omega), hz.2 _ (by omega) (by omega), hz.2 _ (by omega) (by omega), hz.2 _ (by omega) (by omega), hz.2 _ (by omega) (by omega)⟩ (fun k hk => hz.2 _ (by omega) (by omega)) (fun _ _ => rfl) (fun _ _ _ => rfl)
  · have e1 : fX11_votes M a = some (-1, M) := by
      unfold fX11_votes fX4_has
      simp (disch := omega) only [within_eq, isIn_eq, decide_eq_true_eq, xwt_at, xrd_at, xix_at, wr_id]
      repeat' split
      all_goals first | (exfalso; omega; done) | rfl
    have e2 : fX12_votes M a = some (-1, M) := by
      unfold fX12_votes fX12_isPlot
      simp (disch := omega) only [within_eq, isIn_eq, decide_eq_true_eq, xwt_at, xrd_at, xix_at, wr_id]
      repeat' split
      all_goals first | (exfalso; omega; done) | rfl
    exact ⟨_, e1, _, e2, rfl, Inv_le I (by omega)⟩
