/-! sell, promise, drop -/
theorem span_eq {a b : Int} (h1 : -2147483648 ≤ a) (h2 : a < 2147483648) (h3 : -2147483648 ≤ b) (h4 : b < 2147483648) : fX11_isSpan a b = decide (0 ≤ a ∧ a ≤ b ∧ b ≤ 9999) := by
  unfold fX11_isSpan fX11_isDay
  simp (disch := omega) only [within_eq, decide_eq_true_eq, wr_id]
  symm
  repeat' split
  all_goals first | (rw [decide_eq_false_iff_not]; omega) | (rw [decide_eq_true_eq]; omega)
theorem ad_coin (x : Int) : 20 + 4 * x + 3 = 23 + 4 * x := by omega
theorem sell_q {M M' : xM} {p f u to pr : Int} (iS : rSale M (M 95)) (gS : gSale (M 95)) (gb : gB (M 95)) (i6 : M 12 0 = M 95 6) (hM : M' 95 = M 95) (hp : -2147483648 ≤ p ∧ p < 2147483648) (hf : -2147483648 ≤ f ∧ f < 2147483648) (hu : -2147483648 ≤ u ∧ u < 2147483648) (m : Nat) : ∀ (n : Nat) (i : Int), 0 ≤ i → i + m = M 95 6 → m < n → (fX6_mayTake_L14 n M p f u i = some (.inl ()) ∨ fX6_mayTake_L14 n M p f u i = some (.inr false)) ∧ fX12_sell_L73 n M' p to f u pr i = fX6_mayTake_L14 n M p f u i := by
  unfold gB at gb
  induction m with
  | zero =>
    intro n i h0 h1 h2
    obtain ⟨n', rfl⟩ : ∃ n', n = n' + 1 := ⟨n - 1, by omega⟩
    unfold fX6_mayTake_L14 fX12_sell_L73
    rw [hM]
    simp (disch := omega) only [wr_id, if_neg]
    exact ⟨Or.inl trivial, trivial⟩
  | succ m ih =>
    intro n i h0 h1 h2
    obtain ⟨n', rfl⟩ : ∃ n', n = n' + 1 := ⟨n - 1, by omega⟩
    have c := iS i h0 (by omega)
    have g := gS i h0 (by omega)
    have r := ih n' (i + 1) (by omega) (by omega) (by omega)
    have hlt : i < M 95 6 := by omega
    have a1 : 130 + 4 * i + 2 = 132 + 4 * i := by omega
    have a2 : 130 + 4 * i + 3 = 133 + 4 * i := by omega
    unfold fX6_mayTake_L14 fX12_sell_L73
    simp (disch := omega) only [xrd_at, wr_id, c, hM, a1, a2, if_pos, r.2]
    refine ⟨?_, trivial⟩
    repeat' split
    all_goals first | exact r.1 | exact Or.inr rfl
theorem tc_sell {ph : Bool} {c : Int} {M : xM} {a b d e f : Int} (I : Inv ph c M) (ha : -2147483648 ≤ a ∧ a < 2147483648) (hb : -2147483648 ≤ b ∧ b < 2147483648) (hd : -2147483648 ≤ d ∧ d < 2147483648) (he : -2147483648 ≤ e ∧ e < 2147483648) (hf : -2147483648 ≤ f ∧ f < 2147483648) : yk (fX11_sell M a b d e f) fun q => yk (fX12_sell q.2 a b d e f) fun z => q.1 = z.1 ∧ Inv ph c z.2 := by
  have iB := I.1.1
  have gb := I.2.1.1
  unfold rB at iB
  unfold gB at gb
  by_cases g : (0 ≤ a ∧ a < M 95 5) ∧ (0 ≤ b ∧ b < M 95 5) ∧ a ≠ b ∧ (M 95 2 ≤ d ∧ d ≤ e) ∧ e ≤ 9999 ∧ (0 ≤ f ∧ f ≤ 9999) ∧ M 95 6 < 60
  · have q0 := fun M' h => sell_q (M' := M') (to := b) (pr := f) I.1.2.2.2.2.2.1 I.2.1.2.2.2.2.2.2.1 I.2.1.1 (by omega) h ha hd he (M 95 6).toNat xfuel 0 (by omega) (by omega) (by unfold xfuel; omega)
    rcases (q0 M rfl).1 with q | q
    · have m1 : fX6_mayTake M a d e = some true := by
        unfold fX6_mayTake
        rw [q]
        simp (disch := omega) only [wr_id, if_pos]
        rfl
      have m2 : ∀ M', M' 95 = M 95 → fX12_sell_L73 xfuel M' a b d e f 0 = some (.inl ()) := fun M' h => by rw [(q0 M' h).2, q]
      unfold fX11_sell fX4_has fX6_take fX12_sell fX12_isPlot fX12_gives
      simp (disch := omega) only [yk_xb, yk_xb2, yk_some, yk_xlet, yk_xj, yk_xs0, Sum.elim_inl, span_eq, within_eq, isIn_eq, decide_eq_true_eq, if_pos, if_neg, xwt_at, xrd_at, wr_id, forget0_e, forgets_e, m1, xup_o, xup_n, xup_e, eq_self, true_and, ↓reduceIte]
      rw [m2 _ (by simp (disch := omega) only [xup_o])]
      simp (disch := omega) only [yk_xb, yk_xb2, yk_some, yk_xlet, yk_xj, yk_xs0, Sum.elim_inl, xwt_at, xrd_at, wr_id, forgets_e, ad_coin, xup_o, xup_n, xup_e, eq_self, true_and]
      obtain ⟨⟨i1, i2, i3, i4, i5, i6, i7, i8, i9⟩, ⟨g1, g2, g3, g4, g5, g6, g7, g8, g9, g10⟩, T, H, Me, K⟩ := I
      have hn := H.2.2.1
      refine ⟨⟨?i1, rSky_fr i2 ?_ ?_, rBook_fr i3 g1 ?_ ?_ ?_ ?_, rPlan_fr i4 ?_ ?_, ?i5, ?i6, rProm_fr i7 g1 ?_ ?_ ?_, rLog_fr i8 g1 ?_ ?_ ?_, fun k hk => rWant_fr ?_ ?_ ?_ (g10 _ (by omega) (by omega)) (i9 k hk)⟩, ⟨?g1, gSky_fr g2 ?_, gBook_fr g3 g1 ?_ ?_ ?_, gPlan_fr g4 ?_, gPlot_fr g5 g1 ?_ ?_ ?_, gPay_fr g6 ?_ ?_, ?g7, gProm_fr g8 g1 ?_ ?_ ?_, gLog_fr g9 g1 ?_ ?_ ?_ ?_, fun k h0 h1 => gWant_fr ?_ h0 (g10 k h0 h1)⟩, rTape_fr T ?_ ?_, rHist_0 ?_ ?_ ?_ ?_, rMemo_fr Me g10 ?_ ?_ ?_ ?_, rKept_fr K ?_ ?_ ?_ ?_⟩
      case i1 =>
        unfold rB
        simp (disch := omega) only [↓reduceIte, xup_o, xup_n, xup_e, xfi_o, xfi_e, xcl_o, xcl_e, and_self, and_true, true_and, true_or, or_true, eq_self, Int.le_refl]
        omega
      case g1 =>
        unfold gB
        simp (disch := omega) only [↓reduceIte, xup_o, xup_n, xup_e, xfi_o, xfi_e, xcl_o, xcl_e, and_self, and_true, true_and, true_or, or_true, eq_self, Int.le_refl]
        omega
      case i5 =>
        intro j h0 h1
        simp (disch := omega) only [↓reduceIte, xup_o, xup_n, xup_e, xfi_o, xfi_e, xcl_o, xcl_e, and_self, and_true, true_and, true_or, or_true, eq_self, Int.le_refl] at h1
        have := i5 j h0 h1
        have hb2 := i5 b (by omega) (by omega)
        have ha2 := i5 a (by omega) (by omega)
        by_cases hj : j = a
        · subst hj
          simp (disch := omega) only [↓reduceIte, xup_o, xup_n, xup_e, xfi_o, xfi_e, xcl_o, xcl_e, and_self, and_true, true_and, true_or, or_true, eq_self, Int.le_refl]
          omega
        · by_cases hj2 : j = b
          · subst hj2
            simp (disch := omega) only [↓reduceIte, xup_o, xup_n, xup_e, xfi_o, xfi_e, xcl_o, xcl_e, and_self, and_true, true_and, true_or, or_true, eq_self, Int.le_refl]
            omega
          · simp (disch := omega) only [↓reduceIte, xup_o, xup_n, xup_e, xfi_o, xfi_e, xcl_o, xcl_e, and_self, and_true, true_and, true_or, or_true, eq_self, Int.le_refl]
            exact this
      case i6 =>
        intro j h0 h1
        simp (disch := omega) only [↓reduceIte, xup_o, xup_n, xup_e, xfi_o, xfi_e, xcl_o, xcl_e, and_self, and_true, true_and, true_or, or_true, eq_self, Int.le_refl] at h1
        by_cases hj : j = M 95 6
        · simp (disch := omega) only [↓reduceIte, xup_o, xup_n, xup_e, xfi_o, xfi_e, xcl_o, xcl_e, and_self, and_true, true_and, true_or, or_true, eq_self, Int.le_refl]
        · have := i6 j h0 (by omega)
          simp (disch := omega) only [↓reduceIte, xup_o, xup_n, xup_e, xfi_o, xfi_e, xcl_o, xcl_e, and_self, and_true, true_and, true_or, or_true, eq_self, Int.le_refl]
          exact this
      case g7 =>
        intro j h0 h1
        simp (disch := omega) only [↓reduceIte, xup_o, xup_n, xup_e, xfi_o, xfi_e, xcl_o, xcl_e, and_self, and_true, true_and, true_or, or_true, eq_self, Int.le_refl] at h1
        by_cases hj : j = M 95 6
        · simp (disch := omega) only [↓reduceIte, xup_o, xup_n, xup_e, xfi_o, xfi_e, xcl_o, xcl_e, and_self, and_true, true_and, true_or, or_true, eq_self, Int.le_refl]
          omega
        · have := g7 j h0 (by omega)
          simp (disch := omega) only [↓reduceIte, xup_o, xup_n, xup_e, xfi_o, xfi_e, xcl_o, xcl_e, and_self, and_true, true_and, true_or, or_true, eq_self, Int.le_refl]
          exact this
      all_goals (intros; (first | (simp (disch := omega) only [↓reduceIte, xup_o, xup_n, xup_e, xfi_o, xfi_e, xcl_o, xcl_e, and_self, and_true, true_and, true_or, or_true, eq_self, Int.le_refl]; done) | omega | (simp (disch := omega) only [↓reduceIte, xup_o, xup_n, xup_e, xfi_o, xfi_e, xcl_o, xcl_e, and_self, and_true, true_and, true_or, or_true, eq_self, Int.le_refl]; omega)))
    · have m1 : fX6_mayTake M a d e = some false := by
        unfold fX6_mayTake
        rw [q]
        simp (disch := omega) only [wr_id, if_pos]
        rfl
      have m2 : fX12_sell_L73 xfuel M a b d e f 0 = some (.inr false) := by rw [(q0 M rfl).2, q]
      unfold fX11_sell fX4_has fX6_take fX12_sell fX12_isPlot
      simp (disch := omega) only [yk_xb, yk_xb2, yk_some, yk_xlet, yk_xj, yk_xs0, Sum.elim_inr, span_eq, within_eq, isIn_eq, decide_eq_true_eq, if_pos, if_neg, xwt_at, xrd_at, wr_id, m1, m2, eq_self, true_and, ↓reduceIte, Bool.false_eq_true]
      exact I
  · have e1 : fX11_sell M a b d e f = some (false, M) := by
      by_cases g6 : M 95 6 < 60
      · unfold fX11_sell fX4_has
        simp (disch := omega) only [span_eq, within_eq, decide_eq_true_eq, wr_id]
        repeat' split
        all_goals first | (exfalso; omega; done) | rfl
      · have m1 : fX6_mayTake M a d e = some false := by
          unfold fX6_mayTake
          simp (disch := omega) only [wr_id, if_neg]
        unfold fX11_sell
        rw [m1]
        simp only [xb, Bool.false_eq_true, ↓reduceIte, ite_self]
    have e2 : fX12_sell M a b d e f = some (false, M) := by
      unfold fX12_sell fX12_isPlot
      simp (disch := omega) only [isIn_eq, decide_eq_true_eq, wr_id]
      repeat' split
      all_goals first | rfl | (exfalso; omega)
    exact ⟨_, e1, _, e2, rfl, I⟩
theorem own_q {M : xM} {o : Int} (iP : rProm M (M 95)) (gP : gProm (M 95)) (gb : gB (M 95)) (i7 : M 17 0 = M 95 7) (ho : -2147483648 ≤ o ∧ o < 2147483648) (m : Nat) : ∀ (n : Nat) (i : Nat) (x : Int), (i : Int) + m = M 95 7 → m < n → fX5_mayTake_L4 n M o x i = some (x + nOwn (M 95) o (i + m) - nOwn (M 95) o i) := by
  unfold gB at gb
  induction m with
  | zero =>
    intro n i x h1 h2
    obtain ⟨n', rfl⟩ : ∃ n', n = n' + 1 := ⟨n - 1, by omega⟩
    unfold fX5_mayTake_L4
    simp (disch := omega) only [wr_id, if_neg]
    congr 1
    show _ = x + nOwn (M 95) o i - nOwn (M 95) o i
    omega
  | succ m ih =>
    intro n i x h1 h2
    obtain ⟨n', rfl⟩ : ∃ n', n = n' + 1 := ⟨n - 1, by omega⟩
    have c := iP.2 i (by omega) (by omega)
    have g := gP.1 i (by omega) (by omega)
    have e1 : nOwn (M 95) o (i + 1) = nOwn (M 95) o i + (if M 95 (370 + 5 * (i : Int)) = o then 1 else 0) := rfl
    have e2 : i + 1 + m = i + (m + 1) := by omega
    have e3 : (i : Int) + 1 = ((i + 1 : Nat) : Int) := by omega
    unfold fX5_mayTake_L4
    simp (disch := omega) only [xrd_at, wr_id, c, if_pos]
    rw [e3, ih n' (i + 1) _ (by omega) (by omega), ih n' (i + 1) _ (by omega) (by omega), e2, e1]
    split
    · congr 1
      omega
    · congr 1
      omega
theorem own_p {M M' : xM} {o t f u : Int} (gP : gProm (M 95)) (gb : gB (M 95)) (hM : M' 95 = M 95) (ho : -2147483648 ≤ o ∧ o < 2147483648) (m : Nat) : ∀ (n : Nat) (i : Nat) (x : Int), (i : Int) + m = M 95 7 → m < n → fX12_promise_L55 n M' o t f u x i = some (x + nOwn (M 95) o (i + m) - nOwn (M 95) o i) := by
  unfold gB at gb
  induction m with
  | zero =>
    intro n i x h1 h2
    obtain ⟨n', rfl⟩ : ∃ n', n = n' + 1 := ⟨n - 1, by omega⟩
    unfold fX12_promise_L55
    rw [hM]
    simp (disch := omega) only [wr_id, if_neg]
    congr 1
    show _ = x + nOwn (M 95) o i - nOwn (M 95) o i
    omega
  | succ m ih =>
    intro n i x h1 h2
    obtain ⟨n', rfl⟩ : ∃ n', n = n' + 1 := ⟨n - 1, by omega⟩
    have g := gP.1 i (by omega) (by omega)
    have e1 : nOwn (M 95) o (i + 1) = nOwn (M 95) o i + (if M 95 (370 + 5 * (i : Int)) = o then 1 else 0) := rfl
    have e2 : i + 1 + m = i + (m + 1) := by omega
    have e3 : (i : Int) + 1 = ((i + 1 : Nat) : Int) := by omega
    unfold fX12_promise_L55
    simp (disch := omega) only [hM, xrd_at, wr_id, if_pos]
    rw [e3, ih n' (i + 1) _ (by omega) (by omega), ih n' (i + 1) _ (by omega) (by omega), e2, e1]
    split
    · congr 1
      omega
    · congr 1
      omega
theorem nOwn_cg {W W' : Int → Int} {o : Int} {n : Nat} (h : ∀ i : Nat, i < n → W' (370 + 5 * (i : Int)) = W (370 + 5 * (i : Int))) : nOwn W' o n = nOwn W o n := by
  induction n with
  | zero => rfl
  | succ n ih =>
    show nOwn _ o n + _ = nOwn _ o n + _
    rw [ih (fun i hi => h i (by omega)), h n (by omega)]
theorem nOwn_rng (W : Int → Int) (o : Int) (n : Nat) : 0 ≤ nOwn W o n ∧ nOwn W o n ≤ n := by
  induction n with
  | zero => exact ⟨Int.le_refl _, Int.le_refl _⟩
  | succ n ih =>
    have e1 : nOwn W o (n + 1) = nOwn W o n + (if W (370 + 5 * (n : Int)) = o then 1 else 0) := rfl
    rw [e1]
    split <;> omega
theorem turn_eq {a : Int} (h1 : -2147483648 ≤ a) (h2 : a < 2147483648) : fX11_isTurn a = decide (-1 ≤ a ∧ a ≤ 1) := within_eq h1 h2 (by omega) (by omega) (by omega) (by omega)
theorem tc_promise {ph : Bool} {c : Int} {M : xM} {a b d e : Int} (I : Inv ph c M) (ha : -2147483648 ≤ a ∧ a < 2147483648) (hb : -2147483648 ≤ b ∧ b < 2147483648) (hd : -2147483648 ≤ d ∧ d < 2147483648) (he : -2147483648 ≤ e ∧ e < 2147483648) : yk (fX11_promise M a b d e) fun q => yk (fX12_promise q.2 a b d e) fun z => q.1 = z.1 ∧ Inv ph c z.2 := by
  have iB := I.1.1
  have gb := I.2.1.1
  unfold rB at iB
  unfold gB at gb
  have q1 := own_q (o := a) I.1.2.2.2.2.2.2.1 I.2.1.2.2.2.2.2.2.2.1 I.2.1.1 (by omega) ha (M 95 7).toNat xfuel 0 0 (by omega) (by unfold xfuel; omega)
  have q2 := fun M' h => own_p (M' := M') (t := b) (f := d) (u := e) (o := a) I.2.1.2.2.2.2.2.2.2.1 I.2.1.1 h ha (M 95 7).toNat xfuel 0 0 (by omega) (by unfold xfuel; omega)
  have e0 : nOwn (M 95) a 0 = 0 := rfl
  rw [Nat.zero_add, e0] at q1
  simp only [Nat.zero_add, e0] at q2
  have nr := nOwn_rng (M 95) a (M 95 7).toNat
  have nx := I.2.1.2.2.2.2.2.2.2.1.2 a
  generalize hN : nOwn (M 95) a (M 95 7).toNat = N at q1 q2 nr nx
  have z0 : ((0 : Nat) : Int) = 0 := rfl
  rw [z0] at q1
  simp only [z0] at q2
  by_cases g : (0 ≤ a ∧ a < M 95 5) ∧ (-1 ≤ b ∧ b ≤ 1) ∧ (0 ≤ d ∧ d ≤ e) ∧ e ≤ 9999 ∧ M 95 7 < 24 ∧ N < 10
  · have m1 : fX5_mayTake M a = some true := by
      unfold fX5_mayTake
      rw [q1]
      simp (disch := omega) only [xb, wr_id, if_pos]
    unfold fX11_promise fX4_has fX5_take fX12_promise fX12_isPlot
    simp (disch := omega) only [yk_xb, yk_xb2, yk_some, yk_xlet, yk_xj, span_eq, turn_eq, within_eq, isIn_eq, decide_eq_true_eq, if_pos, if_neg, xwt_at, xrd_at, wr_id, forget0_e, forgets_e, m1, xup_o, xup_n, xup_e, eq_self, true_and, ↓reduceIte]
    rw [q2 _ (by simp (disch := omega) only [xup_o])]
    simp (disch := omega) only [yk_xb, yk_xb2, yk_some, yk_xlet, yk_xj, if_neg, xwt_at, xrd_at, wr_id, forgets_e, xup_o, xup_n, xup_e, eq_self, true_and]
    refine ⟨by omega, ?_⟩
    obtain ⟨⟨i1, i2, i3, i4, i5, i6, i7, i8, i9⟩, ⟨g1, g2, g3, g4, g5, g6, g7, g8, g9, g10⟩, T, H, Me, K⟩ := I
    have hn := H.2.2.1
    have cb := clear_bit (s := M 17 2) (i := M 17 0) i7.1.1 i7.1.2 (by omega) (by omega)
    refine ⟨⟨?i1, rSky_fr i2 ?_ ?_, rBook_fr i3 g1 ?_ ?_ ?_ ?_, rPlan_fr i4 ?_ ?_, rPlot_fr i5 g1 ?_ ?_ ?_, rSale_fr i6 g1 ?_ ?_ ?_, ?i7, rLog_fr i8 g1 ?_ ?_ ?_, fun k hk => rWant_fr ?_ ?_ ?_ (g10 _ (by omega) (by omega)) (i9 k hk)⟩, ⟨?g1, gSky_fr g2 ?_, gBook_fr g3 g1 ?_ ?_ ?_, gPlan_fr g4 ?_, gPlot_fr g5 g1 ?_ ?_ ?_, gPay_fr g6 ?_ ?_, gSale_fr g7 g1 ?_ ?_ ?_, ?g8, gLog_fr g9 g1 ?_ ?_ ?_ ?_, fun k h0 h1 => gWant_fr ?_ h0 (g10 k h0 h1)⟩, rTape_fr T ?_ ?_, rHist_0 ?_ ?_ ?_ ?_, rMemo_fr Me g10 ?_ ?_ ?_ ?_, rKept_fr K ?_ ?_ ?_ ?_⟩
    case i1 =>
      unfold rB
      simp (disch := omega) only [↓reduceIte, xup_o, xup_n, xup_e, xfi_o, xfi_e, xcl_o, xcl_e, and_self, and_true, true_and, true_or, or_true, eq_self, Int.le_refl]
      omega
    case g1 =>
      unfold gB
      simp (disch := omega) only [↓reduceIte, xup_o, xup_n, xup_e, xfi_o, xfi_e, xcl_o, xcl_e, and_self, and_true, true_and, true_or, or_true, eq_self, Int.le_refl]
      omega
    case i7 =>
      refine ⟨?_, ?_⟩
      · simp (disch := omega) only [↓reduceIte, xup_o, xup_n, xup_e, xfi_o, xfi_e, xcl_o, xcl_e, and_self, and_true, true_and, true_or, or_true, eq_self, Int.le_refl]
        exact cb.1
      · intro j h0 h1
        simp (disch := omega) only [↓reduceIte, xup_o, xup_n, xup_e, xfi_o, xfi_e, xcl_o, xcl_e, and_self, and_true, true_and, true_or, or_true, eq_self, Int.le_refl] at h1
        have cj := cb.2 j h0 (by omega)
        by_cases hj : j = M 95 7
        · rw [if_pos (by omega)] at cj
          simp (disch := omega) only [↓reduceIte, xup_o, xup_n, xup_e, xfi_o, xfi_e, xcl_o, xcl_e, and_self, and_true, true_and, true_or, or_true, eq_self, Int.le_refl]
          exact cj
        · rw [if_neg (by omega)] at cj
          have := i7.2 j h0 (by omega)
          simp (disch := omega) only [↓reduceIte, xup_o, xup_n, xup_e, xfi_o, xfi_e, xcl_o, xcl_e, and_self, and_true, true_and, true_or, or_true, eq_self, Int.le_refl]
          rw [cj]
          exact this
    case g8 =>
      refine ⟨?_, ?_⟩
      · intro j h0 h1
        simp (disch := omega) only [↓reduceIte, xup_o, xup_n, xup_e, xfi_o, xfi_e, xcl_o, xcl_e, and_self, and_true, true_and, true_or, or_true, eq_self, Int.le_refl] at h1
        by_cases hj : j = M 95 7
        · simp (disch := omega) only [↓reduceIte, xup_o, xup_n, xup_e, xfi_o, xfi_e, xcl_o, xcl_e, and_self, and_true, true_and, true_or, or_true, eq_self, Int.le_refl]
          omega
        · have := g8.1 j h0 (by omega)
          simp (disch := omega) only [↓reduceIte, xup_o, xup_n, xup_e, xfi_o, xfi_e, xcl_o, xcl_e, and_self, and_true, true_and, true_or, or_true, eq_self, Int.le_refl]
          exact this
      · intro o
        simp (disch := omega) only [↓reduceIte, xup_o, xup_n, xup_e, xfi_o, xfi_e, xcl_o, xcl_e, and_self, and_true, true_and, true_or, or_true, eq_self, Int.le_refl]
        have e9 : (M 95 7 + 1).toNat = (M 95 7).toNat + 1 := by omega
        rw [e9]
        show nOwn _ o _ + _ ≤ 10
        refine Int.le_trans (Int.add_le_add_right (Int.le_of_eq (nOwn_cg (W := M 95) ?_)) _) ?_
        · intro i hi
          simp (disch := omega) only [↓reduceIte, xup_o, xup_n, xup_e, xfi_o, xfi_e, xcl_o, xcl_e, and_self, and_true, true_and, true_or, or_true, eq_self, Int.le_refl]
        have e7 := g8.2 o
        have e6 : (((M 95 7).toNat : Nat) : Int) = M 95 7 := by omega
        rw [e6]
        simp (disch := omega) only [↓reduceIte, xup_o, xup_n, xup_e, xfi_o, xfi_e, xcl_o, xcl_e, and_self, and_true, true_and, true_or, or_true, eq_self, Int.le_refl]
        split
        · rename_i ho
          subst ho
          rw [hN]
          omega
        · omega
    all_goals (intros; (first | (simp (disch := omega) only [↓reduceIte, xup_o, xup_n, xup_e, xfi_o, xfi_e, xcl_o, xcl_e, and_self, and_true, true_and, true_or, or_true, eq_self, Int.le_refl]; done) | omega | (simp (disch := omega) only [↓reduceIte, xup_o, xup_n, xup_e, xfi_o, xfi_e, xcl_o, xcl_e, and_self, and_true, true_and, true_or, or_true, eq_self, Int.le_refl]; omega)))
  · have e1 : fX11_promise M a b d e = some (-1, M) := by
      by_cases g7 : M 95 7 < 24 ∧ N < 10
      · unfold fX11_promise fX4_has
        simp (disch := omega) only [span_eq, turn_eq, within_eq, decide_eq_true_eq, wr_id]
        repeat' split
        all_goals first | (exfalso; omega; done) | rfl
      · have m1 : fX5_mayTake M a = some false := by
          unfold fX5_mayTake
          rw [q1]
          simp (disch := omega) only [xb, wr_id]
          repeat' split
          all_goals first | (exfalso; omega; done) | rfl
        unfold fX11_promise
        rw [m1]
        simp only [xb, Bool.false_eq_true, ↓reduceIte, ite_self]
    have e2 : fX12_promise M a b d e = some (-1, M) := by
      unfold fX12_promise fX12_isPlot
      rw [q2 M rfl]
      simp (disch := omega) only [isIn_eq, decide_eq_true_eq, wr_id, xb]
      repeat' split
      all_goals first | (exfalso; omega; done) | rfl
    exact ⟨_, e1, _, e2, rfl, I⟩
theorem stands_e {W : Int → Int} {M : xM} {i : Int} (iP : rProm M W) (i7 : M 17 0 = W 7) (h7 : 0 ≤ W 7 ∧ W 7 ≤ 24) (hi : -2147483648 ≤ i ∧ i < 2147483648) : fX5_stands M i = decide (0 ≤ i ∧ i < W 7 ∧ W (374 + 5 * i) = 0) := by
  unfold fX5_stands
  simp (disch := omega) only [within_eq, decide_eq_true_eq]
  by_cases h : 0 ≤ i ∧ i < W 7
  · have c := (iP.2 i h.1 h.2).2.2.2.2
    have d := iP.1
    simp (disch := omega) only [if_pos, bit_eq]
    rw [c]
    have b := bt_rng (M 17 2) i
    rw [c] at b
    rw [wr_id (by omega) (by omega)]
    symm
    split
    · rw [decide_eq_true_eq]; omega
    · rw [decide_eq_false_iff_not]; omega
  · rw [if_neg (by omega)]
    symm
    rw [decide_eq_false_iff_not]
    omega
theorem standsM_e {M : xM} {i : Int} (gP : gProm (M 95)) (h7 : 0 ≤ M 95 7 ∧ M 95 7 ≤ 24) (hi : 0 ≤ i ∧ i < M 95 7) : fX12_stands M i = some (decide (M 95 (374 + 5 * i) = 0)) := by
  have g := (gP.1 i hi.1 hi.2).2.2.2
  have a : 370 + 5 * i + 4 = 374 + 5 * i := by omega
  unfold fX12_stands
  simp (disch := omega) only [xrd_at, a, wr_id]
  split
  · rename_i h; rw [h]; rfl
  · rename_i h; rw [decide_eq_false h]
theorem tc_drop {ph : Bool} {c : Int} {M : xM} {a : Int} (I : Inv ph c M) (ha : -2147483648 ≤ a ∧ a < 2147483648) : yk (fX11_drop M a) fun q => yk (fX12_drop q.2 a) fun z => q.1 = z.1 ∧ Inv ph c z.2 := by
  have iB := I.1.1
  have gb := I.2.1.1
  unfold rB at iB
  unfold gB at gb
  have s1 := stands_e (i := a) I.1.2.2.2.2.2.2.1 (by omega) (by omega) ha
  by_cases g : (0 ≤ a ∧ a < M 95 7) ∧ M 95 (374 + 5 * a) = 0
  · have s2 := fun M' (h : M' 95 = M 95) => standsM_e (M := M') (i := a) (by rw [h]; exact I.2.1.2.2.2.2.2.2.2.1) (by rw [h]; omega) (by rw [h]; omega)
    unfold fX11_drop fX5_release fX12_drop
    rw [s1]
    simp (disch := omega) only [yk_xb, yk_xb2, yk_some, yk_xlet, yk_xj, decide_eq_true_eq, if_pos, isIn_eq, forget0_e, xup_o, xup_n, xup_e]
    rw [s2 _ (by simp (disch := omega) only [xup_o])]
    simp (disch := omega) only [yk_some, yk_xb, decide_eq_true_eq, if_pos, xwt_at, forgets_e, xup_o, xup_n, xup_e, true_and]
    obtain ⟨⟨i1, i2, i3, i4, i5, i6, i7, i8, i9⟩, ⟨g1, g2, g3, g4, g5, g6, g7, g8, g9, g10⟩, T, H, Me, K⟩ := I
    have hn := H.2.2.1
    have cb := or_bit (s := M 17 2) (i := a) (n := 24) (by decide) i7.1.1 i7.1.2 (by omega) (by omega)
    refine ⟨⟨?i1, rSky_fr i2 ?_ ?_, rBook_fr i3 g1 ?_ ?_ ?_ ?_, rPlan_fr i4 ?_ ?_, rPlot_fr i5 g1 ?_ ?_ ?_, rSale_fr i6 g1 ?_ ?_ ?_, ?i7, rLog_fr i8 g1 ?_ ?_ ?_, fun k hk => rWant_fr ?_ ?_ ?_ (g10 _ (by omega) (by omega)) (i9 k hk)⟩, ⟨?g1, gSky_fr g2 ?_, gBook_fr g3 g1 ?_ ?_ ?_, gPlan_fr g4 ?_, gPlot_fr g5 g1 ?_ ?_ ?_, gPay_fr g6 ?_ ?_, gSale_fr g7 g1 ?_ ?_ ?_, ?g8, gLog_fr g9 g1 ?_ ?_ ?_ ?_, fun k h0 h1 => gWant_fr ?_ h0 (g10 k h0 h1)⟩, rTape_fr T ?_ ?_, rHist_0 ?_ ?_ ?_ ?_, rMemo_fr Me g10 ?_ ?_ ?_ ?_, rKept_fr K ?_ ?_ ?_ ?_⟩
    case i1 =>
      unfold rB
      simp (disch := omega) only [↓reduceIte, xup_o, xup_n, xup_e, xfi_o, xfi_e, xcl_o, xcl_e, and_self, and_true, true_and, true_or, or_true, eq_self, Int.le_refl]
      omega
    case g1 =>
      unfold gB
      simp (disch := omega) only [↓reduceIte, xup_o, xup_n, xup_e, xfi_o, xfi_e, xcl_o, xcl_e, and_self, and_true, true_and, true_or, or_true, eq_self, Int.le_refl]
      omega
    case i7 =>
      refine ⟨?_, ?_⟩
      · simp (disch := omega) only [↓reduceIte, xup_o, xup_n, xup_e, xfi_o, xfi_e, xcl_o, xcl_e, and_self, and_true, true_and, true_or, or_true, eq_self, Int.le_refl]
        exact cb.1
      · intro j h0 h1
        simp (disch := omega) only [↓reduceIte, xup_o, xup_n, xup_e, xfi_o, xfi_e, xcl_o, xcl_e, and_self, and_true, true_and, true_or, or_true, eq_self, Int.le_refl] at h1
        have cj := cb.2 j h0
        have := i7.2 j h0 (by omega)
        by_cases hj : j = a
        · rw [if_pos (by omega)] at cj
          simp (disch := omega) only [↓reduceIte, xup_o, xup_n, xup_e, xfi_o, xfi_e, xcl_o, xcl_e, and_self, and_true, true_and, true_or, or_true, eq_self, Int.le_refl]
          refine ⟨this.1, this.2.1, this.2.2.1, this.2.2.2.1, cj⟩
        · rw [if_neg (by omega)] at cj
          simp (disch := omega) only [↓reduceIte, xup_o, xup_n, xup_e, xfi_o, xfi_e, xcl_o, xcl_e, and_self, and_true, true_and, true_or, or_true, eq_self, Int.le_refl]
          rw [cj]
          exact this
    case g8 =>
      refine ⟨?_, ?_⟩
      · intro j h0 h1
        simp (disch := omega) only [↓reduceIte, xup_o, xup_n, xup_e, xfi_o, xfi_e, xcl_o, xcl_e, and_self, and_true, true_and, true_or, or_true, eq_self, Int.le_refl] at h1
        have := g8.1 j h0 (by omega)
        by_cases hj : j = a
        · simp (disch := omega) only [↓reduceIte, xup_o, xup_n, xup_e, xfi_o, xfi_e, xcl_o, xcl_e, and_self, and_true, true_and, true_or, or_true, eq_self, Int.le_refl]
          omega
        · simp (disch := omega) only [↓reduceIte, xup_o, xup_n, xup_e, xfi_o, xfi_e, xcl_o, xcl_e, and_self, and_true, true_and, true_or, or_true, eq_self, Int.le_refl]
          exact this
      · intro o
        simp (disch := omega) only [↓reduceIte, xup_o, xup_n, xup_e, xfi_o, xfi_e, xcl_o, xcl_e, and_self, and_true, true_and, true_or, or_true, eq_self, Int.le_refl]
        refine Int.le_trans (Int.le_of_eq (nOwn_cg (W := M 95) ?_)) (g8.2 o)
        intro i hi
        simp (disch := omega) only [↓reduceIte, xup_o, xup_n, xup_e, xfi_o, xfi_e, xcl_o, xcl_e, and_self, and_true, true_and, true_or, or_true, eq_self, Int.le_refl]
    all_goals (intros; (first | (simp (disch := omega) only [↓reduceIte, xup_o, xup_n, xup_e, xfi_o, xfi_e, xcl_o, xcl_e, and_self, and_true, true_and, true_or, or_true, eq_self, Int.le_refl]; done) | omega | (simp (disch := omega) only [↓reduceIte, xup_o, xup_n, xup_e, xfi_o, xfi_e, xcl_o, xcl_e, and_self, and_true, true_and, true_or, or_true, eq_self, Int.le_refl]; omega)))
  · have e1 : fX11_drop M a = some (false, M) := by
      unfold fX11_drop
      rw [s1, decide_eq_false (by omega)]
      rfl
    have e2 : fX12_drop M a = some (false, M) := by
      unfold fX12_drop
      by_cases h : 0 ≤ a ∧ a < M 95 7
      · rw [standsM_e I.2.1.2.2.2.2.2.2.2.1 (by omega) h, decide_eq_false (by omega)]
        simp only [xb, Bool.false_eq_true, ↓reduceIte, ite_self]
      · simp (disch := omega) only [isIn_eq, decide_eq_true_eq, if_neg]
    exact ⟨_, e1, _, e2, rfl, I⟩
