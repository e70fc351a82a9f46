/-! the easy calls -/
theorem tc_plan {ph : Bool} {c : Int} {M : xM} {a b : Int} (I : Inv ph c M) (ha : -2147483648 ≤ a ∧ a < 2147483648) (hb : -2147483648 ≤ b ∧ b < 2147483648) : yk (fX11_plan M a b) fun q => yk (fX12_plan q.2 a b) fun z => q.1 = z.1 ∧ Inv ph c z.2 := by
  by_cases g : (0 ≤ a ∧ a ≤ 59) ∧ (-1 ≤ b ∧ b ≤ 1)
  · have e1 : fX11_plan M a b = some (true, xup M 4 a b) := by
      unfold fX11_plan fX11_isTurn
      simp (disch := omega) only [within_eq, isIn_eq, decide_eq_true_eq, xwt_at, xrd_at, xix_at, wr_id]
      repeat' split
      all_goals first | (exfalso; omega; done) | rfl
    have e2 : fX12_plan (xup M 4 a b) a b = some (true, xup (xup M 4 a b) 95 (70 + a) b) := by
      unfold fX12_plan
      simp (disch := omega) only [within_eq, isIn_eq, decide_eq_true_eq, xwt_at, xrd_at, xix_at, wr_id]
      repeat' split
      all_goals first | (exfalso; omega; done) | rfl
    refine ⟨_, e1, _, e2, rfl, ?_⟩
    dsimp only
    obtain ⟨⟨i1, i2, i3, i4, i5, i6, i7, i8, i9⟩, ⟨g1, g2, g3, g4, g5, g6, g7, g8, g9, g10⟩, T, H, Me, K⟩ := I
    refine ⟨⟨rB_fr i1 ?_ ?_, rSky_fr i2 ?_ ?_, rBook_fr i3 g1 ?_ ?_ ?_ ?_, ?i4, rPlot_fr i5 g1 ?_ ?_ ?_, rSale_fr i6 g1 ?_ ?_ ?_, rProm_fr i7 g1 ?_ ?_ ?_, rLog_fr i8 g1 ?_ ?_ ?_, fun k hk => rWant_fr ?_ ?_ ?_ (g10 _ (by omega) (by omega)) (i9 k hk)⟩, ⟨gB_fr g1 ?_, gSky_fr g2 ?_, gBook_fr g3 g1 ?_ ?_ ?_, ?g4, gPlot_fr g5 g1 ?_ ?_ ?_, gPay_fr g6 ?_ ?_, gSale_fr g7 g1 ?_ ?_ ?_, gProm_fr g8 g1 ?_ ?_ ?_, gLog_fr g9 g1 ?_ ?_ ?_ ?_, fun k h0 h1 => gWant_fr ?_ h0 (g10 k h0 h1)⟩, rTape_fr T ?_ ?_, rHist_fr H ?_ ?_ ?_ ?_, rMemo_fr Me g10 ?_ ?_ ?_ ?_, rKept_fr K ?_ ?_ ?_ ?_⟩
    case i4 =>
      intro j h0 h1
      have := i4 j h0 h1
      by_cases hj : j = a
      · simp (disch := omega) only [xup_o, xup_n, xup_e]
      · simp (disch := omega) only [xup_o, xup_n, xup_e]
        exact this
    case g4 =>
      intro j h0 h1
      have := g4 j h0 h1
      by_cases hj : j = a
      · simp (disch := omega) only [xup_o, xup_n, xup_e]
        omega
      · simp (disch := omega) only [xup_o, xup_n, xup_e]
        exact this
    all_goals (intros; (first | (simp (disch := omega) only [↓reduceIte, xup_o, xup_n, xup_e, xfi_o, xfi_e, xcl_o, xcl_e, and_self, and_true, true_and, true_or, or_true, eq_self, Int.le_refl]; done) | omega | (simp (disch := omega) only [↓reduceIte, xup_o, xup_n, xup_e, xfi_o, xfi_e, xcl_o, xcl_e, and_self, and_true, true_and, true_or, or_true, eq_self, Int.le_refl]; omega)))
  · have e1 : fX11_plan M a b = some (false, M) := by
      unfold fX11_plan fX11_isTurn
      simp (disch := omega) only [within_eq, isIn_eq, decide_eq_true_eq, xwt_at, xrd_at, xix_at, wr_id]
      repeat' split
      all_goals first | (exfalso; omega; done) | rfl
    have e2 : fX12_plan M a b = some (false, M) := by
      unfold fX12_plan
      simp (disch := omega) only [within_eq, isIn_eq, decide_eq_true_eq, xwt_at, xrd_at, xix_at, wr_id]
      repeat' split
      all_goals first | (exfalso; omega; done) | rfl
    exact ⟨_, e1, _, e2, rfl, I⟩
theorem tc_pay {ph : Bool} {c : Int} {M : xM} {a b : Int} (I : Inv ph c M) (ha : -2147483648 ≤ a ∧ a < 2147483648) (hb : -2147483648 ≤ b ∧ b < 2147483648) : yk (fX11_pay M a b) fun q => yk (fX12_pay q.2 a b) fun z => q.1 = z.1 ∧ Inv ph c z.2 := by
  have iB := I.1.1
  have gb := I.2.1.1
  unfold rB at iB
  unfold gB at gb
  by_cases g : (0 ≤ a ∧ a < M 95 5) ∧ (-99999 ≤ b ∧ b ≤ 99999)
  · unfold fX11_pay fX4_has fX12_pay fX12_isPlot
    simp (disch := omega) only [yk_xb, yk_xb2, yk_some, yk_xlet, yk_xj, within_eq, isIn_eq, decide_eq_true_eq, if_pos, if_neg, xwt_at, xrd_at, xix_at, wr_id, forget_e, forget0_e, forgets_e, ↓reduceIte, xup_o, xup_n, xup_e, xfi_o, xfi_e, xcl_o, xcl_e, and_self, and_true, true_and, true_or, or_true, eq_self, Int.le_refl]
    obtain ⟨⟨i1, i2, i3, i4, i5, i6, i7, i8, i9⟩, ⟨g1, g2, g3, g4, g5, g6, g7, g8, g9, g10⟩, T, H, Me, K⟩ := I
    refine ⟨⟨rB_fr i1 ?_ ?_, rSky_fr i2 ?_ ?_, rBook_fr i3 g1 ?_ ?_ ?_ ?_, rPlan_fr i4 ?_ ?_, ?i5, rSale_fr i6 g1 ?_ ?_ ?_, rProm_fr i7 g1 ?_ ?_ ?_, rLog_fr i8 g1 ?_ ?_ ?_, fun k hk => rWant_fr ?_ ?_ ?_ (g10 _ (by omega) (by omega)) (i9 k hk)⟩, ⟨gB_fr g1 ?_, gSky_fr g2 ?_, gBook_fr g3 g1 ?_ ?_ ?_, gPlan_fr g4 ?_, gPlot_fr g5 g1 ?_ ?_ ?_, ?g6, gSale_fr g7 g1 ?_ ?_ ?_, gProm_fr g8 g1 ?_ ?_ ?_, gLog_fr g9 g1 ?_ ?_ ?_ ?_, fun k h0 h1 => gWant_fr ?_ h0 (g10 k h0 h1)⟩, rTape_fr T ?_ ?_, rHist_fr H ?_ ?_ ?_ ?_, rMemo_fr Me g10 ?_ ?_ ?_ ?_, rKept_fr K ?_ ?_ ?_ ?_⟩
    case i5 =>
      intro j h0 h1
      simp (disch := omega) only [↓reduceIte, xup_o, xup_n, xup_e, xfi_o, xfi_e, xcl_o, xcl_e, and_self, and_true, true_and, true_or, or_true, eq_self, Int.le_refl] at h1
      have := i5 j h0 h1
      by_cases hj : j = a
      · simp (disch := omega) only [↓reduceIte, xup_o, xup_n, xup_e, xfi_o, xfi_e, xcl_o, xcl_e, and_self, and_true, true_and, true_or, or_true, eq_self, Int.le_refl]
        all_goals omega
      · simp (disch := omega) only [↓reduceIte, xup_o, xup_n, xup_e, xfi_o, xfi_e, xcl_o, xcl_e, and_self, and_true, true_and, true_or, or_true, eq_self, Int.le_refl]
        exact this
    case g6 =>
      intro j h0 h1
      have := g6 j h0 h1
      by_cases hj : j = a
      · simp (disch := omega) only [xup_o, xup_n, xup_e]
        omega
      · simp (disch := omega) only [xup_o, xup_n, xup_e]
        exact this
    all_goals (intros; (first | (simp (disch := omega) only [↓reduceIte, xup_o, xup_n, xup_e, xfi_o, xfi_e, xcl_o, xcl_e, and_self, and_true, true_and, true_or, or_true, eq_self, Int.le_refl]; done) | omega | (simp (disch := omega) only [↓reduceIte, xup_o, xup_n, xup_e, xfi_o, xfi_e, xcl_o, xcl_e, and_self, and_true, true_and, true_or, or_true, eq_self, Int.le_refl]; omega)))
  · have e1 : fX11_pay M a b = some (false, M) := by
      unfold fX11_pay fX4_has
      simp (disch := omega) only [within_eq, isIn_eq, decide_eq_true_eq, xwt_at, xrd_at, xix_at, wr_id]
      repeat' split
      all_goals first | (exfalso; omega; done) | rfl
    have e2 : fX12_pay M a b = some (false, M) := by
      unfold fX12_pay fX12_isPlot
      simp (disch := omega) only [within_eq, isIn_eq, decide_eq_true_eq, xwt_at, xrd_at, xix_at, wr_id]
      repeat' split
      all_goals first | (exfalso; omega; done) | rfl
    exact ⟨_, e1, _, e2, rfl, I⟩
theorem tc_log {ph : Bool} {c : Int} {M : xM} {a b d : Int} (I : Inv ph c M) (ha : -2147483648 ≤ a ∧ a < 2147483648) (hb : -2147483648 ≤ b ∧ b < 2147483648) (hd : -2147483648 ≤ d ∧ d < 2147483648) : yk (fX11_log M a b d) fun q => yk (fX12_log q.2 a b d) fun z => q.1 = z.1 ∧ Inv ph c z.2 := by
  have iB := I.1.1
  have gb := I.2.1.1
  unfold rB at iB
  unfold gB at gb
  by_cases g : (0 ≤ a ∧ a ≤ 9999) ∧ (0 ≤ b ∧ b < M 95 5) ∧ (0 ≤ d ∧ d < M 95 0) ∧ M 95 8 < 40
  · unfold fX11_log fX11_isDay fX4_has fX1_hasAngle fX2_take fX12_log fX12_isDay fX12_isPlot fX12_isAngle
    simp (disch := omega) only [yk_xb, yk_xb2, yk_some, yk_xlet, yk_xj, within_eq, isIn_eq, decide_eq_true_eq, if_pos, if_neg, xwt_at, xrd_at, xix_at, wr_id, forget_e, forget0_e, forgets_e, ↓reduceIte, xup_o, xup_n, xup_e, xfi_o, xfi_e, xcl_o, xcl_e, and_self, and_true, true_and, true_or, or_true, eq_self, Int.le_refl]
    obtain ⟨⟨i1, i2, i3, i4, i5, i6, i7, i8, i9⟩, ⟨g1, g2, g3, g4, g5, g6, g7, g8, g9, g10⟩, T, H, Me, K⟩ := I
    refine ⟨⟨?i1, rSky_fr i2 ?_ ?_, rBook_fr i3 g1 ?_ ?_ ?_ ?_, rPlan_fr i4 ?_ ?_, rPlot_fr i5 g1 ?_ ?_ ?_, rSale_fr i6 g1 ?_ ?_ ?_, rProm_fr i7 g1 ?_ ?_ ?_, ?i8, fun k hk => rWant_fr ?_ ?_ ?_ (g10 _ (by omega) (by omega)) (i9 k hk)⟩, ⟨?g1, gSky_fr g2 ?_, gBook_fr g3 g1 ?_ ?_ ?_, gPlan_fr g4 ?_, gPlot_fr g5 g1 ?_ ?_ ?_, gPay_fr g6 ?_ ?_, gSale_fr g7 g1 ?_ ?_ ?_, gProm_fr g8 g1 ?_ ?_ ?_, ?g9, fun k h0 h1 => gWant_fr ?_ h0 (g10 k h0 h1)⟩, rTape_fr T ?_ ?_, rHist_fr H ?_ ?_ ?_ ?_, rMemo_fr Me g10 ?_ ?_ ?_ ?_, rKept_fr K ?_ ?_ ?_ ?_⟩
    case i1 =>
      unfold rB
      simp (disch := omega) only [↓reduceIte, xup_o, xup_n, xup_e, xfi_o, xfi_e, xcl_o, xcl_e, and_self, and_true, true_and, true_or, or_true, eq_self, Int.le_refl]
      omega
    case g1 =>
      unfold gB
      simp (disch := omega) only [↓reduceIte, xup_o, xup_n, xup_e, xfi_o, xfi_e, xcl_o, xcl_e, and_self, and_true, true_and, true_or, or_true, eq_self, Int.le_refl]
      omega
    case i8 =>
      intro j h0 h1
      simp (disch := omega) only [↓reduceIte, xup_o, xup_n, xup_e, xfi_o, xfi_e, xcl_o, xcl_e, and_self, and_true, true_and, true_or, or_true, eq_self, Int.le_refl] at h1
      by_cases hj : j = M 95 8
      · simp (disch := omega) only [↓reduceIte, xup_o, xup_n, xup_e, xfi_o, xfi_e, xcl_o, xcl_e, and_self, and_true, true_and, true_or, or_true, eq_self, Int.le_refl]
      · have := i8 j h0 (by omega)
        simp (disch := omega) only [↓reduceIte, xup_o, xup_n, xup_e, xfi_o, xfi_e, xcl_o, xcl_e, and_self, and_true, true_and, true_or, or_true, eq_self, Int.le_refl]
        exact this
    case g9 =>
      intro j h0 h1
      simp (disch := omega) only [↓reduceIte, xup_o, xup_n, xup_e, xfi_o, xfi_e, xcl_o, xcl_e, and_self, and_true, true_and, true_or, or_true, eq_self, Int.le_refl] at h1
      by_cases hj : j = M 95 8
      · simp (disch := omega) only [↓reduceIte, xup_o, xup_n, xup_e, xfi_o, xfi_e, xcl_o, xcl_e, and_self, and_true, true_and, true_or, or_true, eq_self, Int.le_refl]
        omega
      · have := g9 j h0 (by omega)
        simp (disch := omega) only [↓reduceIte, xup_o, xup_n, xup_e, xfi_o, xfi_e, xcl_o, xcl_e, and_self, and_true, true_and, true_or, or_true, eq_self, Int.le_refl]
        exact this
    all_goals (intros; (first | (simp (disch := omega) only [↓reduceIte, xup_o, xup_n, xup_e, xfi_o, xfi_e, xcl_o, xcl_e, and_self, and_true, true_and, true_or, or_true, eq_self, Int.le_refl]; done) | omega | (simp (disch := omega) only [↓reduceIte, xup_o, xup_n, xup_e, xfi_o, xfi_e, xcl_o, xcl_e, and_self, and_true, true_and, true_or, or_true, eq_self, Int.le_refl]; omega)))
  · have e1 : fX11_log M a b d = some (false, M) := by
      unfold fX11_log fX11_isDay fX4_has fX1_hasAngle
      simp (disch := omega) only [within_eq, isIn_eq, decide_eq_true_eq, xwt_at, xrd_at, xix_at, wr_id]
      repeat' split
      all_goals first | (exfalso; omega; done) | rfl
    have e2 : fX12_log M a b d = some (false, M) := by
      unfold fX12_log fX12_isDay fX12_isPlot fX12_isAngle
      simp (disch := omega) only [within_eq, isIn_eq, decide_eq_true_eq, xwt_at, xrd_at, xix_at, wr_id]
      repeat' split
      all_goals first | (exfalso; omega; done) | rfl
    exact ⟨_, e1, _, e2, rfl, I⟩
theorem tc_sky {ph : Bool} {c : Int} {M : xM} {a b d e : Int} (I : Inv ph c M) (ha : -2147483648 ≤ a ∧ a < 2147483648) (hb : -2147483648 ≤ b ∧ b < 2147483648) (hd : -2147483648 ≤ d ∧ d < 2147483648) (he : -2147483648 ≤ e ∧ e < 2147483648) : yk (fX11_sky M a b d e) fun q => yk (fX12_sky q.2 a b d e) fun z => q.1 = z.1 ∧ Inv ph c z.2 := by
  have iB := I.1.1
  have gb := I.2.1.1
  unfold rB at iB
  unfold gB at gb
  by_cases g : (0 ≤ a ∧ a ≤ 2) ∧ (0 ≤ b ∧ b ≤ 11) ∧ (0 ≤ d ∧ d < M 95 0) ∧ (-9 ≤ e ∧ e ≤ 9)
  · unfold fX11_sky fX1_hasAngle fX1_skyCell fX12_sky fX12_isAngle
    simp (disch := omega) only [yk_xb, yk_xb2, yk_some, yk_xlet, yk_xj, within_eq, isIn_eq, decide_eq_true_eq, if_pos, if_neg, xwt_at, xrd_at, xix_at, wr_id, forget_e, forget0_e, forgets_e, ↓reduceIte, xup_o, xup_n, xup_e, xfi_o, xfi_e, xcl_o, xcl_e, and_self, and_true, true_and, true_or, or_true, eq_self, Int.le_refl]
    obtain ⟨⟨i1, i2, i3, i4, i5, i6, i7, i8, i9⟩, ⟨g1, g2, g3, g4, g5, g6, g7, g8, g9, g10⟩, T, H, Me, K⟩ := I
    have hn := H.2.2.1
    refine ⟨⟨rB_fr i1 ?_ ?_, ?i2, rBook_fr i3 g1 ?_ ?_ ?_ ?_, rPlan_fr i4 ?_ ?_, rPlot_fr i5 g1 ?_ ?_ ?_, rSale_fr i6 g1 ?_ ?_ ?_, rProm_fr i7 g1 ?_ ?_ ?_, rLog_fr i8 g1 ?_ ?_ ?_, fun k hk => rWant_fr ?_ ?_ ?_ (g10 _ (by omega) (by omega)) (i9 k hk)⟩, ⟨gB_fr g1 ?_, ?g2, gBook_fr g3 g1 ?_ ?_ ?_, gPlan_fr g4 ?_, gPlot_fr g5 g1 ?_ ?_ ?_, gPay_fr g6 ?_ ?_, gSale_fr g7 g1 ?_ ?_ ?_, gProm_fr g8 g1 ?_ ?_ ?_, gLog_fr g9 g1 ?_ ?_ ?_ ?_, fun k h0 h1 => gWant_fr ?_ h0 (g10 k h0 h1)⟩, rTape_fr T ?_ ?_, rHist_0 ?_ ?_ ?_ ?_, rMemo_0 Me ?_ ?_, rKept_fr K ?_ ?_ ?_ ?_⟩
    case i2 =>
      intro j h0 h1
      by_cases hj : j = (a * 12 + b) * 24 + d
      · simp (disch := omega) only [↓reduceIte, xup_o, xup_n, xup_e, xfi_o, xfi_e, xcl_o, xcl_e, and_self, and_true, true_and, true_or, or_true, eq_self, Int.le_refl]
      · have := i2 j h0 h1
        simp (disch := omega) only [↓reduceIte, xup_o, xup_n, xup_e, xfi_o, xfi_e, xcl_o, xcl_e, and_self, and_true, true_and, true_or, or_true, eq_self, Int.le_refl]
        exact this
    case g2 =>
      intro j h0 h1
      by_cases hj : j = (a * 12 + b) * 24 + d
      · simp (disch := omega) only [↓reduceIte, xup_o, xup_n, xup_e, xfi_o, xfi_e, xcl_o, xcl_e, and_self, and_true, true_and, true_or, or_true, eq_self, Int.le_refl]
        omega
      · have := g2 j h0 h1
        simp (disch := omega) only [↓reduceIte, xup_o, xup_n, xup_e, xfi_o, xfi_e, xcl_o, xcl_e, and_self, and_true, true_and, true_or, or_true, eq_self, Int.le_refl]
        exact this
    all_goals (intros; (first | (simp (disch := omega) only [↓reduceIte, xup_o, xup_n, xup_e, xfi_o, xfi_e, xcl_o, xcl_e, and_self, and_true, true_and, true_or, or_true, eq_self, Int.le_refl]; done) | omega | (simp (disch := omega) only [↓reduceIte, xup_o, xup_n, xup_e, xfi_o, xfi_e, xcl_o, xcl_e, and_self, and_true, true_and, true_or, or_true, eq_self, Int.le_refl]; omega)))
  · have e1 : fX11_sky M a b d e = some (false, M) := by
      unfold fX11_sky fX1_hasAngle fX1_skyCell
      simp (disch := omega) only [within_eq, isIn_eq, decide_eq_true_eq, xwt_at, xrd_at, xix_at, wr_id]
      repeat' split
      all_goals first | (exfalso; omega; done) | rfl
    have e2 : fX12_sky M a b d e = some (false, M) := by
      unfold fX12_sky fX12_isAngle
      simp (disch := omega) only [within_eq, isIn_eq, decide_eq_true_eq, xwt_at, xrd_at, xix_at, wr_id]
      repeat' split
      all_goals first | (exfalso; omega; done) | rfl
    exact ⟨_, e1, _, e2, rfl, I⟩
theorem tc_plot {ph : Bool} {c : Int} {M : xM} {a b d e : Int} (I : Inv ph c M) (ha : -2147483648 ≤ a ∧ a < 2147483648) (hb : -2147483648 ≤ b ∧ b < 2147483648) (hd : -2147483648 ≤ d ∧ d < 2147483648) (he : -2147483648 ≤ e ∧ e < 2147483648) : yk (fX11_plot M a b d e) fun q => yk (fX12_plot q.2 a b d e) fun z => q.1 = z.1 ∧ Inv ph c z.2 := by
  have iB := I.1.1
  have gb := I.2.1.1
  unfold rB at iB
  unfold gB at gb
  by_cases g : (0 ≤ a ∧ a < M 95 0) ∧ (1 ≤ b ∧ b ≤ 9) ∧ (0 ≤ d ∧ d ≤ 4) ∧ (-99999 ≤ e ∧ e ≤ 99999) ∧ M 95 5 < 10
  · unfold fX11_plot fX1_hasAngle fX4_join fX12_plot fX12_isAngle
    simp (disch := omega) only [yk_xb, yk_xb2, yk_some, yk_xlet, yk_xj, within_eq, isIn_eq, decide_eq_true_eq, if_pos, if_neg, xwt_at, xrd_at, xix_at, wr_id, forget_e, forget0_e, forgets_e, ↓reduceIte, xup_o, xup_n, xup_e, xfi_o, xfi_e, xcl_o, xcl_e, and_self, and_true, true_and, true_or, or_true, eq_self, Int.le_refl]
    refine ⟨by omega, ?_⟩
    obtain ⟨⟨i1, i2, i3, i4, i5, i6, i7, i8, i9⟩, ⟨g1, g2, g3, g4, g5, g6, g7, g8, g9, g10⟩, T, H, Me, K⟩ := I
    have hn := H.2.2.1
    refine ⟨⟨?i1, rSky_fr i2 ?_ ?_, rBook_fr i3 g1 ?_ ?_ ?_ ?_, rPlan_fr i4 ?_ ?_, ?i5, rSale_fr i6 g1 ?_ ?_ ?_, rProm_fr i7 g1 ?_ ?_ ?_, rLog_fr i8 g1 ?_ ?_ ?_, fun k hk => rWant_fr ?_ ?_ ?_ (g10 _ (by omega) (by omega)) (i9 k hk)⟩, ⟨?g1, gSky_fr g2 ?_, gBook_fr g3 g1 ?_ ?_ ?_, gPlan_fr g4 ?_, ?g5, ?g6, gSale_fr g7 g1 ?_ ?_ ?_, gProm_fr g8 g1 ?_ ?_ ?_, gLog_fr g9 g1 ?_ ?_ ?_ ?_, fun k h0 h1 => gWant_fr ?_ h0 (g10 k h0 h1)⟩, rTape_fr T ?_ ?_, rHist_0 ?_ ?_ ?_ ?_, rMemo_fr Me g10 ?_ ?_ ?_ ?_, rKept_fr K ?_ ?_ ?_ ?_⟩
    case i1 =>
      unfold rB
      simp (disch := omega) only [↓reduceIte, xup_o, xup_n, xup_e, xfi_o, xfi_e, xcl_o, xcl_e, and_self, and_true, true_and, true_or, or_true, eq_self, Int.le_refl]
      omega
    case g1 =>
      unfold gB
      simp (disch := omega) only [↓reduceIte, xup_o, xup_n, xup_e, xfi_o, xfi_e, xcl_o, xcl_e, and_self, and_true, true_and, true_or, or_true, eq_self, Int.le_refl]
      omega
    case i5 =>
      intro j h0 h1
      simp (disch := omega) only [↓reduceIte, xup_o, xup_n, xup_e, xfi_o, xfi_e, xcl_o, xcl_e, and_self, and_true, true_and, true_or, or_true, eq_self, Int.le_refl] at h1
      by_cases hj : j = M 95 5
      · have := g6 j h0 (by omega)
        simp (disch := omega) only [↓reduceIte, xup_o, xup_n, xup_e, xfi_o, xfi_e, xcl_o, xcl_e, and_self, and_true, true_and, true_or, or_true, eq_self, Int.le_refl]
        all_goals omega
      · have := i5 j h0 (by omega)
        simp (disch := omega) only [↓reduceIte, xup_o, xup_n, xup_e, xfi_o, xfi_e, xcl_o, xcl_e, and_self, and_true, true_and, true_or, or_true, eq_self, Int.le_refl]
        exact this
    case g5 =>
      intro j h0 h1
      simp (disch := omega) only [↓reduceIte, xup_o, xup_n, xup_e, xfi_o, xfi_e, xcl_o, xcl_e, and_self, and_true, true_and, true_or, or_true, eq_self, Int.le_refl] at h1
      by_cases hj : j = M 95 5
      · simp (disch := omega) only [↓reduceIte, xup_o, xup_n, xup_e, xfi_o, xfi_e, xcl_o, xcl_e, and_self, and_true, true_and, true_or, or_true, eq_self, Int.le_refl]
        omega
      · have := g5 j h0 (by omega)
        simp (disch := omega) only [↓reduceIte, xup_o, xup_n, xup_e, xfi_o, xfi_e, xcl_o, xcl_e, and_self, and_true, true_and, true_or, or_true, eq_self, Int.le_refl]
        exact this
    case g6 =>
      intro j h0 h1
      have := g6 j h0 h1
      simp (disch := omega) only [↓reduceIte, xup_o, xup_n, xup_e, xfi_o, xfi_e, xcl_o, xcl_e, and_self, and_true, true_and, true_or, or_true, eq_self, Int.le_refl]
      omega
    all_goals (intros; (first | (simp (disch := omega) only [↓reduceIte, xup_o, xup_n, xup_e, xfi_o, xfi_e, xcl_o, xcl_e, and_self, and_true, true_and, true_or, or_true, eq_self, Int.le_refl]; done) | omega | (simp (disch := omega) only [↓reduceIte, xup_o, xup_n, xup_e, xfi_o, xfi_e, xcl_o, xcl_e, and_self, and_true, true_and, true_or, or_true, eq_self, Int.le_refl]; omega)))
  · have e1 : fX11_plot M a b d e = some (-1, M) := by
      unfold fX11_plot fX1_hasAngle
      simp (disch := omega) only [within_eq, isIn_eq, decide_eq_true_eq, xwt_at, xrd_at, xix_at, wr_id]
      repeat' split
      all_goals first | (exfalso; omega; done) | rfl
    have e2 : fX12_plot M a b d e = some (-1, M) := by
      unfold fX12_plot fX12_isAngle
      simp (disch := omega) only [within_eq, isIn_eq, decide_eq_true_eq, xwt_at, xrd_at, xix_at, wr_id]
      repeat' split
      all_goals first | (exfalso; omega; done) | rfl
    exact ⟨_, e1, _, e2, rfl, I⟩
theorem tc_end {ph : Bool} {c : Int} {M : xM} {a : Int} (I : Inv ph c M) (ha : -2147483648 ≤ a ∧ a < 2147483648) : yk (fX11_end M a) fun q => yk (fX12_end q.2 a) fun z => q.1 = z.1 ∧ Inv ph c z.2 := by
  have t := I.2.2.1
  have t1 := t.1
  have t2 := t.2.1
  by_cases g : 0 ≤ a ∧ a ≤ M 94 12
  · unfold fX11_end fX12_end
    simp (disch := omega) only [yk_xb, yk_xb2, yk_some, yk_xlet, yk_xj, within_eq, isIn_eq, decide_eq_true_eq, if_pos, if_neg, xwt_at, xrd_at, xix_at, wr_id, forget_e, forget0_e, forgets_e, ↓reduceIte, xup_o, xup_n, xup_e, xfi_o, xfi_e, xcl_o, xcl_e, and_self, and_true, true_and, true_or, or_true, eq_self, Int.le_refl]
    obtain ⟨⟨i1, i2, i3, i4, i5, i6, i7, i8, i9⟩, ⟨g1, g2, g3, g4, g5, g6, g7, g8, g9, g10⟩, T, H, Me, K⟩ := I
    refine ⟨⟨rB_fr i1 ?_ ?_, rSky_fr i2 ?_ ?_, rBook_fr i3 g1 ?_ ?_ ?_ ?_, rPlan_fr i4 ?_ ?_, rPlot_fr i5 g1 ?_ ?_ ?_, rSale_fr i6 g1 ?_ ?_ ?_, rProm_fr i7 g1 ?_ ?_ ?_, rLog_fr i8 g1 ?_ ?_ ?_, fun k hk => rWant_fr ?_ ?_ ?_ (g10 _ (by omega) (by omega)) (i9 k hk)⟩, ⟨gB_fr g1 ?_, gSky_fr g2 ?_, gBook_fr g3 g1 ?_ ?_ ?_, gPlan_fr g4 ?_, gPlot_fr g5 g1 ?_ ?_ ?_, gPay_fr g6 ?_ ?_, gSale_fr g7 g1 ?_ ?_ ?_, gProm_fr g8 g1 ?_ ?_ ?_, gLog_fr g9 g1 ?_ ?_ ?_ ?_, fun k h0 h1 => gWant_fr ?_ h0 (g10 k h0 h1)⟩, ?T, rHist_fr H ?_ ?_ ?_ ?_, rMemo_fr Me g10 ?_ ?_ ?_ ?_, rKept_fr K ?_ ?_ ?_ ?_⟩
    case T =>
      unfold rTape
      simp (disch := omega) only [↓reduceIte, xup_o, xup_n, xup_e, xfi_o, xfi_e, xcl_o, xcl_e, and_self, and_true, true_and, true_or, or_true, eq_self, Int.le_refl]
      exact ⟨by omega, T.2.2.1, T.2.2.2.1, fun i h0 h1 => T.2.2.2.2 i h0 (by omega)⟩
    all_goals (intros; (first | (simp (disch := omega) only [↓reduceIte, xup_o, xup_n, xup_e, xfi_o, xfi_e, xcl_o, xcl_e, and_self, and_true, true_and, true_or, or_true, eq_self, Int.le_refl]; done) | omega | (simp (disch := omega) only [↓reduceIte, xup_o, xup_n, xup_e, xfi_o, xfi_e, xcl_o, xcl_e, and_self, and_true, true_and, true_or, or_true, eq_self, Int.le_refl]; omega)))
  · have e1 : fX11_end M a = some (false, M) := by
      unfold fX11_end
      simp (disch := omega) only [within_eq, isIn_eq, decide_eq_true_eq, xwt_at, xrd_at, xix_at, wr_id]
      repeat' split
      all_goals first | (exfalso; omega; done) | rfl
    have e2 : fX12_end M a = some (false, M) := by
      unfold fX12_end
      simp (disch := omega) only [within_eq, isIn_eq, decide_eq_true_eq, xwt_at, xrd_at, xix_at, wr_id]
      repeat' split
      all_goals first | (exfalso; omega; done) | rfl
    exact ⟨_, e1, _, e2, rfl, I⟩
theorem tc_fault {ph : Bool} {c : Int} {M : xM} {a : Int} (I : Inv ph c M) : fX11_fault M a = fX12_fault M a := by
  have t := I.2.2.1
  unfold fX11_fault fX12_fault
  rw [t.2.2.1, t.2.2.2.1]
