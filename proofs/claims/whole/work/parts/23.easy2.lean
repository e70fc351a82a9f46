/-! set, look, notches -/
theorem tc_set {ph : Bool} {c : Int} {M : xM} {a b : Int} (I : Inv ph c M) (ha : -2147483648 ≤ a ∧ a < 2147483648) (hb : -2147483648 ≤ b ∧ b < 2147483648) : yk (fX11_set M a b) fun q => yk (fX12_set q.2 a b) fun z => q.1 = z.1 ∧ Inv ph c z.2 := by
  have iB := I.1.1
  have gb := I.2.1.1
  unfold rB at iB
  unfold gB at gb
  by_cases g : (a = 0 ∧ 0 ≤ b ∧ b < M 95 0) ∨ (a = 1 ∧ 0 ≤ b ∧ b ≤ 9999) ∨ (a = 2 ∧ 0 ≤ b ∧ b ≤ 999) ∨ (a = 3 ∧ 0 ≤ b ∧ b ≤ 99)
  · rcases g with ⟨rfl, g⟩ | ⟨rfl, g⟩ | ⟨rfl, g⟩ | ⟨rfl, g⟩
    · unfold fX11_set fX11_mayBeSet fX1_hasAngle fX12_set
      simp (disch := omega) only [yk_xb, yk_xb2, yk_some, yk_xlet, yk_xj, within_eq, isIn_eq, decide_eq_true_eq, if_pos, if_neg, xwt_at, xrd_at, xix_at, wr_id, forget_e, forget0_e, forgets_e, ↓reduceIte, xup_o, xup_n, xup_e, xfi_o, xfi_e, xcl_o, xcl_e, and_self, and_true, true_and, true_or, or_true, eq_self, Int.le_refl]
      obtain ⟨⟨i1, i2, i3, i4, i5, i6, i7, i8, i9⟩, ⟨g1, g2, g3, g4, g5, g6, g7, g8, g9, g10⟩, T, H, Me, K⟩ := I
      have hn := H.2.2.1
      refine ⟨⟨?i1, rSky_fr i2 ?_ ?_, rBook_fr i3 g1 ?_ ?_ ?_ ?_, rPlan_fr i4 ?_ ?_, rPlot_fr i5 g1 ?_ ?_ ?_, rSale_fr i6 g1 ?_ ?_ ?_, rProm_fr i7 g1 ?_ ?_ ?_, rLog_fr i8 g1 ?_ ?_ ?_, fun k hk => rWant_fr ?_ ?_ ?_ (g10 _ (by omega) (by omega)) (i9 k hk)⟩, ⟨?g1, gSky_fr g2 ?_, gBook_fr g3 g1 ?_ ?_ ?_, gPlan_fr g4 ?_, gPlot_fr g5 g1 ?_ ?_ ?_, gPay_fr g6 ?_ ?_, gSale_fr g7 g1 ?_ ?_ ?_, gProm_fr g8 g1 ?_ ?_ ?_, gLog_fr g9 g1 ?_ ?_ ?_ ?_, fun k h0 h1 => gWant_fr ?_ h0 (g10 k h0 h1)⟩, rTape_fr T ?_ ?_, rHist_0 ?_ ?_ ?_ ?_, rMemo_fr Me g10 ?_ ?_ ?_ ?_, rKept_fr K ?_ ?_ ?_ ?_⟩
      case i1 =>
        unfold rB
        simp (disch := omega) only [↓reduceIte, xup_o, xup_n, xup_e, xfi_o, xfi_e, xcl_o, xcl_e, and_self, and_true, true_and, true_or, or_true, eq_self, Int.le_refl]
        omega
      case g1 =>
        unfold gB
        simp (disch := omega) only [↓reduceIte, xup_o, xup_n, xup_e, xfi_o, xfi_e, xcl_o, xcl_e, and_self, and_true, true_and, true_or, or_true, eq_self, Int.le_refl]
        omega
      all_goals (intros; (first | (simp (disch := omega) only [↓reduceIte, xup_o, xup_n, xup_e, xfi_o, xfi_e, xcl_o, xcl_e, and_self, and_true, true_and, true_or, or_true, eq_self, Int.le_refl]; done) | omega | (simp (disch := omega) only [↓reduceIte, xup_o, xup_n, xup_e, xfi_o, xfi_e, xcl_o, xcl_e, and_self, and_true, true_and, true_or, or_true, eq_self, Int.le_refl]; omega)))
    · unfold fX11_set fX11_mayBeSet fX11_isDay fX12_set
      simp (disch := omega) only [yk_xb, yk_xb2, yk_some, yk_xlet, yk_xj, within_eq, isIn_eq, decide_eq_true_eq, if_pos, if_neg, xwt_at, xrd_at, xix_at, wr_id, forget_e, forget0_e, forgets_e, ↓reduceIte, xup_o, xup_n, xup_e, xfi_o, xfi_e, xcl_o, xcl_e, and_self, and_true, true_and, true_or, or_true, eq_self, Int.le_refl]
      obtain ⟨⟨i1, i2, i3, i4, i5, i6, i7, i8, i9⟩, ⟨g1, g2, g3, g4, g5, g6, g7, g8, g9, g10⟩, T, H, Me, K⟩ := I
      have hn := H.2.2.1
      refine ⟨⟨?i1, rSky_fr i2 ?_ ?_, ?i3, rPlan_fr i4 ?_ ?_, rPlot_fr i5 g1 ?_ ?_ ?_, rSale_fr i6 g1 ?_ ?_ ?_, rProm_fr i7 g1 ?_ ?_ ?_, rLog_fr i8 g1 ?_ ?_ ?_, fun k hk => rWant_fr ?_ ?_ ?_ (g10 _ (by omega) (by omega)) (i9 k hk)⟩, ⟨?g1, gSky_fr g2 ?_, ?g3, gPlan_fr g4 ?_, gPlot_fr g5 g1 ?_ ?_ ?_, gPay_fr g6 ?_ ?_, gSale_fr g7 g1 ?_ ?_ ?_, gProm_fr g8 g1 ?_ ?_ ?_, gLog_fr g9 g1 ?_ ?_ ?_ ?_, fun k h0 h1 => gWant_fr ?_ h0 (g10 k h0 h1)⟩, rTape_fr T ?_ ?_, rHist_0 ?_ ?_ ?_ ?_, rMemo_fr Me g10 ?_ ?_ ?_ ?_, rKept_fr K ?_ ?_ ?_ ?_⟩
      case i1 =>
        unfold rB
        simp (disch := omega) only [↓reduceIte, xup_o, xup_n, xup_e, xfi_o, xfi_e, xcl_o, xcl_e, and_self, and_true, true_and, true_or, or_true, eq_self, Int.le_refl]
        omega
      case g1 =>
        unfold gB
        simp (disch := omega) only [↓reduceIte, xup_o, xup_n, xup_e, xfi_o, xfi_e, xcl_o, xcl_e, and_self, and_true, true_and, true_or, or_true, eq_self, Int.le_refl]
        omega
      case i3 =>
        intro j h0 h1
        simp (disch := omega) only [↓reduceIte, xup_o, xup_n, xup_e, xfi_o, xfi_e, xcl_o, xcl_e, and_self, and_true, true_and, true_or, or_true, eq_self, Int.le_refl] at h1
        omega
      case g3 =>
        intro j h0 h1
        simp (disch := omega) only [↓reduceIte, xup_o, xup_n, xup_e, xfi_o, xfi_e, xcl_o, xcl_e, and_self, and_true, true_and, true_or, or_true, eq_self, Int.le_refl] at h1
        omega
      all_goals (intros; (first | (simp (disch := omega) only [↓reduceIte, xup_o, xup_n, xup_e, xfi_o, xfi_e, xcl_o, xcl_e, and_self, and_true, true_and, true_or, or_true, eq_self, Int.le_refl]; done) | omega | (simp (disch := omega) only [↓reduceIte, xup_o, xup_n, xup_e, xfi_o, xfi_e, xcl_o, xcl_e, and_self, and_true, true_and, true_or, or_true, eq_self, Int.le_refl]; omega)))
    · unfold fX11_set fX11_mayBeSet fX12_set
      simp (disch := omega) only [yk_xb, yk_xb2, yk_some, yk_xlet, yk_xj, within_eq, isIn_eq, decide_eq_true_eq, if_pos, if_neg, xwt_at, xrd_at, xix_at, wr_id, forget_e, forget0_e, forgets_e, ↓reduceIte, xup_o, xup_n, xup_e, xfi_o, xfi_e, xcl_o, xcl_e, and_self, and_true, true_and, true_or, or_true, eq_self, Int.le_refl]
      obtain ⟨⟨i1, i2, i3, i4, i5, i6, i7, i8, i9⟩, ⟨g1, g2, g3, g4, g5, g6, g7, g8, g9, g10⟩, T, H, Me, K⟩ := I
      have hn := H.2.2.1
      refine ⟨⟨?i1, rSky_fr i2 ?_ ?_, rBook_fr i3 g1 ?_ ?_ ?_ ?_, rPlan_fr i4 ?_ ?_, rPlot_fr i5 g1 ?_ ?_ ?_, rSale_fr i6 g1 ?_ ?_ ?_, rProm_fr i7 g1 ?_ ?_ ?_, rLog_fr i8 g1 ?_ ?_ ?_, fun k hk => rWant_fr ?_ ?_ ?_ (g10 _ (by omega) (by omega)) (i9 k hk)⟩, ⟨?g1, gSky_fr g2 ?_, gBook_fr g3 g1 ?_ ?_ ?_, gPlan_fr g4 ?_, gPlot_fr g5 g1 ?_ ?_ ?_, gPay_fr g6 ?_ ?_, gSale_fr g7 g1 ?_ ?_ ?_, gProm_fr g8 g1 ?_ ?_ ?_, gLog_fr g9 g1 ?_ ?_ ?_ ?_, fun k h0 h1 => gWant_fr ?_ h0 (g10 k h0 h1)⟩, rTape_fr T ?_ ?_, rHist_0 ?_ ?_ ?_ ?_, rMemo_fr Me g10 ?_ ?_ ?_ ?_, rKept_fr K ?_ ?_ ?_ ?_⟩
      case i1 =>
        unfold rB
        simp (disch := omega) only [↓reduceIte, xup_o, xup_n, xup_e, xfi_o, xfi_e, xcl_o, xcl_e, and_self, and_true, true_and, true_or, or_true, eq_self, Int.le_refl]
        omega
      case g1 =>
        unfold gB
        simp (disch := omega) only [↓reduceIte, xup_o, xup_n, xup_e, xfi_o, xfi_e, xcl_o, xcl_e, and_self, and_true, true_and, true_or, or_true, eq_self, Int.le_refl]
        omega
      all_goals (intros; (first | (simp (disch := omega) only [↓reduceIte, xup_o, xup_n, xup_e, xfi_o, xfi_e, xcl_o, xcl_e, and_self, and_true, true_and, true_or, or_true, eq_self, Int.le_refl]; done) | omega | (simp (disch := omega) only [↓reduceIte, xup_o, xup_n, xup_e, xfi_o, xfi_e, xcl_o, xcl_e, and_self, and_true, true_and, true_or, or_true, eq_self, Int.le_refl]; omega)))
    · unfold fX11_set fX11_mayBeSet fX12_set
      simp (disch := omega) only [yk_xb, yk_xb2, yk_some, yk_xlet, yk_xj, within_eq, isIn_eq, decide_eq_true_eq, if_pos, if_neg, xwt_at, xrd_at, xix_at, wr_id, forget_e, forget0_e, forgets_e, ↓reduceIte, xup_o, xup_n, xup_e, xfi_o, xfi_e, xcl_o, xcl_e, and_self, and_true, true_and, true_or, or_true, eq_self, Int.le_refl]
      obtain ⟨⟨i1, i2, i3, i4, i5, i6, i7, i8, i9⟩, ⟨g1, g2, g3, g4, g5, g6, g7, g8, g9, g10⟩, T, H, Me, K⟩ := I
      have hn := H.2.2.1
      refine ⟨⟨?i1, rSky_fr i2 ?_ ?_, rBook_fr i3 g1 ?_ ?_ ?_ ?_, rPlan_fr i4 ?_ ?_, rPlot_fr i5 g1 ?_ ?_ ?_, rSale_fr i6 g1 ?_ ?_ ?_, rProm_fr i7 g1 ?_ ?_ ?_, rLog_fr i8 g1 ?_ ?_ ?_, fun k hk => rWant_fr ?_ ?_ ?_ (g10 _ (by omega) (by omega)) (i9 k hk)⟩, ⟨?g1, gSky_fr g2 ?_, gBook_fr g3 g1 ?_ ?_ ?_, gPlan_fr g4 ?_, gPlot_fr g5 g1 ?_ ?_ ?_, gPay_fr g6 ?_ ?_, gSale_fr g7 g1 ?_ ?_ ?_, gProm_fr g8 g1 ?_ ?_ ?_, gLog_fr g9 g1 ?_ ?_ ?_ ?_, fun k h0 h1 => gWant_fr ?_ h0 (g10 k h0 h1)⟩, rTape_fr T ?_ ?_, rHist_0 ?_ ?_ ?_ ?_, rMemo_fr Me g10 ?_ ?_ ?_ ?_, rKept_fr K ?_ ?_ ?_ ?_⟩
      case i1 =>
        unfold rB
        simp (disch := omega) only [↓reduceIte, xup_o, xup_n, xup_e, xfi_o, xfi_e, xcl_o, xcl_e, and_self, and_true, true_and, true_or, or_true, eq_self, Int.le_refl]
        omega
      case g1 =>
        unfold gB
        simp (disch := omega) only [↓reduceIte, xup_o, xup_n, xup_e, xfi_o, xfi_e, xcl_o, xcl_e, and_self, and_true, true_and, true_or, or_true, eq_self, Int.le_refl]
        omega
      all_goals (intros; (first | (simp (disch := omega) only [↓reduceIte, xup_o, xup_n, xup_e, xfi_o, xfi_e, xcl_o, xcl_e, and_self, and_true, true_and, true_or, or_true, eq_self, Int.le_refl]; done) | omega | (simp (disch := omega) only [↓reduceIte, xup_o, xup_n, xup_e, xfi_o, xfi_e, xcl_o, xcl_e, and_self, and_true, true_and, true_or, or_true, eq_self, Int.le_refl]; omega)))
  · have e0 : fX11_mayBeSet M a b = false := by
      unfold fX11_mayBeSet fX11_isDay fX1_hasAngle
      simp (disch := omega) only [within_eq, wr_id]
      repeat' split
      all_goals first | rfl | (rw [decide_eq_false_iff_not]; omega)
    have e1 : fX11_set M a b = some (false, M) := by
      unfold fX11_set
      rw [e0]
      rfl
    have e2 : fX12_set M a b = some (false, M) := by
      unfold fX12_set
      simp (disch := omega) only [xj, isIn_eq, decide_eq_true_eq, wr_id]
      repeat' split
      all_goals first | rfl | (exfalso; omega)
    exact ⟨_, e1, _, e2, rfl, I⟩
theorem tc_look {ph : Bool} {c : Int} {M : xM} {a : Int} (I : Inv ph c M) (ha : -2147483648 ≤ a ∧ a < 2147483648) : yk (fX11_look M a) fun q => yk (fX12_look M a) fun z => q = z := by
  have iB := I.1.1
  have gb := I.2.1.1
  unfold rB at iB
  unfold gB at gb
  have hh := I.2.2.2.1.1
  have hw := I.1.2.2.2.2.2.2.2.2
  have hp := I.1.2.2.2.2.1
  by_cases g : 10 ≤ a ∧ a ≤ 13
  · have e : ∃ k : Nat, k < 4 ∧ a = 10 + k := ⟨(a - 10).toNat, by omega, by omega⟩
    obtain ⟨k, hk, rfl⟩ := e
    have := (hw k hk).1
    unfold fX11_look fX12_look
    simp (disch := omega) only [yk_xb, yk_xb2, yk_some, yk_xlet, yk_xj, within_eq, isIn_eq, decide_eq_true_eq, if_pos, if_neg, xwt_at, xrd_at, xix_at, wr_id, forget_e, forget0_e, forgets_e, ↓reduceIte, xup_o, xup_n, xup_e, xfi_o, xfi_e, xcl_o, xcl_e, and_self, and_true, true_and, true_or, or_true, eq_self, Int.le_refl]
    have e3 : (10 + (k : Int) - 10).toNat = k := by omega
    have e4 : 2320 + (10 + (k : Int)) - 10 = 2320 + k := by omega
    rw [e3, e4]
    exact this
  · by_cases g2 : 20 ≤ a ∧ a < 20 + M 95 5
    · have := (hp (a - 20) (by omega) (by omega)).2.2.2.2
      unfold fX11_look fX12_look
      simp (disch := omega) only [yk_xb, yk_xb2, yk_some, yk_xlet, yk_xj, within_eq, isIn_eq, decide_eq_true_eq, if_pos, if_neg, xwt_at, xrd_at, xix_at, wr_id, forget_e, forget0_e, forgets_e, ↓reduceIte, xup_o, xup_n, xup_e, xfi_o, xfi_e, xcl_o, xcl_e, and_self, and_true, true_and, true_or, or_true, eq_self, Int.le_refl]
      have e4 : 60 + a - 20 = 60 + (a - 20) := by omega
      rw [e4]
      exact this
    · by_cases g3 : 0 ≤ a ∧ a ≤ 9
      · have e : a = 0 ∨ a = 1 ∨ a = 2 ∨ a = 3 ∨ a = 4 ∨ a = 5 ∨ a = 6 ∨ a = 7 ∨ a = 8 ∨ a = 9 := by omega
        rcases e with rfl | rfl | rfl | rfl | rfl | rfl | rfl | rfl | rfl | rfl
        all_goals
          unfold fX11_look fX12_look
          simp (disch := omega) only [yk_xb, yk_xb2, yk_some, yk_xlet, yk_xj, within_eq, isIn_eq, decide_eq_true_eq, if_pos, if_neg, xwt_at, xrd_at, xix_at, wr_id, forget_e, forget0_e, forgets_e, ↓reduceIte, xup_o, xup_n, xup_e, xfi_o, xfi_e, xcl_o, xcl_e, and_self, and_true, true_and, true_or, or_true, eq_self, Int.le_refl]
          omega
      · unfold fX11_look fX12_look
        simp (disch := omega) only [yk_xb, yk_xb2, yk_some, yk_xlet, yk_xj, within_eq, isIn_eq, decide_eq_true_eq, if_pos, if_neg, xwt_at, xrd_at, xix_at, wr_id, forget_e, forget0_e, forgets_e, ↓reduceIte, xup_o, xup_n, xup_e, xfi_o, xfi_e, xcl_o, xcl_e, and_self, and_true, true_and, true_or, or_true, eq_self, Int.le_refl]
theorem tc_notches {ph : Bool} {c : Int} {M : xM} {a : Int} (I : Inv ph c M) (ha : -2147483648 ≤ a ∧ a < 2147483648) : yk (fX11_notches M a) fun q => yk (fX12_notches q.2 a) fun z => q.1 = z.1 ∧ Inv ph c z.2 := by
  by_cases g : 4 ≤ a ∧ a ≤ 24
  · unfold fX11_notches fX12_notches
    simp (disch := omega) only [yk_xb, yk_xb2, yk_some, yk_xlet, yk_xj, within_eq, isIn_eq, decide_eq_true_eq, if_pos, if_neg, xwt_at, xrd_at, xix_at, wr_id, forget_e, forget0_e, forgets_e, ↓reduceIte, xup_o, xup_n, xup_e, xfi_o, xfi_e, xcl_o, xcl_e, and_self, and_true, true_and, true_or, or_true, eq_self, Int.le_refl, begin_e, begins_e]
    obtain ⟨⟨i1, i2, i3, i4, i5, i6, i7, i8, i9⟩, ⟨g1, g2, g3, g4, g5, g6, g7, g8, g9, g10⟩, T, H, Me, K⟩ := I
    have hn := H.2.2.1
    have hd := i7.1
    refine ⟨⟨?i1, ?i2, ?i3, ?i4, ?i5, ?i6, ?i7, ?i8, ?i9⟩, ⟨?g1, ?g2, ?g3, ?g4, ?g5, ?g6, ?g7, ?g8, ?g9, ?g10⟩, rTape_fr T ?_ ?_, rHist_0 ?_ ?_ ?_ ?_, rMemo_0 Me ?_ ?_, rKept_fr K ?_ ?_ ?_ ?_⟩
    case i1 =>
      unfold rB
      simp (disch := omega) only [↓reduceIte, xup_o, xup_n, xup_e, xfi_o, xfi_e, xcl_o, xcl_e, and_self, and_true, true_and, true_or, or_true, eq_self, Int.le_refl]
      omega
    case g1 =>
      unfold gB
      simp (disch := omega) only [↓reduceIte, xup_o, xup_n, xup_e, xfi_o, xfi_e, xcl_o, xcl_e, and_self, and_true, true_and, true_or, or_true, eq_self, Int.le_refl]
      omega
    case i2 =>
      intro j h0 h1
      simp (disch := omega) only [↓reduceIte, xup_o, xup_n, xup_e, xfi_o, xfi_e, xcl_o, xcl_e, and_self, and_true, true_and, true_or, or_true, eq_self, Int.le_refl]
    case i3 =>
      intro j h0 h1
      simp (disch := omega) only [↓reduceIte, xup_o, xup_n, xup_e, xfi_o, xfi_e, xcl_o, xcl_e, and_self, and_true, true_and, true_or, or_true, eq_self, Int.le_refl] at h1
      omega
    case i4 =>
      intro j h0 h1
      simp (disch := omega) only [↓reduceIte, xup_o, xup_n, xup_e, xfi_o, xfi_e, xcl_o, xcl_e, and_self, and_true, true_and, true_or, or_true, eq_self, Int.le_refl]
    case i5 =>
      intro j h0 h1
      simp (disch := omega) only [↓reduceIte, xup_o, xup_n, xup_e, xfi_o, xfi_e, xcl_o, xcl_e, and_self, and_true, true_and, true_or, or_true, eq_self, Int.le_refl] at h1
      omega
    case i6 =>
      intro j h0 h1
      simp (disch := omega) only [↓reduceIte, xup_o, xup_n, xup_e, xfi_o, xfi_e, xcl_o, xcl_e, and_self, and_true, true_and, true_or, or_true, eq_self, Int.le_refl] at h1
      omega
    case i7 =>
      refine ⟨?_, ?_⟩
      · simp (disch := omega) only [↓reduceIte, xup_o, xup_n, xup_e, xfi_o, xfi_e, xcl_o, xcl_e, and_self, and_true, true_and, true_or, or_true, eq_self, Int.le_refl]
        exact hd
      · intro j h0 h1
        simp (disch := omega) only [↓reduceIte, xup_o, xup_n, xup_e, xfi_o, xfi_e, xcl_o, xcl_e, and_self, and_true, true_and, true_or, or_true, eq_self, Int.le_refl] at h1
        omega
    case i8 =>
      intro j h0 h1
      simp (disch := omega) only [↓reduceIte, xup_o, xup_n, xup_e, xfi_o, xfi_e, xcl_o, xcl_e, and_self, and_true, true_and, true_or, or_true, eq_self, Int.le_refl] at h1
      omega
    case i9 =>
      intro k hk
      have e0 : (xup (xup (xup (xfi (xup (xfi (xcl (xcl (xcl (xcl (xup (xup (xup (xup (xfi (xfi (xup (xup (xup (xup (xup (xup M 1 0 a) 1 1 0) 1 2 0) 1 3 99) 1 4 0) 1 5 0) 2 864 0) 4 60 0) 5 0 0) 12 0 0) 17 0 0) 23 0 0) 28) 30) 32) 34) 47 4 (-1)) 79 0 0) 95 5820 0) 95 0 a) 95 3 99) 94 3 0) 95 (2320 + (k : Int)) = 0 := by
        simp (disch := omega) only [↓reduceIte, xup_o, xup_n, xup_e, xfi_o, xfi_e, xcl_o, xcl_e, and_self, and_true, true_and, true_or, or_true, eq_self, Int.le_refl]
      unfold rWant cOf
      rw [e0]
      have e2 : k = 0 ∨ k = 1 ∨ k = 2 ∨ k = 3 := by omega
      refine ⟨?_, ?_, (show (0 : Nat) ≤ 400 by decide), fun i hi => (by cases hi), Or.inl ?_, fun _ i h0 h1 => by omega⟩
      all_goals
        rcases e2 with rfl | rfl | rfl | rfl
        all_goals
          simp (disch := omega) only [↓reduceIte, xup_o, xup_n, xup_e, xfi_o, xfi_e, xcl_o, xcl_e, and_self, and_true, true_and, true_or, or_true, eq_self, Int.le_refl]
          try rfl
    case g2 =>
      intro j h0 h1
      simp (disch := omega) only [↓reduceIte, xup_o, xup_n, xup_e, xfi_o, xfi_e, xcl_o, xcl_e, and_self, and_true, true_and, true_or, or_true, eq_self, Int.le_refl]
      omega
    case g3 =>
      intro j h0 h1
      simp (disch := omega) only [↓reduceIte, xup_o, xup_n, xup_e, xfi_o, xfi_e, xcl_o, xcl_e, and_self, and_true, true_and, true_or, or_true, eq_self, Int.le_refl] at h1
      omega
    case g4 =>
      intro j h0 h1
      simp (disch := omega) only [↓reduceIte, xup_o, xup_n, xup_e, xfi_o, xfi_e, xcl_o, xcl_e, and_self, and_true, true_and, true_or, or_true, eq_self, Int.le_refl]
      omega
    case g5 =>
      intro j h0 h1
      simp (disch := omega) only [↓reduceIte, xup_o, xup_n, xup_e, xfi_o, xfi_e, xcl_o, xcl_e, and_self, and_true, true_and, true_or, or_true, eq_self, Int.le_refl] at h1
      omega
    case g6 =>
      intro j h0 h1
      refine ⟨?_, fun _ => ?_⟩
      · simp (disch := omega) only [↓reduceIte, xup_o, xup_n, xup_e, xfi_o, xfi_e, xcl_o, xcl_e, and_self, and_true, true_and, true_or, or_true, eq_self, Int.le_refl]
        omega
      · simp (disch := omega) only [↓reduceIte, xup_o, xup_n, xup_e, xfi_o, xfi_e, xcl_o, xcl_e, and_self, and_true, true_and, true_or, or_true, eq_self, Int.le_refl]
    case g7 =>
      intro j h0 h1
      simp (disch := omega) only [↓reduceIte, xup_o, xup_n, xup_e, xfi_o, xfi_e, xcl_o, xcl_e, and_self, and_true, true_and, true_or, or_true, eq_self, Int.le_refl] at h1
      omega
    case g8 =>
      refine ⟨?_, ?_⟩
      · intro j h0 h1
        simp (disch := omega) only [↓reduceIte, xup_o, xup_n, xup_e, xfi_o, xfi_e, xcl_o, xcl_e, and_self, and_true, true_and, true_or, or_true, eq_self, Int.le_refl] at h1
        omega
      · intro o
        simp (disch := omega) only [↓reduceIte, xup_o, xup_n, xup_e, xfi_o, xfi_e, xcl_o, xcl_e, and_self, and_true, true_and, true_or, or_true, eq_self, Int.le_refl]
        show nOwn _ o 0 ≤ 10
        show (0 : Int) ≤ 10
        omega
    case g9 =>
      intro j h0 h1
      simp (disch := omega) only [↓reduceIte, xup_o, xup_n, xup_e, xfi_o, xfi_e, xcl_o, xcl_e, and_self, and_true, true_and, true_or, or_true, eq_self, Int.le_refl] at h1
      omega
    case g10 =>
      intro k h0 h1
      unfold gWant
      simp (disch := omega) only [↓reduceIte, xup_o, xup_n, xup_e, xfi_o, xfi_e, xcl_o, xcl_e, and_self, and_true, true_and, true_or, or_true, eq_self, Int.le_refl]
      exact ⟨by omega, fun i h0 h1 => by omega⟩
    all_goals (intros; (first | (simp (disch := omega) only [↓reduceIte, xup_o, xup_n, xup_e, xfi_o, xfi_e, xcl_o, xcl_e, and_self, and_true, true_and, true_or, or_true, eq_self, Int.le_refl]; done) | omega | (simp (disch := omega) only [↓reduceIte, xup_o, xup_n, xup_e, xfi_o, xfi_e, xcl_o, xcl_e, and_self, and_true, true_and, true_or, or_true, eq_self, Int.le_refl]; omega)))
  · have e1 : fX11_notches M a = some (false, M) := by
      unfold fX11_notches
      simp (disch := omega) only [within_eq, isIn_eq, decide_eq_true_eq, xwt_at, xrd_at, xix_at, wr_id]
      repeat' split
      all_goals first | (exfalso; omega; done) | rfl
    have e2 : fX12_notches M a = some (false, M) := by
      unfold fX12_notches
      simp (disch := omega) only [within_eq, isIn_eq, decide_eq_true_eq, xwt_at, xrd_at, xix_at, wr_id]
      repeat' split
      all_goals first | (exfalso; omega; done) | rfl
    exact ⟨_, e1, _, e2, rfl, I⟩
