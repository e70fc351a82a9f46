/-! what the constructors leave -/
theorem fJ7_fill_53178_i6_L5_q {o : Nat} {v : Int} (n : Nat) : ∀ (M : xM) (i : Int), 0 ≤ i → i ≤ 4 → 4 - i < (n : Int) → fJ7_fill_53178_i6_L5 n M o v i 4 = some (fun a j => if a = o ∧ i ≤ j ∧ j < 4 then v else M a j) := by
  induction n with
  | zero => intro M i h0 h1 h2; omega
  | succ n ih =>
    intro M i h0 h1 h2
    unfold fJ7_fill_53178_i6_L5
    rw [wr_id (x := i) (by omega) (by omega), wr_id (x := 4) (by omega) (by omega)]
    by_cases h : i < 4
    · rw [if_pos h, xwt_at h0 (by omega) (by omega), ih _ _ (by omega) (by omega) (by omega)]
      congr 1
      funext a j
      rw [xup_at]
      split
      · rw [if_pos (by omega)]
      · split
        · rw [if_pos (by omega)]
        · rw [if_neg (by omega)]
    · rw [if_neg h]
      congr 1
      funext a j
      rw [if_neg (by omega)]
theorem fJ7_fill_53178_i6_e {M : xM} {o : Nat} {v : Int} : fJ7_fill_53178_i6 M o v = some (xfi M o 4 v) := by
  unfold fJ7_fill_53178_i6
  rw [fJ7_fill_53178_i6_L5_q xfuel M 0 (by omega) (by omega) (by unfold xfuel; omega)]
  rfl
theorem xz_hi {M : xM} {q n a : Nat} (h : q + n ≤ a) : xz M q n a = M a := by
  funext j
  show (if _ then _ else _) = _
  rw [if_neg (by omega)]
theorem xz_in {M : xM} {q n a : Nat} {j : Int} (h : q ≤ a) (h2 : a < q + n) : xz M q n a j = 0 := by
  show (if _ then _ else _) = _
  rw [if_pos ⟨h, h2⟩]
theorem iniK {M0 : xM} : yk (aX11_init_0 (xz M0 0 1)) fun N => ((N 1 0 = 12 ∧ N 1 1 = 0 ∧ N 1 2 = 0 ∧ N 1 3 = 99 ∧ N 1 4 = 0 ∧ N 1 5 = 0) ∧ (N 5 0 = 0 ∧ N 12 0 = 0 ∧ N 17 0 = 0 ∧ N 17 2 = 0 ∧ N 23 0 = 0)) ∧ ((∀ j, 0 ≤ j → j < 864 → N 2 j = 0) ∧ ∀ j, 0 ≤ j → j < 60 → N 4 j = 0) ∧ (∀ j, 0 ≤ j → j ≤ 2 → N 28 j = 0 ∧ N 30 j = 0 ∧ N 32 j = 0 ∧ N 34 j = 0) ∧ (N 36 0 = 0 ∧ N 36 1 = 0 ∧ N 36 2 = -1) ∧ (N 43 4 = 0 ∧ (∀ j, N 45 j = 0) ∧ (∀ j, N 46 j = 0) ∧ ∀ j, 0 ≤ j → j < 4 → N 47 j = -1) ∧ N 79 0 = 0 ∧ N 79 1 = 0 := by
  simp only [aX11_init_0, aX1_init_1, aX4_init_5, aX6_init_12, aX5_init_17, aX2_init_23, aX9_init_28, aX9_init_30, aX9_init_32, aX9_init_34, aX7_init_36, aX9_init_41, aX10_init_43, aX3_init_50, aX8_init_75, aX0_init_79, begin_e, fJ7_fill_53178_i6_e, yk_xb, yk_xlet, yk_some]
  refine ⟨⟨⟨?_, ?_, ?_, ?_, ?_, ?_⟩, ⟨?_, ?_, ?_, ?_, ?_⟩⟩, ⟨fun j j0 j1 => ?_, fun j j0 j1 => ?_⟩, fun j j0 j1 => ⟨?_, ?_, ?_, ?_⟩, ⟨?_, ?_, ?_⟩, ⟨?_, fun j => ?_, fun j => ?_, fun j j0 j1 => ?_⟩, ?_, ?_⟩
  all_goals simp (disch := omega) only [xz_lo, xz_hi, xz_in, xup_o, xup_n, xup_e, xfi_o, xfi_e, xcl_o, xcl_e]
theorem iniM {N : xM} : yk (aX12_init_94 (xz N 94 1)) fun Z => (∀ o, o < 94 → Z o = N o) ∧ (Z 94 3 = 0 ∧ Z 94 4 = 0 ∧ Z 94 12 = 0 ∧ Z 94 19 = 0 ∧ Z 94 21 = -1) ∧ (Z 95 0 = 12 ∧ Z 95 3 = 99 ∧ ∀ j, 0 ≤ j → j < 5820 → j ≠ 0 → j ≠ 3 → Z 95 j = 0) ∧ ∀ j, Z 108 j = 0 := by
  simp only [aX12_init_94, begins_e, yk_xb, yk_xlet, yk_some]
  refine ⟨fun o ho => ?_, ⟨?_, ?_, ?_, ?_, ?_⟩, ⟨?_, ?_, fun j j0 j1 j2 j3 => ?_⟩, fun j => ?_⟩
  all_goals simp (disch := omega) only [xz_lo, xz_hi, xz_in, xup_o, xup_n, xup_e, xfi_o, xfi_e]
theorem startI {M0 : xM} : yk (aX11_init_0 (xz M0 0 1)) fun N => yk (aX12_init_94 (xz N 94 1)) fun Z => Inv false 0 Z := by
  refine yk.mono iniK ?_
  intro N hN
  obtain ⟨⟨⟨n10, n11, n12, n13, n14, n15⟩, n5, n120, n170, n172, n23⟩, ⟨n2, n4⟩, nw0, ⟨n360, n361, n362⟩, ⟨n43, n45, n46, n47⟩, n79, n791⟩ := hN
  refine yk.mono iniM ?_
  intro Z hZ
  obtain ⟨zo, ⟨z3, z4, z12, z19, z21⟩, ⟨w0, w3, wz⟩, z108⟩ := hZ
  have w1 := wz 1 (by omega) (by omega) (by omega) (by omega)
  have w2 := wz 2 (by omega) (by omega) (by omega) (by omega)
  have w4 := wz 4 (by omega) (by omega) (by omega) (by omega)
  have w5 := wz 5 (by omega) (by omega) (by omega) (by omega)
  have w6 := wz 6 (by omega) (by omega) (by omega) (by omega)
  have w7 := wz 7 (by omega) (by omega) (by omega) (by omega)
  have w8 := wz 8 (by omega) (by omega) (by omega) (by omega)
  have w9 := wz 9 (by omega) (by omega) (by omega) (by omega)
  have wL : ∀ k : Int, 0 ≤ k → k < 4 → Z 95 (2320 + k) = 0 := fun k a b => wz _ (by omega) (by omega) (by omega) (by omega)
  have co : ∀ k : Int, 0 ≤ k → k < 4 → cOf (Z 95) k = [] := fun k a b => by
    unfold cOf
    rw [wL k a b]
    rfl
  have wk : ∀ k : Nat, k < 4 → ∀ j, 0 ≤ j → j ≤ 2 → Z (28 + 2 * k) j = 0 := by
    intro k hk j j0 j1
    have q := nw0 j j0 j1
    rw [zo _ (by omega)]
    have c : k = 0 ∨ k = 1 ∨ k = 2 ∨ k = 3 := by omega
    rcases c with e | e | e | e
    · rw [e]; exact q.1
    · rw [e]; exact q.2.1
    · rw [e]; exact q.2.2.1
    · rw [e]; exact q.2.2.2
  refine ⟨⟨?_, ?_, ?_, ?_, ?_, ?_, ?_, ?_, ?_⟩, ⟨?_, ?_, ?_, ?_, ?_, ?_, ?_, ?_, ?_, ?_⟩, ?_, ?_, ?_, ?_, ?_⟩
  · unfold rB
    rw [zo 1 (by omega), zo 5 (by omega), zo 12 (by omega), zo 17 (by omega), zo 23 (by omega), n10, n11, n12, n13, n14, n15, n5, n120, n170, n23, w0, w1, w2, w3, w4, w5, w6, w7, w8, w9]
    omega
  · intro i h0 h1
    rw [zo 2 (by omega), n2 i h0 h1, wz _ (by omega) (by omega) (by omega) (by omega)]
  · intro i h0 h1; omega
  · intro i h0 h1
    rw [zo 4 (by omega), n4 i h0 h1, wz _ (by omega) (by omega) (by omega) (by omega)]
  · intro i h0 h1; omega
  · intro i h0 h1; omega
  · refine ⟨by rw [zo 17 (by omega), n172]; omega, ?_⟩
    intro i h0 h1; omega
  · intro i h0 h1; omega
  · intro k hk
    unfold rWant
    rw [co k (by omega) (by omega), wL k (by omega) (by omega)]
    refine ⟨wk k hk 0 (by omega) (by omega), wk k hk 1 (by omega) (by omega), Nat.zero_le _, fun i hi => absurd hi (Nat.not_lt_zero i), Or.inl (wk k hk 2 (by omega) (by omega)), fun _ i h0 h1 => ?_⟩
    rw [wL k (by omega) (by omega)] at h1
    omega
  · unfold gB
    rw [w0, w1, w2, w3, w4, w5, w6, w7, w8, w9]
    omega
  · intro i h0 h1
    rw [wz _ (by omega) (by omega) (by omega) (by omega)]
    omega
  · intro i h0 h1; omega
  · intro i h0 h1
    rw [wz _ (by omega) (by omega) (by omega) (by omega)]
    omega
  · intro i h0 h1; omega
  · intro i h0 h1
    rw [wz _ (by omega) (by omega) (by omega) (by omega)]
    exact ⟨by omega, fun _ => rfl⟩
  · intro i h0 h1; omega
  · refine ⟨fun i h0 h1 => by omega, fun o => ?_⟩
    rw [w7]
    show (0 : Int) ≤ 10
    omega
  · intro i h0 h1; omega
  · intro k h0 h1
    unfold gWant
    rw [wL k h0 h1]
    exact ⟨by omega, fun i h0 h1 => by omega⟩
  · unfold rTape
    rw [zo 36 (by omega), n360, n361, n362, z12, z19, z21]
    exact ⟨rfl, by omega, rfl, rfl, fun i h0 h1 => by omega⟩
  · exact rHist_0 (by rw [zo 79 (by omega)]; exact n79) z3 (by rw [w9]; omega) (by rw [zo 79 (by omega), n791]; omega)
  · unfold rMemo
    rw [zo 43 (by omega), zo 45 (by omega), zo 46 (by omega), zo 47 (by omega), n43]
    refine ⟨by omega, fun i _ _ => by rw [n45]; omega, fun k hk => ?_⟩
    rw [n46, n47 k (by omega) (by omega)]
    refine ⟨by omega, by omega, fun place made day _ _ hd e1 _ => ?_⟩
    exfalso
    split at e1 <;> omega
  · exact fun j _ => z108 j
  · rw [if_neg (by decide)]
    exact z4
