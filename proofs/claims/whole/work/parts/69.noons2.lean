/-! many noons: the reference, and the call -/
theorem noonsM_q {v1 : Int} (hv : 0 ≤ v1 ∧ v1 ≤ 400) (m : Nat) : ∀ (n : Nat) (M : xM) (x v : Int), gW (M 95) → (0 ≤ M 94 3 ∧ M 94 3 ≤ 10) → M 95 2 + m ≤ 9999 → 0 ≤ v → v + m = v1 → m < n → yk (fX12_noons_L31 n M v1 x v) fun q => q.1 = x + nMade (M 95) m ∧ (q.2 95 = (nS (M 95) (M 97) (M 94 3) m).1 ∧ q.2 97 = (nS (M 95) (M 97) (M 94 3) m).2.1 ∧ q.2 94 3 = (nS (M 95) (M 97) (M 94 3) m).2.2) ∧ (∀ j, j ≠ 3 → q.2 94 j = M 94 j) ∧ ∀ o, o ≠ 94 → o ≠ 95 → o ≠ 97 → o ≠ 101 → o ≠ 102 → q.2 o = M o := by
  induction m with
  | zero =>
    intro n M x v g hb hd v0 v1' hn
    obtain ⟨n', rfl⟩ : ∃ n', n = n' + 1 := ⟨n - 1, by omega⟩
    unfold fX12_noons_L31
    rw [if_neg (by rw [wr_id (by omega) (by omega), wr_id (by omega) (by omega)]; omega), yk_some]
    refine ⟨?_, ⟨rfl, rfl, rfl⟩, fun _ _ => rfl, fun _ _ _ _ _ _ => rfl⟩
    show x = x + 0
    omega
  | succ m ih =>
    intro n M x v g hb hd v0 v1' hn
    obtain ⟨n', rfl⟩ : ∃ n', n = n' + 1 := ⟨n - 1, by omega⟩
    have gn := gW_noon g (by omega)
    unfold fX12_noons_L31
    rw [if_pos (by rw [wr_id (by omega) (by omega), wr_id (by omega) (by omega)]; omega), yk_xb]
    refine yk.mono (keepsM_e hb) ?_
    intro M1 k
    obtain ⟨k1, k2, k3, k4⟩ := k
    have w1 := k1 95 (by omega) (by omega)
    rw [yk_xb2]
    refine yk.mono (aNoonM_e (M := M1) w1 g) ?_
    intro z hz
    obtain ⟨z1, z2, z3⟩ := hz
    have e97 : z.2 97 = keepB (M 95) (M 97) (M 94 3) := by rw [z2 97 (by omega) (by omega) (by omega)]; exact k4
    have e94 : z.2 94 3 = kB1 (M 94 3) + 1 := by rw [z2 94 (by omega) (by omega) (by omega)]; exact k3
    have kr : 0 ≤ kB1 (M 94 3) + 1 ∧ kB1 (M 94 3) + 1 ≤ 10 := by unfold kB1; split <;> omega
    have nm : nMade (M 95) (m + 1) = (if sTurn (M 95) = 0 then 0 else 1) + nMade (sNoon (M 95)) m := rfl
    have nx := ih n' z.2 (x + z.1) (v + 1) (by rw [z3]; exact gn) (by rw [e94]; exact kr) (by rw [z3, sNoon_2]; omega) (by omega) (by omega) (by omega)
    rw [z3, e97, e94] at nx
    refine yk.mono nx ?_
    intro w hw
    obtain ⟨w1', w2, w3, w4⟩ := hw
    refine ⟨by rw [w1', nm, z1]; omega, w2, fun j hj => by rw [w3 j hj, z2 94 (by omega) (by omega) (by omega), k2 j hj], fun o o1 o2 o3 o4 o5 => by rw [w4 o o1 o2 o3 o4 o5, z2 o o2 o4 o5, k1 o o1 o3]⟩
theorem rHg_fr {K K' : xM} {W B : Int → Int} {b : Int} (h : rHg K W B b) (f : ∀ o, 79 ≤ o → o ≤ 93 → K' o = K o) : rHg K' W B b := by
  unfold rHg at h ⊢
  rw [f 79 (by omega) (by omega), f 80 (by omega) (by omega), f 81 (by omega) (by omega), f 82 (by omega) (by omega)]
  obtain ⟨h1, h2, h3, h4⟩ := h
  refine ⟨h1, h2, h3, fun i i0 i1 q hq => ?_⟩
  rw [f (84 + q) (by omega) (by omega)]
  exact h4 i i0 i1 q hq
theorem tc_noons {ph : Bool} {c : Int} {M : xM} {a : Int} (I : Inv ph c M) (hc : c < 1600000000) (ha : -2147483648 ≤ a ∧ a < 2147483648) : yk (fX11_noons M a) fun q => yk (fX12_noons q.2 a) fun z => q.1 = z.1 ∧ Inv ph (c + 20000) z.2 := by
  have iB := I.1.1
  have gb := I.2.1.1
  unfold rB at iB
  unfold gB at gb
  have e2 : M 1 2 = M 95 2 := by omega
  have w9 : wr 9999 = 9999 := by decide
  have lo : Inv ph (c + 20000) M := ⟨I.1, I.2.1, I.2.2.1, I.2.2.2.1, rMemo_le I.2.2.2.2.1 (by omega), I.2.2.2.2.2⟩
  unfold fX11_noons
  rw [within_eq (by omega) (by omega) (by omega) (by omega) (by omega) (by omega)]
  by_cases hr : 1 ≤ a ∧ a ≤ 400
  · rw [if_pos (decide_eq_true hr), w9, wr_id (x := M 1 2 + a) (by omega) (by omega), e2]
    by_cases hd : 9999 < M 95 2 + a
    · rw [if_pos hd, yk_some]
      unfold fX12_noons
      rw [isIn_eq (by omega) (by omega) (by omega) (by omega) (by omega) (by omega), if_pos (decide_eq_true hr), w9, wr_id (x := M 95 2 + a) (by omega) (by omega), if_pos hd, yk_some]
      exact ⟨rfl, lo⟩
    · rw [if_neg hd, yk_xb2]
      obtain ⟨m, hm⟩ := Int.eq_ofNat_of_zero_le (show 0 ≤ a by omega)
      refine yk.mono (noonsK_q (v1 := a) (by omega) m xfuel M (M 95) (M 97) (M 94 3) c 0 0 I.1 I.2.1 I.2.2.2.2.1 ((rHist_g M).1 I.2.2.2.1) (by omega) (by omega) (by omega) (by omega) (by unfold xfuel; omega)) ?_
      intro q hq
      obtain ⟨q1, q2, q3, q4, q5, q6⟩ := hq
      rw [yk_some]
      dsimp only
      have f : ∀ o, 94 ≤ o → q.2 o = M o := fun o ho => q6 o (by omega) (by omega) (by omega) (by omega) (by omega) (by omega)
      have f94 := f 94 (by omega)
      have f95 := f 95 (by omega)
      have f97 := f 97 (by omega)
      have hH := I.2.2.2.1
      unfold rHist at hH
      unfold fX12_noons
      rw [isIn_eq (by omega) (by omega) (by omega) (by omega) (by omega) (by omega), if_pos (decide_eq_true hr), w9, f95, wr_id (x := M 95 2 + a) (by omega) (by omega), if_neg hd, yk_xb2]
      have R := noonsM_q (v1 := a) (by omega) m xfuel q.2 0 0 (by rw [f95]; exact I.2.1) (by rw [f94]; omega) (by rw [f95]; omega) (by omega) (by omega) (by unfold xfuel; omega)
      rw [f94, f95, f97] at R
      refine yk.mono R ?_
      intro z hz
      obtain ⟨z1, ⟨z2, z3, z4⟩, z5, z6⟩ := hz
      rw [yk_some]
      dsimp only
      refine ⟨by rw [q1, z1], ?_, ?_, ?_, ?_, ?_, ?_⟩
      · rw [z2]
        exact rI_fr2 q2 q3 (fun o o1 o2 _ _ => z6 o (by omega) (by omega) (by omega) (by omega) (by omega))
      · rw [z2]; exact q3
      · refine rTape_fr I.2.2.1 ⟨?_, ?_, ?_⟩ ⟨?_, ?_, ?_⟩
        · rw [z6 36 (by omega) (by omega) (by omega) (by omega) (by omega)]; exact q6 36 (by omega) (by omega) (by omega) (by omega) (by omega) (by omega)
        · rw [z6 37 (by omega) (by omega) (by omega) (by omega) (by omega)]; exact q6 37 (by omega) (by omega) (by omega) (by omega) (by omega) (by omega)
        · rw [z6 100 (by omega) (by omega) (by omega) (by omega) (by omega)]; exact f 100 (by omega)
        · exact z5 12 (by omega)
        · exact z5 19 (by omega)
        · exact z5 21 (by omega)
      · rw [rHist_g, z2, z3, z4]
        exact rHg_fr q5 (fun o o1 o2 => z6 o (by omega) (by omega) (by omega) (by omega) (by omega))
      · rw [z2]
        refine rMemo_le (rMemo_fr q4 q3.2.2.2.2.2.2.2.2.2 ⟨?_, ?_, ?_, ?_, ?_⟩ (fun k hk => ?_) (fun _ _ => rfl) (fun _ _ _ => rfl)) (show c + 50 * (m : Int) ≤ c + 20000 by omega)
        all_goals exact z6 _ (by omega) (by omega) (by omega) (by omega) (by omega)
      · refine rKept_fr I.2.2.2.2.2 (fun o ho => ?_) ?_ ?_ ?_
        · rw [z6 o (by omega) (by omega) (by omega) (by omega) (by omega)]; exact f o (by omega)
        · rw [z6 96 (by omega) (by omega) (by omega) (by omega) (by omega)]; exact f 96 (by omega)
        · exact z5 4 (by omega)
        · rw [z6 108 (by omega) (by omega) (by omega) (by omega) (by omega)]; exact f 108 (by omega)
  · rw [if_neg (by rw [decide_eq_true_eq]; exact hr), yk_some]
    unfold fX12_noons
    rw [isIn_eq (by omega) (by omega) (by omega) (by omega) (by omega) (by omega), if_neg (by rw [decide_eq_true_eq]; exact hr), yk_some]
    exact ⟨rfl, lo⟩
