/-! the noons that may be undone: one more -/
def rHg (K : xM) (W B : Int → Int) (b : Int) : Prop := K 79 0 = b ∧ (0 ≤ b ∧ b ≤ 10 ∧ b ≤ W 9) ∧ (0 ≤ K 79 1 ∧ K 79 1 < 10) ∧ ∀ i, 0 ≤ i → i < b → ∀ q : Nat, (q : Int) = (K 79 1 - b + i) % 10 → (K 80 q = B (14 * i) ∧ 0 ≤ B (14 * i) ∧ B (14 * i) < W 0) ∧ B (14 * i + 1) = W 2 - b + i ∧ (K 81 q = B (14 * i + 2) ∧ 0 ≤ B (14 * i + 2) ∧ B (14 * i + 2) ≤ 999) ∧ K 82 q = min (W 9 - b + i) 400 ∧ ∀ p, 0 ≤ p → p < W 5 → K (84 + q) p = B (14 * i + 3 + p)
theorem rHist_g (M : xM) : rHist M ↔ rHg M (M 95) (M 97) (M 94 3) := Iff.rfl
def kB1 (b : Int) : Int := if b = 10 then 9 else b
def keepB (W B : Int → Int) (b : Int) : Int → Int := fun j => if j = 14 * kB1 b then W 1 else if j = 14 * kB1 b + 1 then W 2 else if j = 14 * kB1 b + 2 then W 3 else if 14 * kB1 b + 3 ≤ j ∧ j < 14 * kB1 b + 13 then W (23 + 4 * (j - (14 * kB1 b + 3))) else if b = 10 ∧ 0 ≤ j ∧ j < 126 then B (j + 14) else B j
theorem keepK_e {K : xM} {q : Nat} (hq : K 79 1 = q) (hq2 : q < 10) (h0 : 0 ≤ K 79 0 ∧ K 79 0 ≤ 10) : yk (fX0_keep K) fun M' => (∀ o, o ≠ 79 → o ≠ 80 → o ≠ 81 → o ≠ 82 → o ≠ 84 + q → M' o = K o) ∧ M' 79 0 = min (K 79 0 + 1) 10 ∧ M' 79 1 = ((q : Int) + 1) % 10 ∧ (∀ j, M' 80 j = if j = q then K 1 1 else K 80 j) ∧ (∀ j, M' 81 j = if j = q then K 1 3 else K 81 j) ∧ (∀ j, M' 82 j = if j = q then K 1 5 else K 82 j) ∧ ∀ j, 0 ≤ j → j < 10 → M' (84 + q) j = K 9 j := by
  have er : xrem ((q : Int) + 1) 10 = ((q : Int) + 1) % 10 := by
    unfold xrem
    rw [wr_id (by omega) (by omega), wr_id (by omega) (by omega), Int.tmod_eq_emod_of_nonneg (by omega)]
  have e0 : wr (q : Int) = q := wr_id (by omega) (by omega)
  have em : xmin (K 79 0 + 1) 10 = min (K 79 0 + 1) 10 := by
    unfold xmin
    rw [wr_id (by omega) (by omega), wr_id (by omega) (by omega)]
    split <;> omega
  have hq3 : (0 : Int) ≤ (q : Int) ∧ (q : Int) < 10 := by omega
  unfold fX0_keep
  simp (disch := omega) only [hq, xwt_at, xup_o, xix_at, e0, Int.toNat_natCast, xcp_0, xcq_o, yk_xlet, er, xup_n, em, yk_some]
  refine ⟨?_, ?_, ?_, ?_, ?_, ?_, ?_⟩
  all_goals (intros; first | (simp (disch := omega) only [xup_o, xup_n, xup_e, xcq_o, xcq_e]; done) | (simp (disch := omega) only [xup_o, xup_s, xcq_o]; done) | rfl)
