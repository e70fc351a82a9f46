/-! arrays filled -/
theorem fJ7_fill_53178_L5_q {v : Int} (n : Nat) : ∀ (M : xM) (i : Int), 0 ≤ i → i ≤ 864 → 864 - i < (n : Int) → fJ7_fill_53178_L5 n M v i 864 = some (fun a j => if a = 2 ∧ i ≤ j ∧ j < 864 then v else M a j) := by
  induction n with
  | zero => intro M i h0 h1 h2; omega
  | succ n ih =>
    intro M i h0 h1 h2
    unfold fJ7_fill_53178_L5
    rw [wr_id (x := i) (by omega) (by omega), wr_id (x := 864) (by omega) (by omega)]
    by_cases h : i < 864
    · rw [if_pos h, xwt_at h0 (by omega) (by omega), ih _ _ (by omega) (by omega) (by omega)]
      congr 1
      funext a j
      rw [xup_at]
      split
      · rw [if_pos (by omega)]
      · split
        · rw [if_pos (by omega)]
        · rw [if_neg (by omega)]
    · rw [if_neg h]
      congr 1
      funext a j
      rw [if_neg (by omega)]
theorem fJ7_fill_53178_e {M : xM} {v : Int} : fJ7_fill_53178 M v = some (xfi M 2 864 v) := by
  unfold fJ7_fill_53178
  rw [fJ7_fill_53178_L5_q xfuel M 0 (by omega) (by omega) (by unfold xfuel; omega)]
  rfl
theorem fJ7_fill_53178_i2_L5_q {v : Int} (n : Nat) : ∀ (M : xM) (i : Int), 0 ≤ i → i ≤ 60 → 60 - i < (n : Int) → fJ7_fill_53178_i2_L5 n M v i 60 = some (fun a j => if a = 4 ∧ i ≤ j ∧ j < 60 then v else M a j) := by
  induction n with
  | zero => intro M i h0 h1 h2; omega
  | succ n ih =>
    intro M i h0 h1 h2
    unfold fJ7_fill_53178_i2_L5
    rw [wr_id (x := i) (by omega) (by omega), wr_id (x := 60) (by omega) (by omega)]
    by_cases h : i < 60
    · rw [if_pos h, xwt_at h0 (by omega) (by omega), ih _ _ (by omega) (by omega) (by omega)]
      congr 1
      funext a j
      rw [xup_at]
      split
      · rw [if_pos (by omega)]
      · split
        · rw [if_pos (by omega)]
        · rw [if_neg (by omega)]
    · rw [if_neg h]
      congr 1
      funext a j
      rw [if_neg (by omega)]
theorem fJ7_fill_53178_i2_e {M : xM} {v : Int} : fJ7_fill_53178_i2 M v = some (xfi M 4 60 v) := by
  unfold fJ7_fill_53178_i2
  rw [fJ7_fill_53178_i2_L5_q xfuel M 0 (by omega) (by omega) (by unfold xfuel; omega)]
  rfl
theorem fJ7_fill_53178_i3_L5_q {v : Int} (n : Nat) : ∀ (M : xM) (i : Int), 0 ≤ i → i ≤ 4 → 4 - i < (n : Int) → fJ7_fill_53178_i3_L5 n M v i 4 = some (fun a j => if a = 47 ∧ i ≤ j ∧ j < 4 then v else M a j) := by
  induction n with
  | zero => intro M i h0 h1 h2; omega
  | succ n ih =>
    intro M i h0 h1 h2
    unfold fJ7_fill_53178_i3_L5
    rw [wr_id (x := i) (by omega) (by omega), wr_id (x := 4) (by omega) (by omega)]
    by_cases h : i < 4
    · rw [if_pos h, xwt_at h0 (by omega) (by omega), ih _ _ (by omega) (by omega) (by omega)]
      congr 1
      funext a j
      rw [xup_at]
      split
      · rw [if_pos (by omega)]
      · split
        · rw [if_pos (by omega)]
        · rw [if_neg (by omega)]
    · rw [if_neg h]
      congr 1
      funext a j
      rw [if_neg (by omega)]
theorem fJ7_fill_53178_i3_e {M : xM} {v : Int} : fJ7_fill_53178_i3 M v = some (xfi M 47 4 v) := by
  unfold fJ7_fill_53178_i3
  rw [fJ7_fill_53178_i3_L5_q xfuel M 0 (by omega) (by omega) (by unfold xfuel; omega)]
  rfl
theorem fJ7_fill_53178_i4_L5_q {o : Nat} {v : Int} (n : Nat) : ∀ (M : xM) (i : Int), 0 ≤ i → i ≤ 10 → 10 - i < (n : Int) → fJ7_fill_53178_i4_L5 n M o v i 10 = some (fun a j => if a = o ∧ i ≤ j ∧ j < 10 then v else M a j) := by
  induction n with
  | zero => intro M i h0 h1 h2; omega
  | succ n ih =>
    intro M i h0 h1 h2
    unfold fJ7_fill_53178_i4_L5
    rw [wr_id (x := i) (by omega) (by omega), wr_id (x := 10) (by omega) (by omega)]
    by_cases h : i < 10
    · rw [if_pos h, xwt_at h0 (by omega) (by omega), ih _ _ (by omega) (by omega) (by omega)]
      congr 1
      funext a j
      rw [xup_at]
      split
      · rw [if_pos (by omega)]
      · split
        · rw [if_pos (by omega)]
        · rw [if_neg (by omega)]
    · rw [if_neg h]
      congr 1
      funext a j
      rw [if_neg (by omega)]
theorem fJ7_fill_53178_i4_e {M : xM} {o : Nat} {v : Int} : fJ7_fill_53178_i4 M o v = some (xfi M o 10 v) := by
  unfold fJ7_fill_53178_i4
  rw [fJ7_fill_53178_i4_L5_q xfuel M 0 (by omega) (by omega) (by unfold xfuel; omega)]
  rfl
theorem fJ7_fill_53178_i5_L5_q {v : Int} (n : Nat) : ∀ (M : xM) (i : Int), 0 ≤ i → i ≤ 3660 → 3660 - i < (n : Int) → fJ7_fill_53178_i5_L5 n M v i 3660 = some (fun a j => if a = 51 ∧ i ≤ j ∧ j < 3660 then v else M a j) := by
  induction n with
  | zero => intro M i h0 h1 h2; omega
  | succ n ih =>
    intro M i h0 h1 h2
    unfold fJ7_fill_53178_i5_L5
    rw [wr_id (x := i) (by omega) (by omega), wr_id (x := 3660) (by omega) (by omega)]
    by_cases h : i < 3660
    · rw [if_pos h, xwt_at h0 (by omega) (by omega), ih _ _ (by omega) (by omega) (by omega)]
      congr 1
      funext a j
      rw [xup_at]
      split
      · rw [if_pos (by omega)]
      · split
        · rw [if_pos (by omega)]
        · rw [if_neg (by omega)]
    · rw [if_neg h]
      congr 1
      funext a j
      rw [if_neg (by omega)]
theorem fJ7_fill_53178_i5_e {M : xM} {v : Int} : fJ7_fill_53178_i5 M v = some (xfi M 51 3660 v) := by
  unfold fJ7_fill_53178_i5
  rw [fJ7_fill_53178_i5_L5_q xfuel M 0 (by omega) (by omega) (by unfold xfuel; omega)]
  rfl
theorem fX12_begins_L2_q {v : Int} (n : Nat) : ∀ (M : xM) (i : Int), 0 ≤ i → i ≤ 5820 → 5820 - i < (n : Int) → fX12_begins_L2 n M v i = some (fun a j => if a = 95 ∧ i ≤ j ∧ j < 5820 then 0 else M a j) := by
  induction n with
  | zero => intro M i h0 h1 h2; omega
  | succ n ih =>
    intro M i h0 h1 h2
    unfold fX12_begins_L2
    rw [wr_id (x := i) (by omega) (by omega), wr_id (x := 5820) (by omega) (by omega)]
    by_cases h : i < 5820
    · rw [if_pos h, xwt_at h0 (by omega) (by omega), ih _ _ (by omega) (by omega) (by omega)]
      congr 1
      funext a j
      rw [xup_at]
      split
      · rw [if_pos (by omega)]
      · split
        · rw [if_pos (by omega)]
        · rw [if_neg (by omega)]
    · rw [if_neg h]
      congr 1
      funext a j
      rw [if_neg (by omega)]
theorem forget_e {M : xM} : fX10_forget M = some (xfi M 47 4 (-1)) := by
  unfold fX10_forget
  rw [fJ7_fill_53178_i3_e]
  rfl
theorem forget0_e {M : xM} : fX0_forget M = some (xup M 79 0 0) := rfl
theorem forgets_e {M : xM} : fX12_forgets M = some (xup M 94 3 0) := rfl
theorem begins_e {M : xM} {n : Int} : fX12_begins M n = some (xup (xup (xup (xfi M 95 5820 0) 95 0 n) 95 3 99) 94 3 0) := by
  unfold fX12_begins
  rw [fX12_begins_L2_q (v := n) xfuel M 0 (by omega) (by omega) (by unfold xfuel; omega)]
  rfl
def xcl (M : xM) (o : Nat) : xM := xup (xup (xup M o 0 0) o 1 0) o 2 0
theorem clear_e {M : xM} {o : Nat} : fX9_clear M o = some (xcl M o) := rfl
theorem xcl_o {M : xM} {o a : Nat} (h : a ≠ o) : xcl M o a = M a := by unfold xcl; rw [xup_o h, xup_o h, xup_o h]
theorem xcl_e {M : xM} {o : Nat} {j : Int} (h : 0 ≤ j) (h2 : j ≤ 2) : xcl M o o j = 0 := by
  unfold xcl
  rw [xup_s, xup_s, xup_s]
  split
  · rfl
  · split
    · rfl
    · rw [if_pos (by omega)]
theorem begin_q {M : xM} (n : Nat) : fX1_begin_L81 (n + 5) M 0 = some (xcl (xcl (xcl (xcl M 28) 30) 32) 34) := by
  have e0 : wr 0 = 0 := by decide
  have e1 : wr 1 = 1 := by decide
  have e2 : wr 2 = 2 := by decide
  have e3 : wr 3 = 3 := by decide
  have e4 : wr 4 = 4 := by decide
  simp [fX1_begin_L81, xix, e0, e1, e2, e3, e4, clear_e, xb]
theorem begin_e {M : xM} {n : Int} : fX1_begin M n = some (xcl (xcl (xcl (xcl (xup (xup (xup (xup (xfi (xfi (xup (xup (xup (xup (xup (xup M 1 0 n) 1 1 0) 1 2 0) 1 3 99) 1 4 0) 1 5 0) 2 864 0) 4 60 0) 5 0 0) 12 0 0) 17 0 0) 23 0 0) 28) 30) 32) 34) := by
  unfold fX1_begin
  simp only [xlet, fJ7_fill_53178_e, fJ7_fill_53178_i2_e, xb]
  have e : xfuel = 999995 + 5 := rfl
  rw [e, begin_q]
