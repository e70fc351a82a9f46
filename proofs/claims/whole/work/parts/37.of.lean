/-! weights, powers of a vote -/
def sWt (W : Int → Int) (set : Int) : Nat → Int
  | 0 => 0
  | n + 1 => sWt W set n + bt set n * W (21 + 4 * (n : Int))
def sAll (W : Int → Int) : Int := 2 ^ (W 5).toNat - 1
def sEn (W : Int → Int) (w : Int) : Bool := decide (sWt W (sAll W) (W 5).toNat < 2 * w)
theorem bt_mul (s p x : Int) : bt s p * x = if bt s p = 0 then 0 else x := by
  rcases bt_rng s p with e | e <;> rw [e] <;> simp
theorem sWt_rng {W : Int → Int} (g : gPlot W) (set : Int) (n : Nat) (hn : (n : Int) ≤ W 5) : 0 ≤ sWt W set n ∧ sWt W set n ≤ 9 * (n : Int) := by
  induction n with
  | zero => exact ⟨Int.le_refl _, Int.le_refl _⟩
  | succ n ih =>
    have := ih (by omega)
    have gp := (g n (by omega) (by omega)).2.1
    show 0 ≤ sWt W set n + _ ∧ sWt W set n + _ ≤ _
    rw [bt_mul]
    split <;> omega
theorem sAll_rng {W : Int → Int} (h : 0 ≤ W 5 ∧ W 5 ≤ 10) : 0 ≤ sAll W ∧ sAll W ≤ 1023 := by
  unfold sAll
  obtain ⟨k, hk⟩ := Int.eq_ofNat_of_zero_le h.1
  have h2 : k ≤ 10 := by omega
  have e : (W 5).toNat = k := by omega
  rw [e]
  clear hk e h
  revert k
  decide
theorem allK_e {W : Int → Int} {M : xM} (i5 : M 5 0 = W 5) (h : 0 ≤ W 5 ∧ W 5 ≤ 10) : fX4_all M = sAll W := by
  unfold fX4_all sAll
  rw [i5, xshl_1 h.1 (by omega)]
theorem allM_e {M : xM} (h : 0 ≤ M 95 5 ∧ M 95 5 ≤ 10) : fX12_allPlots M = sAll (M 95) := by
  unfold fX12_allPlots sAll
  rw [xshl_1 h.1 (by omega)]
theorem weight_q {W : Int → Int} {M : xM} {set : Int} (iP : rPlot M W) (gP : gPlot W) (h5 : 0 ≤ W 5 ∧ W 5 ≤ 10) (i5 : M 5 0 = W 5) (hs : 0 ≤ set ∧ set < 2147483648) (m : Nat) : ∀ (n i : Nat) (x : Int), (i : Int) + m = W 5 → m < n → fX4_weightOf_L4 n M set x i = some (x + sWt W set (i + m) - sWt W set i) := by
  induction m with
  | zero =>
    intro n i x h1 h2
    obtain ⟨n', rfl⟩ : ∃ n', n = n' + 1 := ⟨n - 1, by omega⟩
    unfold fX4_weightOf_L4
    simp (disch := omega) only [wr_id, if_neg]
    congr 1
    show _ = x + sWt W set i - sWt W set i
    omega
  | succ m ih =>
    intro n i x h1 h2
    obtain ⟨n', rfl⟩ : ∃ n', n = n' + 1 := ⟨n - 1, by omega⟩
    have c := (iP i (by omega) (by omega)).2.1
    have e1 : sWt W set (i + 1) = sWt W set i + bt set i * W (21 + 4 * (i : Int)) := rfl
    have e2 : i + 1 + m = i + (m + 1) := by omega
    have e3 : (i : Int) + 1 = ((i + 1 : Nat) : Int) := by omega
    have b := bt_rng set i
    unfold fX4_weightOf_L4
    rw [bit_eq hs.1 hs.2 (by omega) (by omega), wr_id (x := bt set i) (by omega) (by omega)]
    simp (disch := omega) only [xrd_at, wr_id, c, if_pos]
    rw [e3, ih n' (i + 1) _ (by omega) (by omega), ih n' (i + 1) _ (by omega) (by omega), e2, e1, bt_mul]
    split
    · congr 1
      omega
    · congr 1
      omega
theorem of0_e {M : xM} {p f a : Int} (h0 : 0 ≤ p ∧ p < 100) (hf : 0 ≤ f ∧ f < 4) (ha : 20 + 4 * p + f = a) : fX12_of0 M p f = some (M 95 a) := by
  unfold fX12_of0
  rw [ha, xrd_at (by omega) (by omega) (by omega)]
theorem weightM_q {M : xM} {set : Int} (gP : gPlot (M 95)) (h5 : 0 ≤ M 95 5 ∧ M 95 5 ≤ 10) (hs : 0 ≤ set ∧ set < 2147483648) (m : Nat) : ∀ (n i : Nat) (x : Int), (i : Int) + m = M 95 5 → m < n → fX12_weighs_L4 n M set x i = some (x + sWt (M 95) set (i + m) - sWt (M 95) set i) := by
  induction m with
  | zero =>
    intro n i x h1 h2
    obtain ⟨n', rfl⟩ : ∃ n', n = n' + 1 := ⟨n - 1, by omega⟩
    unfold fX12_weighs_L4
    simp (disch := omega) only [wr_id, if_neg]
    congr 1
    show _ = x + sWt (M 95) set i - sWt (M 95) set i
    omega
  | succ m ih =>
    intro n i x h1 h2
    obtain ⟨n', rfl⟩ : ∃ n', n = n' + 1 := ⟨n - 1, by omega⟩
    have e1 : sWt (M 95) set (i + 1) = sWt (M 95) set i + bt set i * M 95 (21 + 4 * (i : Int)) := rfl
    have e2 : i + 1 + m = i + (m + 1) := by omega
    have e3 : (i : Int) + 1 = ((i + 1 : Nat) : Int) := by omega
    unfold fX12_weighs_L4
    rw [bit_eq hs.1 hs.2 (by omega) (by omega), of0_e (a := 21 + 4 * (i : Int)) (by omega) (by omega) (by omega), if_pos (by rw [wr_id (by omega) (by omega), wr_id (by omega) (by omega)]; omega), e3]
    have q := ih n' (i + 1) (x + bt set i * M 95 (21 + 4 * (i : Int))) (by omega) (by omega)
    rw [e2, e1] at q
    refine Eq.trans q ?_
    generalize bt set i * M 95 (21 + 4 * (i : Int)) = y
    have e9 : x + y + sWt (M 95) set (i + (m + 1)) - (sWt (M 95) set i + y) = x + sWt (M 95) set (i + (m + 1)) - sWt (M 95) set i := by omega
    rw [e9]
theorem weightOf_e {W : Int → Int} {M : xM} {set : Int} (iP : rPlot M W) (gP : gPlot W) (h5 : 0 ≤ W 5 ∧ W 5 ≤ 10) (i5 : M 5 0 = W 5) (hs : 0 ≤ set ∧ set < 2147483648) : fX4_weightOf M set = some (sWt W set (W 5).toNat) := by
  have q := weight_q iP gP h5 i5 hs (W 5).toNat xfuel 0 0 (by omega) (by unfold xfuel; omega)
  have e0 : sWt W set 0 = 0 := rfl
  rw [Nat.zero_add, e0] at q
  have z0 : ((0 : Nat) : Int) = 0 := rfl
  rw [z0] at q
  unfold fX4_weightOf
  rw [q]
  show some _ = some _
  congr 1
  omega
theorem weighs_e {M : xM} {set : Int} (gP : gPlot (M 95)) (h5 : 0 ≤ M 95 5 ∧ M 95 5 ≤ 10) (hs : 0 ≤ set ∧ set < 2147483648) : fX12_weighs M set = some (sWt (M 95) set (M 95 5).toNat) := by
  have q := weightM_q gP h5 hs (M 95 5).toNat xfuel 0 0 (by omega) (by unfold xfuel; omega)
  have e0 : sWt (M 95) set 0 = 0 := rfl
  rw [Nat.zero_add, e0] at q
  have z0 : ((0 : Nat) : Int) = 0 := rfl
  rw [z0] at q
  unfold fX12_weighs
  rw [q]
  show some _ = some _
  congr 1
  omega
theorem enoughK_e {W : Int → Int} {M : xM} {w : Int} (iP : rPlot M W) (gP : gPlot W) (h5 : 0 ≤ W 5 ∧ W 5 ≤ 10) (i5 : M 5 0 = W 5) (hw : -1000000 ≤ w ∧ w ≤ 1000000) : fX4_isEnough M w = some (sEn W w) := by
  have ar := sAll_rng h5
  have r := sWt_rng gP (sAll W) (W 5).toNat (by omega)
  unfold fX4_isEnough sEn
  rw [allK_e i5 h5, weightOf_e iP gP h5 i5 (by omega)]
  show (if wr _ < wr _ then _ else _) = _
  rw [wr_id (by omega) (by omega), wr_id (by omega) (by omega)]
  split
  · rw [decide_eq_true (by omega)]
  · rw [decide_eq_false (by omega)]
theorem enoughM_e {M : xM} {set : Int} (gP : gPlot (M 95)) (h5 : 0 ≤ M 95 5 ∧ M 95 5 ≤ 10) (hs : 0 ≤ set ∧ set < 2147483648) : fX12_isEnough M set = some (sEn (M 95) (sWt (M 95) set (M 95 5).toNat)) := by
  have ar := sAll_rng h5
  have r := sWt_rng gP (sAll (M 95)) (M 95 5).toNat (by omega)
  have r2 := sWt_rng gP set (M 95 5).toNat (by omega)
  unfold fX12_isEnough sEn
  rw [allM_e h5, weighs_e gP h5 hs, weighs_e gP h5 (by omega)]
  show (if wr _ < wr _ then _ else _) = _
  rw [wr_id (by omega) (by omega), wr_id (by omega) (by omega)]
  split
  · rw [decide_eq_true (by omega)]
  · rw [decide_eq_false (by omega)]
theorem sWt_or {W : Int → Int} {set p : Int} {k : Nat} (hk : k ≤ 31) (hs : 0 ≤ set ∧ set < 2 ^ k) (hp : 0 ≤ p ∧ p < k) (hb : bt set p = 0) (n : Nat) : sWt W (xor_ set (xshl 1 p)) n = sWt W set n + if p < n then W (21 + 4 * p) else 0 := by
  have o := (or_bit hk hs.1 hs.2 hp.1 hp.2).2
  induction n with
  | zero =>
    rw [if_neg (by omega)]
    rfl
  | succ n ih =>
    show sWt W _ n + bt _ n * _ = sWt W _ n + bt _ n * _ + _
    rw [ih, o n (by omega)]
    by_cases e : (n : Int) = p
    · rw [if_pos e, if_neg (by omega), if_pos (by omega), e, hb]
      omega
    · rw [if_neg e]
      by_cases h : p < n
      · rw [if_pos h, if_pos (by omega)]
        omega
      · rw [if_neg h, if_neg (by omega)]
        omega
/-! how many -/
def cnt (s : Int) : Nat → Int
  | 0 => 0
  | n + 1 => cnt s n + bt s n
theorem cnt_rng (s : Int) (n : Nat) : 0 ≤ cnt s n ∧ cnt s n ≤ n := by
  induction n with
  | zero => exact ⟨Int.le_refl _, Int.le_refl _⟩
  | succ n ih =>
    show 0 ≤ cnt s n + bt s n ∧ cnt s n + bt s n ≤ _
    have := bt_rng s n
    omega
theorem count_q {M : xM} {s : Int} (hs : 0 ≤ s ∧ s < 2147483648) (m : Nat) : ∀ (n i : Nat) (x : Int), i + m = 24 → m < n → fX12_count_L4 n M s x i = some (x + cnt s (i + m) - cnt s i) := by
  induction m with
  | zero =>
    intro n i x h1 h2
    obtain ⟨n', rfl⟩ : ∃ n', n = n' + 1 := ⟨n - 1, by omega⟩
    unfold fX12_count_L4
    simp (disch := omega) only [wr_id, if_neg]
    congr 1
    show _ = x + cnt s i - cnt s i
    omega
  | succ m ih =>
    intro n i x h1 h2
    obtain ⟨n', rfl⟩ : ∃ n', n = n' + 1 := ⟨n - 1, by omega⟩
    have e1 : cnt s (i + 1) = cnt s i + bt s i := rfl
    have e2 : i + 1 + m = i + (m + 1) := by omega
    have e3 : (i : Int) + 1 = ((i + 1 : Nat) : Int) := by omega
    unfold fX12_count_L4
    rw [bit_eq hs.1 hs.2 (by omega) (by omega)]
    simp (disch := omega) only [wr_id, if_pos]
    rw [e3, ih n' (i + 1) _ (by omega) (by omega), e2, e1]
    congr 1
    omega
theorem count_e {M : xM} {s : Int} (hs : 0 ≤ s ∧ s < 2147483648) : fX12_count M s = some (cnt s 24) := by
  have q := count_q (M := M) hs 24 xfuel 0 0 (by omega) (by unfold xfuel; omega)
  have e0 : cnt s 0 = 0 := rfl
  rw [e0] at q
  have z0 : ((0 : Nat) : Int) = 0 := rfl
  rw [z0] at q
  unfold fX12_count
  rw [q]
  show some _ = some _
  congr 1
  show (0 : Int) + cnt s 24 - 0 = cnt s 24
  omega
set_option maxRecDepth 100000 in
theorem bitc_n : ∀ s : Nat, s < 1024 → fJ6_bitCount_0f7a4 (s : Int) = cnt (s : Int) 24 := by decide +kernel
theorem bitc_e {s : Int} (hs : 0 ≤ s ∧ s < 1024) : fJ6_bitCount_0f7a4 s = cnt s 24 := by
  obtain ⟨k, rfl⟩ := Int.eq_ofNat_of_zero_le hs.1
  exact bitc_n k (by omega)
