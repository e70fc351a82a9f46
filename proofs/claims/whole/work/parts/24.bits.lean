/-! bits, first places -/
theorem bt_nat (m j : Nat) : bt (m : Int) (j : Int) = if m.testBit j = true then 1 else 0 := by
  have e : bt (m : Int) (j : Int) = ((m / 2 ^ j % 2 : Nat) : Int) := by
    unfold bt
    simp
  rw [e, Nat.testBit_eq_decide_div_mod_eq]
  by_cases h : m / 2 ^ j % 2 = 1
  · rw [h]; simp
  · have : m / 2 ^ j % 2 = 0 := by omega
    rw [this]; simp
theorem nI_or {a b : Nat} (ha : a < 2147483648) (hb : b < 2147483648) : nI a ||| nI b = nI (a ||| b) := by
  have h : (a ||| b) < 2 ^ 31 := Nat.or_lt_two_pow (by omega) (by omega)
  apply Int32.toBitVec_inj.mp
  rw [Int32.toBitVec_or]
  apply BitVec.eq_of_toNat_eq
  rw [BitVec.toNat_or, pk_tn (by omega), pk_tn (by omega), pk_tn (by omega)]
theorem xor_nat {a b : Nat} (ha : a < 2147483648) (hb : b < 2147483648) : xor_ (a : Int) (b : Int) = ((a ||| b : Nat) : Int) := by
  have h : (a ||| b) < 2 ^ 31 := Nat.or_lt_two_pow (by omega) (by omega)
  unfold xor_
  rw [ofI_nat, ofI_nat, nI_or ha hb, nI_toInt h]
theorem xshl_nat {k : Nat} (h : k < 31) : xshl 1 (k : Int) = ((2 ^ k : Nat) : Int) := by
  rw [xshl_1 (by omega) (by omega)]
  simp
theorem pow_lt {k n : Nat} (h : k < n) : 2 ^ k < 2 ^ n := Nat.pow_lt_pow_right (by decide) h
theorem or_bit {s i : Int} {n : Nat} (hn : n ≤ 31) (h0 : 0 ≤ s) (h1 : s < 2 ^ n) (h2 : 0 ≤ i) (h3 : i < n) : (0 ≤ xor_ s (xshl 1 i) ∧ xor_ s (xshl 1 i) < 2 ^ n) ∧ ∀ j, 0 ≤ j → bt (xor_ s (xshl 1 i)) j = if j = i then 1 else bt s j := by
  obtain ⟨m, rfl⟩ := Int.eq_ofNat_of_zero_le h0
  obtain ⟨k, rfl⟩ := Int.eq_ofNat_of_zero_le h2
  have hk : k < n := by omega
  have hm : m < 2 ^ n := by
    have : ((m : Nat) : Int) < ((2 ^ n : Nat) : Int) := by simpa using h1
    omega
  have h31 : 2 ^ n ≤ 2 ^ 31 := Nat.pow_le_pow_right (by decide) hn
  have hp := pow_lt hk
  show (0 ≤ xor_ ((m : Nat) : Int) (xshl 1 ((k : Nat) : Int)) ∧ _) ∧ _
  rw [xshl_nat (by omega)]
  rw [xor_nat (by omega) (by omega)]
  have hb : (m ||| 2 ^ k) < 2 ^ n := Nat.or_lt_two_pow hm hp
  refine ⟨⟨by omega, ?_⟩, ?_⟩
  · have : (((m ||| 2 ^ k : Nat)) : Int) < ((2 ^ n : Nat) : Int) := by omega
    simpa using this
  · intro j hj
    obtain ⟨q, rfl⟩ := Int.eq_ofNat_of_zero_le hj
    show bt ((m ||| 2 ^ k : Nat) : Int) ((q : Nat) : Int) = if ((q : Nat) : Int) = ((k : Nat) : Int) then 1 else bt ((m : Nat) : Int) ((q : Nat) : Int)
    rw [bt_nat, bt_nat, Nat.testBit_or, Nat.testBit_two_pow]
    by_cases e : q = k
    · subst e; simp
    · have e' : ¬ k = q := fun h => e h.symm
      have e2 : ¬ ((q : Nat) : Int) = ((k : Nat) : Int) := by omega
      rw [if_neg e2]
      simp [e']
theorem clear_bit {s i : Int} (h0 : 0 ≤ s) (h1 : s < 16777216) (h2 : 0 ≤ i) (h3 : i < 24) : (0 ≤ xand s (xxor (xshl 1 i) (-1)) ∧ xand s (xxor (xshl 1 i) (-1)) < 16777216) ∧ ∀ j, 0 ≤ j → j < 24 → bt (xand s (xxor (xshl 1 i) (-1))) j = if j = i then 0 else bt s j := by
  obtain ⟨m, rfl⟩ := Int.eq_ofNat_of_zero_le h0
  obtain ⟨k, rfl⟩ := Int.eq_ofNat_of_zero_le h2
  have hk : k < 24 := by omega
  have hm : m < 16777216 := by omega
  have hp : 2 ^ k < 2 ^ 24 := pow_lt hk
  have e1 : xand ((m : Nat) : Int) (xxor (xshl 1 ((k : Nat) : Int)) (-1)) = (nI m &&& (nI (2 ^ k) ^^^ -1)).toInt := by
    unfold xand xxor
    rw [xshl_nat (by omega), Int32.ofInt_toInt, ofI_nat, ofI_nat]
    rfl
  have e2 : ∃ R : Nat, (nI m &&& (nI (2 ^ k) ^^^ -1)).toBitVec.toNat = R ∧ R ≤ m ∧ ∀ j, j < 24 → R.testBit j = (m.testBit j && !decide (j = k)) := by
    refine ⟨_, rfl, ?_, ?_⟩
    · rw [Int32.toBitVec_and, BitVec.toNat_and, pk_tn (by omega)]
      exact Nat.and_le_left
    · intro j hj
      rw [Int32.toBitVec_and, BitVec.toNat_and, pk_tn (by omega), Nat.testBit_and, Int32.toBitVec_xor, BitVec.toNat_xor, Nat.testBit_xor, pk_tn (by omega), Nat.testBit_two_pow]
      have e : ((-1 : Int32)).toBitVec.toNat = 2 ^ 32 - 1 := by decide
      rw [e, Nat.testBit_two_pow_sub_one]
      by_cases q : k = j
      · subst q
        have : k < 32 := by omega
        simp [this]
      · have q2 : ¬ j = k := fun h => q h.symm
        have : j < 32 := by omega
        simp [q, q2, this]
  obtain ⟨R, r1, r2, r3⟩ := e2
  have e3 : (nI m &&& (nI (2 ^ k) ^^^ -1)).toInt = (R : Int) := by
    show (nI m &&& (nI (2 ^ k) ^^^ -1)).toBitVec.toInt = _
    rw [BitVec.toInt_eq_toNat_of_lt (by omega), r1]
  show (0 ≤ xand ((m : Nat) : Int) (xxor (xshl 1 ((k : Nat) : Int)) (-1)) ∧ xand ((m : Nat) : Int) (xxor (xshl 1 ((k : Nat) : Int)) (-1)) < 16777216) ∧ ∀ j, 0 ≤ j → j < 24 → bt (xand ((m : Nat) : Int) (xxor (xshl 1 ((k : Nat) : Int)) (-1))) j = if j = ((k : Nat) : Int) then 0 else bt ((m : Nat) : Int) j
  rw [e1, e3]
  refine ⟨by omega, ?_⟩
  intro j hj hj2
  obtain ⟨q, rfl⟩ := Int.eq_ofNat_of_zero_le hj
  show bt ((R : Nat) : Int) ((q : Nat) : Int) = if ((q : Nat) : Int) = ((k : Nat) : Int) then 0 else bt ((m : Nat) : Int) ((q : Nat) : Int)
  rw [bt_nat, bt_nat, r3 q (by omega)]
  by_cases e : q = k
  · subst e; simp
  · have e2 : ¬ ((q : Nat) : Int) = ((k : Nat) : Int) := by omega
    rw [if_neg e2]
    simp [e]
/-- the first place at which it holds, or -1 -/
def fI (P : Int → Bool) (i : Int) : Nat → Int
  | 0 => -1
  | m + 1 => if P i = true then i else fI P (i + 1) m
theorem fI_t {P : Int → Bool} {i : Int} {m : Nat} (h : P i = true) : fI P i (m + 1) = i := if_pos h
theorem fI_f {P : Int → Bool} {i : Int} {m : Nat} (h : ¬ P i = true) : fI P i (m + 1) = fI P (i + 1) m := if_neg h
theorem fI_rng (P : Int → Bool) (m : Nat) : ∀ i, fI P i m = -1 ∨ (i ≤ fI P i m ∧ fI P i m < i + m ∧ P (fI P i m) = true) := by
  induction m with
  | zero => intro i; exact Or.inl rfl
  | succ m ih =>
    intro i
    by_cases h : P i = true
    · rw [fI_t h]; exact Or.inr ⟨by omega, by omega, h⟩
    · rw [fI_f h]
      rcases ih (i + 1) with h2 | h2
      · exact Or.inl h2
      · exact Or.inr ⟨by omega, by omega, h2.2.2⟩
/-! who votes for a plot -/
def sOn (W : Int → Int) (p d s : Int) : Bool := decide (W (130 + 4 * s) = p ∧ W (132 + 4 * s) ≤ d ∧ d ≤ W (133 + 4 * s))
def sSale (W : Int → Int) (p d : Int) : Int := fI (sOn W p d) 0 (W 6).toNat
def sHold (W : Int → Int) (p d : Int) : Int := if sSale W p d = -1 then p else W (131 + 4 * sSale W p d)
section HO
variable {M : xM} {p d : Int}
theorem buyer_q {W : Int → Int} (iS : rSale M W) (gS : gSale W) (gb : gB W) (i6 : M 12 0 = W 6) (hp : -2147483648 ≤ p ∧ p < 2147483648) (hd : -2147483648 ≤ d ∧ d < 2147483648) (m : Nat) : ∀ (n : Nat) (i : Int), 0 ≤ i → i + m = W 6 → m < n → fX6_buyerOn_L2 n M p d i = some (if fI (sOn W p d) i m = -1 then .inl () else .inr (W (131 + 4 * fI (sOn W p d) i m))) := by
  unfold gB at gb
  induction m with
  | zero =>
    intro n i h0 h1 h2
    obtain ⟨n', rfl⟩ : ∃ n', n = n' + 1 := ⟨n - 1, by omega⟩
    unfold fX6_buyerOn_L2
    simp (disch := omega) only [wr_id, if_neg]
    rfl
  | succ m ih =>
    intro n i h0 h1 h2
    obtain ⟨n', rfl⟩ : ∃ n', n = n' + 1 := ⟨n - 1, by omega⟩
    have c := iS i h0 (by omega)
    have g := gS i h0 (by omega)
    have r := ih n' (i + 1) (by omega) (by omega) (by omega)
    have hlt : i < W 6 := by omega
    unfold fX6_buyerOn_L2
    by_cases hP : W (130 + 4 * i) = p ∧ W (132 + 4 * i) ≤ d ∧ d ≤ W (133 + 4 * i)
    · rw [fI_t (P := sOn W p d) (by simpa only [sOn, decide_eq_true_eq] using hP), if_neg (show ¬ i = -1 by omega)]
      simp (disch := omega) only [xrd_at, wr_id, if_pos, if_neg, c]
    · rw [fI_f (P := sOn W p d) (by simpa only [sOn, decide_eq_true_eq] using hP), ← r]
      simp (disch := omega) only [xrd_at, wr_id, c]
      repeat' split
      all_goals first | rfl | (exfalso; omega)
theorem sale_q (gS : gSale (M 95)) (gb : gB (M 95)) (hp : -2147483648 ≤ p ∧ p < 2147483648) (hd : -2147483648 ≤ d ∧ d < 2147483648) (m : Nat) : ∀ (n : Nat) (i : Int), 0 ≤ i → i + m = M 95 6 → m < n → fX12_saleOf_L2 n M p d i = some (if fI (sOn (M 95) p d) i m = -1 then .inl () else .inr (fI (sOn (M 95) p d) i m)) := by
  unfold gB at gb
  induction m with
  | zero =>
    intro n i h0 h1 h2
    obtain ⟨n', rfl⟩ : ∃ n', n = n' + 1 := ⟨n - 1, by omega⟩
    unfold fX12_saleOf_L2
    simp (disch := omega) only [wr_id, if_neg]
    rfl
  | succ m ih =>
    intro n i h0 h1 h2
    obtain ⟨n', rfl⟩ : ∃ n', n = n' + 1 := ⟨n - 1, by omega⟩
    have g := gS i h0 (by omega)
    have r := ih n' (i + 1) (by omega) (by omega) (by omega)
    have hlt : i < M 95 6 := by omega
    have a1 : 130 + 4 * i + 2 = 132 + 4 * i := by omega
    have a2 : 130 + 4 * i + 3 = 133 + 4 * i := by omega
    unfold fX12_saleOf_L2
    by_cases hP : M 95 (130 + 4 * i) = p ∧ M 95 (132 + 4 * i) ≤ d ∧ d ≤ M 95 (133 + 4 * i)
    · rw [fI_t (P := sOn (M 95) p d) (by simpa only [sOn, decide_eq_true_eq] using hP), if_neg (show ¬ i = -1 by omega)]
      simp (disch := omega) only [xrd_at, wr_id, if_pos, if_neg, isIn_eq, decide_eq_true_eq, a1, a2]
    · rw [fI_f (P := sOn (M 95) p d) (by simpa only [sOn, decide_eq_true_eq] using hP), ← r]
      simp (disch := omega) only [xrd_at, wr_id, isIn_eq, decide_eq_true_eq, a1, a2]
      repeat' split
      all_goals first | rfl | (exfalso; omega)
theorem holdOn_e {W : Int → Int} (iS : rSale M W) (gS : gSale W) (gb : gB W) (i6 : M 12 0 = W 6) (hp : -2147483648 ≤ p ∧ p < 2147483648) (hd : -2147483648 ≤ d ∧ d < 2147483648) : fX1_holderOn M p d = some (sHold W p d) := by
  have gb' := gb
  unfold gB at gb'
  have q := buyer_q iS gS gb i6 hp hd (W 6).toNat xfuel 0 (by omega) (by omega) (by unfold xfuel; omega)
  have f := fI_rng (sOn W p d) (W 6).toNat 0
  unfold fX1_holderOn fX6_buyerOn sHold sSale
  rw [q]
  by_cases h : fI (sOn W p d) 0 (W 6).toNat = -1
  · rw [if_pos h, if_pos h]
    rfl
  · rw [if_neg h, if_neg h]
    have g := (gS (fI (sOn W p d) 0 (W 6).toNat) (by omega) (by omega)).2.1
    show (if wr _ = wr (-1) then _ else _) = _
    rw [if_neg]
    rw [wr_id (by omega) (by omega), wr_id (by omega) (by omega)]
    omega
theorem holdOf_e (gS : gSale (M 95)) (gb : gB (M 95)) (hp : -2147483648 ≤ p ∧ p < 2147483648) (hd : -2147483648 ≤ d ∧ d < 2147483648) : fX12_holderOf M p d = some (sHold (M 95) p d) := by
  have gb' := gb
  unfold gB at gb'
  have q := sale_q gS gb hp hd (M 95 6).toNat xfuel 0 (by omega) (by omega) (by unfold xfuel; omega)
  have f := fI_rng (sOn (M 95) p d) (M 95 6).toNat 0
  unfold fX12_holderOf fX12_saleOf sHold sSale
  rw [q]
  by_cases h : fI (sOn (M 95) p d) 0 (M 95 6).toNat = -1
  · rw [if_pos h, if_pos h]
    rfl
  · rw [if_neg h, if_neg h]
    show (if wr _ = wr (-1) then _ else _) = _
    rw [if_neg, xrd_at]
    · show some _ = some _
      congr 2
      omega
    · omega
    · omega
    · omega
    · rw [wr_id (by omega) (by omega), wr_id (by omega) (by omega)]
      omega
theorem sHold_rng {W : Int → Int} (gS : gSale W) (gb : gB W) (hp : 0 ≤ p ∧ p < W 5) : 0 ≤ sHold W p d ∧ sHold W p d < W 5 := by
  unfold gB at gb
  have f := fI_rng (sOn W p d) (W 6).toNat 0
  unfold sHold sSale
  by_cases h : fI (sOn W p d) 0 (W 6).toNat = -1
  · rw [if_pos h]; exact hp
  · rw [if_neg h]
    exact (gS (fI (sOn W p d) 0 (W 6).toNat) (by omega) (by omega)).2.1
end HO
theorem tc_holder {ph : Bool} {c : Int} {M : xM} {a b : Int} (I : Inv ph c M) (ha : -2147483648 ≤ a ∧ a < 2147483648) (hb : -2147483648 ≤ b ∧ b < 2147483648) : yk (fX11_holder M a b) fun q => yk (fX12_holder M a b) fun z => q = z := by
  have iB := I.1.1
  have gb := I.2.1.1
  unfold rB at iB
  unfold gB at gb
  have s1 := holdOn_e (p := a) (d := b) I.1.2.2.2.2.2.1 I.2.1.2.2.2.2.2.2.1 I.2.1.1 (by omega) ha hb
  have s2 := holdOf_e (p := a) (d := b) I.2.1.2.2.2.2.2.2.1 I.2.1.1 ha hb
  by_cases g : (0 ≤ a ∧ a < M 95 5) ∧ (0 ≤ b ∧ b ≤ 9999)
  · unfold fX11_holder fX4_has fX11_isDay fX12_holder fX12_isPlot fX12_isDay
    simp (disch := omega) only [yk_xb, yk_xb2, yk_some, yk_xlet, yk_xj, within_eq, isIn_eq, decide_eq_true_eq, if_pos, if_neg, xwt_at, xrd_at, xix_at, wr_id, forget_e, forget0_e, forgets_e, ↓reduceIte, xup_o, xup_n, xup_e, xfi_o, xfi_e, xcl_o, xcl_e, and_self, and_true, true_and, true_or, or_true, eq_self, Int.le_refl, s1, s2]
  · have e1 : fX11_holder M a b = some (-1) := by
      unfold fX11_holder fX4_has fX11_isDay
      simp (disch := omega) only [within_eq, isIn_eq, decide_eq_true_eq, xwt_at, xrd_at, xix_at, wr_id]
      repeat' split
      all_goals first | (exfalso; omega; done) | rfl
    have e2 : fX12_holder M a b = some (-1) := by
      unfold fX12_holder fX12_isPlot fX12_isDay
      simp (disch := omega) only [within_eq, isIn_eq, decide_eq_true_eq, xwt_at, xrd_at, xix_at, wr_id]
      repeat' split
      all_goals first | (exfalso; omega; done) | rfl
    exact ⟨_, e1, _, e2, rfl⟩
