/-! a noon: the reference's votes -/
theorem xor_0 {s : Int} (h0 : 0 ≤ s) (h1 : s < 2147483648) : xor_ s 0 = s := by
  obtain ⟨m, rfl⟩ := Int.eq_ofNat_of_zero_le h0
  have := xor_nat (a := m) (b := 0) (by omega) (by omega)
  simpa using this
/-- a bit is set where told, or nothing -/
theorem or_if {S p : Int} {c : Prop} [Decidable c] (s0 : 0 ≤ S) (s1 : S < 1024) (p0 : 0 ≤ p) (p1 : p < 10) : (0 ≤ xor_ S (if c then xshl 1 p else 0) ∧ xor_ S (if c then xshl 1 p else 0) < 1024) ∧ ∀ j, 0 ≤ j → bt (xor_ S (if c then xshl 1 p else 0)) j = if c ∧ j = p then 1 else bt S j := by
  by_cases h : c
  · rw [if_pos h]
    have ob := or_bit (s := S) (i := p) (n := 10) (by decide) s0 s1 p0 (by omega)
    refine ⟨ob.1, ?_⟩
    intro j j0
    rw [ob.2 j j0]
    by_cases e : j = p
    · rw [if_pos e, if_pos ⟨h, e⟩]
    · rw [if_neg e, if_neg (fun w => e w.2)]
  · rw [if_neg h, xor_0 s0 (by omega)]
    refine ⟨⟨s0, s1⟩, ?_⟩
    intro j j0
    rw [if_neg (fun w => h w.1)]
theorem sWt_vw {W : Int → Int} {S x : Int} (n : Nat) (h : ∀ j : Nat, j < n → bt S j = if sVv W j = x then 1 else 0) : sWt W S n = sVw W x n := by
  induction n with
  | zero => rfl
  | succ n ih =>
    show sWt W S n + bt S n * _ = sVw W x n + _
    rw [ih (fun j hj => h j (by omega)), h n (by omega)]
    split
    · rw [Int.one_mul]
    · rw [Int.zero_mul]
