/-! the pure part: a function answers, and the answer is such -/
def yk {α : Type} (o : Option α) (P : α → Prop) : Prop := ∃ a, o = some a ∧ P a
theorem yk.mono {α : Type} {o : Option α} {P Q : α → Prop} (h : yk o P) (k : ∀ a, P a → Q a) : yk o Q := by
  obtain ⟨a, e, p⟩ := h
  exact ⟨a, e, k a p⟩
theorem yk_some {α : Type} {a : α} {P : α → Prop} : yk (some a) P ↔ P a := by
  constructor
  · rintro ⟨b, e, p⟩
    cases e
    exact p
  · intro p
    exact ⟨a, rfl, p⟩
theorem yk_none {α : Type} {P : α → Prop} : yk (none : Option α) P ↔ False := by
  constructor
  · rintro ⟨b, e, p⟩
    cases e
  · exact False.elim
theorem yk_xb {α β : Type} {o : Option α} {F : α → Option β} {P : β → Prop} : yk (xb o F) P ↔ yk o (fun a => yk (F a) P) := by
  cases o with
  | none => rw [yk_none]; exact yk_none
  | some a => rw [yk_some]; exact Iff.rfl
theorem yk_xb2 {A1 A2 β : Type} {o : Option (A1 × A2)} {F : A1 → A2 → Option β} {P : β → Prop} : yk (xb2 o F) P ↔ yk o (fun a => yk (F a.1 a.2) P) := by
  cases o with
  | none => rw [yk_none]; exact yk_none
  | some a => rw [yk_some]; exact Iff.rfl
theorem yk_xb3 {A1 A2 A3 β : Type} {o : Option (A1 × A2 × A3)} {F : A1 → A2 → A3 → Option β} {P : β → Prop} : yk (xb3 o F) P ↔ yk o (fun a => yk (F a.1 a.2.1 a.2.2) P) := by
  cases o with
  | none => rw [yk_none]; exact yk_none
  | some a => rw [yk_some]; exact Iff.rfl
theorem yk_xb5 {A1 A2 A3 A4 A5 β : Type} {o : Option (A1 × A2 × A3 × A4 × A5)} {F : A1 → A2 → A3 → A4 → A5 → Option β} {P : β → Prop} : yk (xb5 o F) P ↔ yk o (fun a => yk (F a.1 a.2.1 a.2.2.1 a.2.2.2.1 a.2.2.2.2) P) := by
  cases o with
  | none => rw [yk_none]; exact yk_none
  | some a => rw [yk_some]; exact Iff.rfl
theorem yk_xs0 {ρ β : Type} {o : Option (Unit ⊕ ρ)} {F : Option β} {K : ρ → Option β} {P : β → Prop} : yk (xs0 o F K) P ↔ yk o (fun s => Sum.elim (fun _ => yk F P) (fun r => yk (K r) P) s) := by
  cases o with
  | none => rw [yk_none]; exact yk_none
  | some a => rw [yk_some]; cases a with
    | inl u => exact Iff.rfl
    | inr r => exact Iff.rfl
theorem yk_xs1 {A1 ρ β : Type} {o : Option (A1 ⊕ ρ)} {F : A1 → Option β} {K : ρ → Option β} {P : β → Prop} : yk (xs1 o F K) P ↔ yk o (fun s => Sum.elim (fun a => yk (F a) P) (fun r => yk (K r) P) s) := by
  cases o with
  | none => rw [yk_none]; exact yk_none
  | some a => rw [yk_some]; cases a with
    | inl u => exact Iff.rfl
    | inr r => exact Iff.rfl
theorem yk_if {α : Type} {c : Prop} [Decidable c] {x y : Option α} {P : α → Prop} : yk (if c then x else y) P ↔ (c → yk x P) ∧ (¬ c → yk y P) := by
  by_cases h : c
  · simp [h]
  · simp [h]
theorem yk_xlet {α β : Type} {a : β} {F : β → Option α} {P : α → Prop} : yk (xlet a F) P ↔ yk (F a) P := Iff.rfl
theorem yk_xj {α β : Type} {K : β} {F : β → Option α} {P : α → Prop} : yk (xj K F) P ↔ yk (F K) P := Iff.rfl
theorem yk_xrd {α : Type} {M : xM} {o : Nat} {n i : Int} {F : Int → Option α} {P : α → Prop} : yk (xrd M o n i F) P ↔ (0 ≤ wr i ∧ wr i < n) ∧ yk (F (M o (wr i))) P := by
  unfold xrd
  by_cases h : 0 ≤ wr i ∧ wr i < n
  · rw [if_pos h]; exact ⟨fun a => ⟨h, a⟩, fun a => a.2⟩
  · rw [if_neg h]; exact ⟨fun a => (yk_none.mp a).elim, fun a => (h a.1).elim⟩
theorem yk_xwt {α : Type} {M : xM} {o : Nat} {n i x : Int} {F : xM → Option α} {P : α → Prop} : yk (xwt M o n i x F) P ↔ (0 ≤ wr i ∧ wr i < n) ∧ yk (F (xup M o (wr i) x)) P := by
  unfold xwt
  by_cases h : 0 ≤ wr i ∧ wr i < n
  · rw [if_pos h]; exact ⟨fun a => ⟨h, a⟩, fun a => a.2⟩
  · rw [if_neg h]; exact ⟨fun a => (yk_none.mp a).elim, fun a => (h a.1).elim⟩
theorem xrd_at {α : Type} {M : xM} {o : Nat} {n i : Int} {F : Int → Option α} (h0 : 0 ≤ i) (h1 : i < n) (h2 : n ≤ 2147483648) : xrd M o n i F = F (M o i) := by
  have e : wr i = i := wr_id (by omega) (by omega)
  unfold xrd
  rw [e, if_pos ⟨h0, h1⟩]
theorem xwt_at {α : Type} {M : xM} {o : Nat} {n i x : Int} {F : xM → Option α} (h0 : 0 ≤ i) (h1 : i < n) (h2 : n ≤ 2147483648) : xwt M o n i x F = F (xup M o i x) := by
  have e : wr i = i := wr_id (by omega) (by omega)
  unfold xwt
  rw [e, if_pos ⟨h0, h1⟩]
theorem xix_at {α : Type} {n i : Int} {F : Option α} (h0 : 0 ≤ i) (h1 : i < n) (h2 : n ≤ 2147483648) : xix n i F = F := by
  have e : wr i = i := wr_id (by omega) (by omega)
  unfold xix
  rw [e, if_pos ⟨h0, h1⟩]
theorem xtb_at {α : Type} {tb : List Int} {n i : Int} {F : Int → Option α} (h0 : 0 ≤ i) (h1 : i < n) (h2 : n ≤ 2147483648) : xtb tb n i F = F (tb.getD i.toNat 0) := by
  have e : wr i = i := wr_id (by omega) (by omega)
  unfold xtb
  rw [e, if_pos ⟨h0, h1⟩]
theorem xnz_at {α : Type} {b : Int} {F : Option α} (h0 : 0 < b) (h1 : b < 2147483648) : xnz b F = F := by
  unfold xnz
  rw [wr_id (by omega) h1, if_neg (by omega)]
theorem xcp_at {α : Type} {M : xM} {o1 o2 : Nat} {l1 sp l2 dp nn : Int} {F : xM → Option α} (h0 : 0 ≤ sp) (h1 : 0 ≤ dp) (h2 : 0 ≤ nn) (h3 : sp + nn ≤ l1) (h4 : dp + nn ≤ l2) (h5 : l1 < 2147483648) (h6 : l2 < 2147483648) : xcp M o1 l1 sp o2 l2 dp nn F = F (fun a j => if a = o2 ∧ dp ≤ j ∧ j < dp + nn then M o1 (sp + (j - dp)) else M a j) := by
  have e1 : wr sp = sp := wr_id (by omega) (by omega)
  have e2 : wr dp = dp := wr_id (by omega) (by omega)
  have e3 : wr nn = nn := wr_id (by omega) (by omega)
  unfold xcp xcpM
  rw [e1, e2, e3, if_pos ⟨⟨h0, h1, h2⟩, h3, h4⟩]
theorem xup_at {M : xM} {o : Nat} {i v : Int} {a : Nat} {j : Int} : xup M o i v a j = if a = o ∧ j = i then v else M a j := rfl
theorem xup_o {M : xM} {o : Nat} {i v : Int} {a : Nat} (h : a ≠ o) : xup M o i v a = M a := by
  funext j
  rw [xup_at, if_neg (fun e => h e.1)]
theorem xup_s {M : xM} {o : Nat} {i v j : Int} : xup M o i v o j = if j = i then v else M o j := by
  rw [xup_at]
  by_cases h : j = i
  · rw [if_pos ⟨rfl, h⟩, if_pos h]
  · rw [if_neg (fun e => h e.2), if_neg h]
theorem xup_n {M : xM} {o : Nat} {i v j : Int} (h : j ≠ i) : xup M o i v o j = M o j := by rw [xup_s, if_neg h]
theorem xup_e {M : xM} {o : Nat} {i v j : Int} (h : j = i) : xup M o i v o j = v := by rw [xup_s, if_pos h]
/-- cells 0 .. n of an object filled -/
def xfi (M : xM) (o : Nat) (n v : Int) : xM := fun a j => if a = o ∧ 0 ≤ j ∧ j < n then v else M a j
theorem xfi_o {M : xM} {o : Nat} {n v : Int} {a : Nat} (h : a ≠ o) : xfi M o n v a = M a := by
  funext j
  show (if _ then _ else _) = _
  rw [if_neg (fun e => h e.1)]
theorem xfi_e {M : xM} {o : Nat} {n v j : Int} (h : 0 ≤ j) (h2 : j < n) : xfi M o n v o j = v := by
  show (if _ then _ else _) = _
  rw [if_pos ⟨rfl, h, h2⟩]
theorem within_eq {a b c : Int} (h1 : -2147483648 ≤ a) (h2 : a < 2147483648) (h3 : -2147483648 ≤ b) (h4 : b < 2147483648) (h5 : -2147483648 ≤ c) (h6 : c < 2147483648) : fX11_within a b c = decide (b ≤ a ∧ a ≤ c) := by
  unfold fX11_within
  rw [wr_id h1 h2, wr_id h3 h4, wr_id h5 h6]
  by_cases h : a < b
  · rw [if_pos h]; symm; rw [decide_eq_false_iff_not]; omega
  · rw [if_neg h]
    by_cases h' : c < a
    · rw [if_pos h']; symm; rw [decide_eq_false_iff_not]; omega
    · rw [if_neg h']; symm; rw [decide_eq_true_iff]; omega
theorem isIn_eq {a b c : Int} (h1 : -2147483648 ≤ a) (h2 : a < 2147483648) (h3 : -2147483648 ≤ b) (h4 : b < 2147483648) (h5 : -2147483648 ≤ c) (h6 : c < 2147483648) : fX12_isIn a b c = decide (b ≤ a ∧ a ≤ c) := within_eq h1 h2 h3 h4 h5 h6
theorem tmod_pos {a n : Int} (hn : 0 < n) : a.tmod n = a % n ∨ a.tmod n = a % n - n := by
  rw [Int.tmod_eq_emod]
  have e : (n.natAbs : Int) = n := Int.natAbs_of_nonneg (by omega)
  by_cases h : 0 ≤ a ∨ n ∣ a
  · rw [if_pos h]; left; omega
  · rw [if_neg h]; right; omega
theorem emod_two {a n : Int} (hn : 0 < n) : ((a % n) + n) % n = a % n := by rw [Int.add_emod_right, Int.emod_emod_of_dvd _ (Int.dvd_refl n)]
theorem modulo_eq {M : xM} {a : Int} (h0 : 0 < M 95 0) (h1 : M 95 0 < 1000000) (h2 : -1000000000 ≤ a) (h3 : a < 1000000000) : fX12_modulo M a = some (a % M 95 0) := by
  unfold fX12_modulo
  generalize M 95 0 = n at *
  rw [xnz_at h0 (by omega), xnz_at h0 (by omega)]
  unfold xrem
  rw [wr_id (x := n) (by omega) (by omega), wr_id (x := a) (by omega) (by omega)]
  have b1 := Int.emod_nonneg a (b := n) (by omega)
  have b2 := Int.emod_lt_of_pos a h0
  have e2 : 0 ≤ a.tmod n + n ∧ (a.tmod n + n) % n = a % n := by
    rcases tmod_pos (a := a) h0 with e | e
    · rw [e]; exact ⟨by omega, emod_two h0⟩
    · rw [e, Int.sub_add_cancel]; exact ⟨by omega, Int.emod_emod_of_dvd _ (Int.dvd_refl n)⟩
  have b3 : a.tmod n < n ∧ - n ≤ a.tmod n := by
    rcases tmod_pos (a := a) h0 with e | e <;> rw [e] <;> omega
  rw [wr_id (by omega) (by omega), Int.tmod_eq_emod_of_nonneg e2.1, e2.2]
theorem xxor_neg {a b : Int} (h1 : -2147483648 ≤ a) (h2 : a < 2147483648) (h3 : 0 ≤ b) (h4 : b < 2147483648) : wr (xxor a b) < 0 ↔ a < 0 := by
  unfold xxor
  rw [← wr_toInt, Int32.ofInt_toInt]
  have e0 : ∀ z : Int32, z.toInt < 0 ↔ z < 0 := by intro z; rw [Int32.lt_iff_toInt_lt, Int32.toInt_zero]
  rw [e0]
  have e1 : Int32.ofInt a < 0 ↔ a < 0 := by rw [Int32.lt_iff_toInt_lt, wr_toInt, wr_id h1 h2, Int32.toInt_zero]
  have e2 : ¬ Int32.ofInt b < 0 := by rw [Int32.lt_iff_toInt_lt, wr_toInt, wr_id (by omega) h4, Int32.toInt_zero]; omega
  rw [← e1]
  generalize Int32.ofInt a = x at *
  generalize Int32.ofInt b = y at *
  have f : ∀ z : Int32, z < 0 ↔ z.toBitVec.msb = true := by
    intro z
    rw [Int32.lt_iff_toBitVec_slt]
    show (z.toBitVec.slt 0#32) = true ↔ _
    rw [BitVec.slt_zero_eq_msb]
  rw [f] at e2
  rw [f, f, Int32.toBitVec_xor, BitVec.msb_xor]
  cases h : y.toBitVec.msb
  · simp
  · exact (e2 h).elim
theorem floorMod_eq {a n : Int} (h0 : 0 < n) (h1 : n < 1000000) (h2 : -1000000000 ≤ a) (h3 : a < 1000000000) : fJ9_floorMod_7cf53 a n = some (a % n) := by
  unfold fJ9_floorMod_7cf53
  rw [xnz_at h0 (by omega)]
  unfold xrem
  rw [wr_id (x := n) (by omega) (by omega), wr_id (x := a) (by omega) (by omega)]
  have b1 := Int.emod_nonneg a (b := n) (by omega)
  have b2 := Int.emod_lt_of_pos a h0
  have b3 : a.tmod n < n ∧ - n ≤ a.tmod n := by
    rcases tmod_pos (a := a) h0 with e | e <;> rw [e] <;> omega
  rw [wr_id (x := a.tmod n) (by omega) (by omega)]
  have x := xxor_neg (a := a) (b := n) (by omega) (by omega) (by omega) (by omega)
  by_cases h : a < 0
  · rw [if_pos (x.mpr h)]
    have t : a.tmod n ≤ 0 := by
      have := Int.tmod_nonneg (a := -a) n (by omega)
      rw [Int.neg_tmod] at this
      omega
    rcases tmod_pos (a := a) h0 with e | e
    · rw [if_pos (by omega), e]
    · by_cases hz : a.tmod n = 0
      · omega
      · rw [if_neg hz, e, Int.sub_add_cancel]
  · rw [if_neg (fun q => h (x.mp q)), Int.tmod_eq_emod_of_nonneg (by omega)]
theorem wrap_eq {a n : Int} (h0 : 0 < n) (h1 : n < 1000000) (h2 : -1000000000 ≤ a) (h3 : a < 1000000000) : fX11_wrap a n = some (a % n) := by
  unfold fX11_wrap
  rw [wr_id (x := n) (by omega) (by omega), if_pos h0, floorMod_eq h0 h1 h2 h3]
  rfl
theorem md_rng {a n : Int} (h0 : 0 < n) : 0 ≤ a % n ∧ a % n < n := ⟨Int.emod_nonneg a (by omega), Int.emod_lt_of_pos a h0⟩
/-! bits -/
def bt (s p : Int) : Int := s / 2 ^ p.toNat % 2
theorem bt_rng (s p : Int) : bt s p = 0 ∨ bt s p = 1 := by unfold bt; omega
theorem ofI_nat (n : Nat) : Int32.ofInt (n : Int) = nI n := by
  rw [← Int32.toInt_inj, wr_toInt]
  unfold nI wr
  rw [Int32.toInt_ofNat', Int.bmod_def]
  have e : ((Int32.size : Nat) : Int) = 4294967296 := rfl
  rw [e]
  split <;> omega
theorem sh_ix {k : Nat} (h : k < 32) : ((Int32.ofInt (k : Int) &&& 31).toBitVec.smod 32).toNat = k := by
  revert k
  decide
theorem xshr_nat {s k : Nat} (hs : s < 2147483648) (hk : k < 32) : xshr (s : Int) (k : Int) = ((s / 2 ^ k : Nat) : Int) := by
  unfold xshr
  rw [ofI_nat s, pk_shrN (by omega) _ k (sh_ix hk), nI_toInt]
  exact Nat.lt_of_le_of_lt (Nat.div_le_self _ _) (by omega)
theorem xand_1 {s : Nat} (hs : s < 2147483648) : xand (s : Int) 1 = ((s % 2 : Nat) : Int) := by
  unfold xand
  rw [ofI_nat s, pk_andN (by omega) 1 (by decide), nI_toInt (by omega)]
theorem bit_eq {s p : Int} (h0 : 0 ≤ s) (h1 : s < 2147483648) (h2 : 0 ≤ p) (h3 : p < 32) : xand (xshr s p) 1 = bt s p := by
  obtain ⟨a, rfl⟩ := Int.eq_ofNat_of_zero_le h0
  obtain ⟨b, rfl⟩ := Int.eq_ofNat_of_zero_le h2
  show xand (xshr ((a : Nat) : Int) ((b : Nat) : Int)) 1 = _
  rw [xshr_nat (by omega) (by omega), xand_1 (Nat.lt_of_le_of_lt (Nat.div_le_self _ _) (by omega))]
  unfold bt
  simp
theorem xshl_1 {p : Int} (h2 : 0 ≤ p) (h3 : p < 31) : xshl 1 p = 2 ^ p.toNat := by
  obtain ⟨b, rfl⟩ := Int.eq_ofNat_of_zero_le h2
  have h4 : b < 31 := by omega
  show xshl 1 ((b : Nat) : Int) = _
  have e : (2 : Int) ^ ((b : Int)).toNat = 2 ^ b := by simp
  show _ = (2 : Int) ^ ((b : Int)).toNat
  rw [e]
  clear h2 h3 e
  revert b
  decide
