/-! fair: all rows of turns, tried -/
def sLow (s : Nat → Int) : Nat → Int
  | 0 => 0
  | n + 1 => if n = 0 then s 0 else min (sLow s n) (s n)
def sSm (s : Nat → Int) : Nat → Int
  | 0 => 0
  | n + 1 => sSm s n + s n
theorem sLow_rng {s : Nat → Int} {B : Int} (h : ∀ p, -B ≤ s p ∧ s p ≤ B) (n : Nat) : -B ≤ sLow s n ∧ sLow s n ≤ B := by
  have h0 := h 0
  induction n with
  | zero => show -B ≤ (0 : Int) ∧ (0 : Int) ≤ B; omega
  | succ n ih =>
    have := h n
    unfold sLow
    split <;> omega
theorem sSm_rng {s : Nat → Int} {B : Int} (h : ∀ p, -B ≤ s p ∧ s p ≤ B) (n : Nat) : -B * (n : Int) ≤ sSm s n ∧ sSm s n ≤ B * (n : Int) := by
  induction n with
  | zero => simp [sSm]
  | succ n ih =>
    have := h n
    have e : sSm s (n + 1) = sSm s n + s n := rfl
    have e1 : ((n + 1 : Nat) : Int) = (n : Int) + 1 := by omega
    rw [e, e1, Int.mul_add, Int.mul_add, Int.mul_one, Int.mul_one]
    omega
abbrev fR : Type := Bool × Int × Int × List Int
def fLeaf (low sum : Int) (path : List Int) (R : fR) : fR := if R.1 = false ∨ R.2.1 < low ∨ (low = R.2.1 ∧ R.2.2.1 < sum) then (true, low, sum, path) else R
def fSt (W : Int → Int) (i an : Int) (s : Nat → Int) (t : Int) : Nat → Int := fun p => s p + sWorth W p (W 2 + i) ((an + t) % W 0) (sTo1 t)
def sFa (W : Int → Int) (m : Int) : Nat → (Nat → Int) → Int → List Int → fR → fR
  | 0, s, _, path, R => fLeaf (sLow s (W 5).toNat) (sSm s (W 5).toNat) path R
  | r + 1, s, an, path, R => sFa W m r (fSt W (m - (r + 1)) an s (-1)) ((an + -1) % W 0) (path ++ [-1]) (sFa W m r (fSt W (m - (r + 1)) an s 1) ((an + 1) % W 0) (path ++ [1]) (sFa W m r (fSt W (m - (r + 1)) an s 0) ((an + 0) % W 0) (path ++ [0]) R))
theorem fSt_rng {W : Int → Int} {i an t B : Int} {s : Nat → Int} (h : ∀ p, -B ≤ s p ∧ s p ≤ B) : ∀ p, -(B + 9999) ≤ fSt W i an s t p ∧ fSt W i an s t p ≤ B + 9999 := by
  intro p
  have a := h p
  have b := sWorth_rng W p (W 2 + i) ((an + t) % W 0) (sTo1 t)
  unfold fSt
  omega
/-- a result is such as it must be -/
def fOk (m : Int) (R : fR) : Prop := (-100000 ≤ R.2.1 ∧ R.2.1 ≤ 100000) ∧ (-1000000 ≤ R.2.2.1 ∧ R.2.2.1 ≤ 1000000)
theorem fLeaf_ok {m low sum : Int} {path : List Int} {R : fR} (h : fOk m R) (hl : -100000 ≤ low ∧ low ≤ 100000) (hs : -1000000 ≤ sum ∧ sum ≤ 1000000) : fOk m (fLeaf low sum path R) := by
  unfold fLeaf
  split
  · exact ⟨hl, hs⟩
  · exact h
theorem own1 {W : Int → Int} {i an t : Int} {p : Nat} (hp : p < 31) (n : Nat) : sTw W (2 ^ p) i an t n = if p < n then sWorth W p (W 2 + i) an t else 0 := by
  have b : ∀ k : Nat, bt (2 ^ p) k = if k = p then 1 else 0 := by
    intro k
    have e : ((2 : Int) ^ p) = (((2 ^ p : Nat)) : Int) := by simp
    rw [e, bt_nat, Nat.testBit_two_pow]
    by_cases h : p = k
    · subst h; simp
    · have h2 : ¬ k = p := fun q => h q.symm
      simp [h, h2]
  induction n with
  | zero => rw [if_neg (by omega)]; rfl
  | succ n ih =>
    show sTw W (2 ^ p) i an t n + (if bt (2 ^ p) n = 1 then _ else 0) = _
    rw [ih, b n]
    by_cases h : n = p
    · subst h
      rw [if_neg (by omega), if_pos (by rw [if_pos rfl]), if_pos (by omega)]
      omega
    · rw [if_neg h, if_neg (show ¬ (0 : Int) = 1 by omega)]
      by_cases h2 : p < n
      · rw [if_pos h2, if_pos (by omega)]
        omega
      · rw [if_neg h2, if_neg (by omega)]
        omega
section GE
variable {W : Int → Int} {M0 : xM} {m : Int}
/-- each owner's cells stand -/
def oOk (W : Int → Int) (m : Int) (M : xM) (v : Int) : Prop := ∀ (p : Nat) d t r, (p : Int) < v → 0 ≤ d → d < m → 0 ≤ t → t ≤ 1 → -d - t ≤ r → r ≤ d + t → M (53 + p) (gix m d r t) = sWorth W p (W 2 + d) ((W 1 + r) % W 0) t
theorem each_q (i : rI M0 W) (g : gW W) (hm : 1 ≤ m ∧ m ≤ 6) (n : Nat) : ∀ (M : xM) (v c : Int), isl M0 M → M 50 1 = m → rMemo c M W → 0 ≤ v → v ≤ W 5 → W 5 - v < n → c < 1600000000 - 12000 * (W 5 - v) → oOk W m M v → yk (fX3_gatherEach_L2 n M v) fun M' => (∀ o, (o < 43 ∨ 49 < o) → (o < 53 ∨ 62 < o) → M' o = M o) ∧ oOk W m M' (W 5) ∧ rMemo (c + 12000 * (W 5 - v)) M' W := by
  have gb := g.1
  have iB := i.1
  unfold gB at gb
  unfold rB at iB
  induction n with
  | zero => intro M v c hM e50 me h0 h1 h2; omega
  | succ n ih =>
    intro M v c hM e50 me h0 h1 h2 hc ho
    unfold fX3_gatherEach_L2
    by_cases h : v < W 5
    · obtain ⟨p, rfl⟩ := Int.eq_ofNat_of_zero_le h0
      have hp : p < 10 := by omega
      rw [if_pos (by rw [hM 5 (by omega) (by omega) (by omega) (by omega), iB.2.1, wr_id (by omega) (by omega), wr_id (by omega) (by omega)]; exact h), xix_at (by omega) (by omega) (by omega), wr_id (by omega) (by omega)]
      have e1 : ((p : Int)).toNat = p := by omega
      have e2 : xshl 1 ((p : Nat) : Int) = 2 ^ p := by rw [xshl_1 (by omega) (by omega), e1]
      have e3 : (2 : Int) ^ p = ((2 ^ p : Nat) : Int) := by simp
      have hp2 : 2 ^ p < 2 ^ 10 := pow_lt hp
      have hb2 : (0 : Int) ≤ 2 ^ p ∧ (2 : Int) ^ p < 2147483648 := by
        rw [e3]
        generalize (2 ^ p : Nat) = X at hp2
        omega
      show yk (xb (fX3_gather_i2 M (xshl 1 ((p : Nat) : Int)) (53 + ((p : Int)).toNat)) _) _
      rw [e1, e2]
      unfold fX3_gather_i2
      rw [yk_xb, yk_xb]
      refine yk.mono (gat4_b (set := 2 ^ p) (o3 := 53 + p) i g hb2 hm (by omega) xfuel M 0 c hM e50 me (by omega) (by omega) (by unfold xfuel; omega) (by omega) (fun d t r d0 d1 => by omega)) ?_
      intro M1 q1
      rw [yk_some]
      refine yk.mono (ih M1 ((p : Int) + 1) (c + 12000) (fun o h1 h2 h3 h4 => by rw [q1.1 o (by omega) (by omega), hM o h1 h2 h3 h4]) (by rw [q1.1 50 (by omega) (by omega)]; exact e50) (rMemo_le q1.2.2 (by omega)) (by omega) (by omega) (by omega) (by omega) ?_) ?_
      · intro k d t r k0 d0 d1 t0 t1 r0 r1
        by_cases e : k = p
        · subst e
          rw [q1.2.1 d t r d0 d1 t0 t1 r0 r1, own1 (by omega), if_pos (by omega)]
        · rw [q1.1 (53 + k) (by omega) (by omega)]
          exact ho k d t r (by omega) d0 d1 t0 t1 r0 r1
      · intro M2 q2
        exact ⟨fun o h1 h2 => by rw [q2.1 o h1 h2, q1.1 o h1 (by omega)], q2.2.1, rMemo_le q2.2.2 (by omega)⟩
    · rw [if_neg (by rw [hM 5 (by omega) (by omega) (by omega) (by omega), iB.2.1, wr_id (by omega) (by omega), wr_id (by omega) (by omega)]; exact h)]
      have e : v = W 5 := by omega
      subst e
      exact ⟨_, rfl, fun _ _ _ => rfl, ho, rMemo_le me (by omega)⟩
end GE
/-! the class tries -/
section KT
variable {W : Int → Int} {m : Int}
def kRel (m : Int) (R : fR) (M : xM) : Prop := M 50 11 = b2i R.1 ∧ (R.1 = true → M 50 9 = R.2.1 ∧ M 50 10 = R.2.2.1 ∧ ∀ j : Nat, (j : Int) < m → M 64 j = R.2.2.2.getD j 0)
theorem low_q {M : xM} {o : Nat} {s : Nat → Int} {k : Nat} (hk : k ≤ 10) (hs : ∀ p, -100000 ≤ s p ∧ s p ≤ 100000) (hr : ∀ p : Nat, p < k → M o p = s p) (q : Nat) : ∀ (n p : Nat), p + q = k → q < n → 0 < k → fX3_weighTried_L28 n M k o (if p = 0 then s 0 else sLow s p) (sSm s p) p = some (sLow s k, sSm s k) := by
  induction q with
  | zero =>
    intro n p h1 h2 h3
    obtain ⟨n', rfl⟩ : ∃ n', n = n' + 1 := ⟨n - 1, by omega⟩
    have e : p = k := by omega
    subst e
    unfold fX3_weighTried_L28
    rw [if_neg (by omega), if_neg (by omega)]
  | succ q ih =>
    intro n p h1 h2 h3
    obtain ⟨n', rfl⟩ : ∃ n', n = n' + 1 := ⟨n - 1, by omega⟩
    have sp := hs p
    have s0 := hs 0
    have lr := sLow_rng (B := 100000) hs p
    have e1 : sSm s (p + 1) = sSm s p + s p := rfl
    have e2 : (if p + 1 = 0 then s 0 else sLow s (p + 1)) = sLow s (p + 1) := if_neg (by omega)
    have e3 : (p : Int) + 1 = ((p + 1 : Nat) : Int) := by omega
    unfold fX3_weighTried_L28
    rw [if_pos (by rw [wr_id (by omega) (by omega), wr_id (by omega) (by omega)]; omega), xrd_at (by omega) (by omega) (by omega), xrd_at (by omega) (by omega) (by omega), hr p (by omega), e3]
    have e4 : xmin (if p = 0 then s 0 else sLow s p) (s p) = sLow s (p + 1) := by
      have e9 : sLow s (p + 1) = if p = 0 then s 0 else min (sLow s p) (s p) := rfl
      unfold xmin
      rw [e9]
      by_cases hp : p = 0
      · subst hp
        rw [if_pos rfl, if_pos rfl]
        split <;> rfl
      · rw [if_neg hp, if_neg hp, wr_id (by omega) (by omega), wr_id (by omega) (by omega)]
        split <;> omega
    have := ih n' (p + 1) (by omega) (by omega) h3
    rw [e2, e1] at this
    rw [e4]
    exact this
theorem weigh_e {M : xM} {s : Nat → Int} {k : Nat} {path : List Int} {R : fR} (hk : k ≤ 10) (hm : 1 ≤ m ∧ m ≤ 6) (e50 : M 50 1 = m) (hs : ∀ p, -100000 ≤ s p ∧ s p ≤ 100000) (hr : ∀ p : Nat, p < k → M (67 + m.toNat) p = s p) (hp : ∀ j : Nat, (j : Int) < m → M 65 j = path.getD j 0) (hR : kRel m R M) (ok : fOk m R) : yk (fX3_weighTried M k) fun M' => (∀ o, o ≠ 50 → o ≠ 64 → M' o = M o) ∧ (∀ j, j < 9 → M' 50 j = M 50 j) ∧ kRel m (fLeaf (sLow s k) (sSm s k) path R) M' := by
  have e1 : (wr (M 50 1)).toNat = m.toNat := by rw [e50, wr_id (by omega) (by omega)]
  have lr := sLow_rng (B := 100000) hs k
  have sr := sSm_rng (B := 100000) hs k
  obtain ⟨r1, r2⟩ := hR
  obtain ⟨ok1, ok2⟩ := ok
  have l28 : fX3_weighTried_L28 xfuel M k (67 + m.toNat) (if 0 < k then s 0 else 0) 0 0 = some (sLow s k, sSm s k) := by
    by_cases h0 : 0 < k
    · have := low_q (M := M) (o := 67 + m.toNat) hk hs hr k xfuel 0 (by omega) (by unfold xfuel; omega) h0
      rw [if_pos rfl] at this
      rw [if_pos h0]
      exact this
    · have e : k = 0 := by omega
      subst e
      have hx : ∃ y, xfuel = y + 1 := ⟨999999, by unfold xfuel; omega⟩
      obtain ⟨y, hy⟩ := hx
      rw [if_neg (by omega), hy]
      unfold fX3_weighTried_L28
      rw [if_neg (by decide)]
      rfl
  have body : yk (xb2 (fX3_weighTried_L28 xfuel M k (67 + m.toNat) (if 0 < k then s 0 else 0) 0 0) fun y6 y7 => xj (fun (_ : Unit) => xlet (xup M 50 11 1) fun M10 => xlet (xup M10 50 9 y6) fun M11 => xlet (xup M11 50 10 y7) fun M12 => xcp M12 65 6 0 64 30 0 (M12 50 1) fun M13 => some M13) fun j9 => (if wr (M 50 11) = 0 then j9 () else (if wr (M 50 9) < wr y6 then j9 () else (if wr y6 = wr (M 50 9) then (if wr (M 50 10) < wr y7 then j9 () else some M) else some M)))) fun M' => (∀ o, o ≠ 50 → o ≠ 64 → M' o = M o) ∧ (∀ j, j < 9 → M' 50 j = M 50 j) ∧ kRel m (fLeaf (sLow s k) (sSm s k) path R) M' := by
    rw [l28, yk_xb2, yk_some, yk_xj]
    dsimp only
    generalize sLow s k = lo at *
    generalize sSm s k = su at *
    have e5 : xup (xup (xup M 50 11 1) 50 9 lo) 50 10 su 50 1 = m := by rw [xup_n (by omega), xup_n (by omega), xup_n (by omega)]; exact e50
    have take : (R.1 = false ∨ R.2.1 < lo ∨ (lo = R.2.1 ∧ R.2.2.1 < su)) → yk (xlet (xup M 50 11 1) fun M10 => xlet (xup M10 50 9 lo) fun M11 => xlet (xup M11 50 10 su) fun M12 => xcp M12 65 6 0 64 30 0 (M12 50 1) fun M13 => some M13) fun M' => (∀ o, o ≠ 50 → o ≠ 64 → M' o = M o) ∧ (∀ j, j < 9 → M' 50 j = M 50 j) ∧ kRel m (fLeaf lo su path R) M' := by
      intro hc
      rw [yk_xlet, yk_xlet, yk_xlet, e5, xcp_0 (by omega) (by omega) (by omega) (by omega) (by omega), yk_some]
      refine ⟨?_, ?_, ?_⟩
      · intro o o1 o2
        rw [xcq_o o2, xup_o o1, xup_o o1, xup_o o1]
      · intro j hj
        rw [xcq_o (by omega), xup_n (by omega), xup_n (by omega), xup_n (by omega)]
      · unfold fLeaf
        rw [if_pos hc]
        refine ⟨?_, fun _ => ⟨?_, ?_, ?_⟩⟩
        · rw [xcq_o (by omega), xup_n (by omega), xup_n (by omega), xup_e rfl]
          rfl
        · rw [xcq_o (by omega), xup_n (by omega), xup_e rfl]
        · rw [xcq_o (by omega), xup_e rfl]
        · intro j hj
          rw [xcq_e (by omega) hj, xup_o (by omega), xup_o (by omega), xup_o (by omega)]
          exact hp j hj
    have leave : ¬ (R.1 = false ∨ R.2.1 < lo ∨ (lo = R.2.1 ∧ R.2.2.1 < su)) → yk (some M) fun M' => (∀ o, o ≠ 50 → o ≠ 64 → M' o = M o) ∧ (∀ j, j < 9 → M' 50 j = M 50 j) ∧ kRel m (fLeaf lo su path R) M' := by
      intro hc
      rw [yk_some]
      unfold fLeaf
      rw [if_neg hc]
      exact ⟨fun _ _ _ => rfl, fun _ _ => rfl, r1, r2⟩
    rw [r1]
    cases hb : R.1 with
    | false =>
      rw [if_pos (by decide)]
      exact take (Or.inl hb)
    | true =>
      rw [if_neg (by decide)]
      have q := r2 hb
      rw [q.1, q.2.1, wr_id (x := R.2.1) (by omega) (by omega), wr_id (x := lo) (by omega) (by omega), wr_id (x := R.2.2.1) (by omega) (by omega), wr_id (x := su) (by omega) (by omega)]
      by_cases c1 : R.2.1 < lo
      · rw [if_pos c1]
        exact take (Or.inr (Or.inl c1))
      · rw [if_neg c1]
        by_cases c2 : lo = R.2.1
        · rw [if_pos c2]
          by_cases c3 : R.2.2.1 < su
          · rw [if_pos c3]
            exact take (Or.inr (Or.inr ⟨c2, c3⟩))
          · rw [if_neg c3]
            refine leave ?_
            rintro (w | w | w)
            · rw [hb] at w; cases w
            · exact c1 w
            · exact c3 w.2
        · rw [if_neg c2]
          refine leave ?_
          rintro (w | w | w)
          · rw [hb] at w; cases w
          · exact c1 w
          · exact c2 w.1
  unfold fX3_weighTried
  rw [e1, xix_at (by omega) (by omega) (by omega), yk_xj]
  by_cases h0 : 0 < k
  · rw [if_pos (by rw [wr_id (by omega) (by omega)]; omega)]
    rw [if_pos h0] at body
    have e0 : M (67 + m.toNat) 0 = s 0 := hr 0 h0
    rw [e0]
    exact body
  · rw [if_neg (by rw [wr_id (by omega) (by omega)]; omega)]
    rw [if_neg h0] at body
    exact body
end KT
