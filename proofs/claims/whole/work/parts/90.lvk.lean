/-! leave, the class -/
def gy (s : Nat) : Nat := s ^^^ (s >>> 1)
def gi (x : Nat) : Nat := x ^^^ (x >>> 1) ^^^ (x >>> 2) ^^^ (x >>> 3) ^^^ (x >>> 4) ^^^ (x >>> 5) ^^^ (x >>> 6) ^^^ (x >>> 7) ^^^ (x >>> 8) ^^^ (x >>> 9)
def ozN (s : Nat) : Nat := (xmin (fJ6_numberOfTrailingZeros_0f7a4 (s : Int)) 9).toNat
set_option maxRecDepth 100000 in
theorem gy_step : ∀ s : Nat, s < 1023 → (xmin (fJ6_numberOfTrailingZeros_0f7a4 ((s + 1 : Nat) : Int)) 9 = ((ozN (s + 1) : Nat) : Int) ∧ ozN (s + 1) < 10) ∧ xxor (gy s : Int) (xshl 1 (ozN (s + 1) : Int)) = (gy (s + 1) : Int) ∧ gy (s + 1) < 1024 := by decide +kernel
set_option maxRecDepth 100000 in
theorem gy_bits : ∀ s : Nat, s < 1023 → ∀ p : Nat, p < 10 → bt (gy (s + 1) : Int) (p : Int) = if p = ozN (s + 1) then 1 - bt (gy s : Int) (p : Int) else bt (gy s : Int) (p : Int) := by decide +kernel
set_option maxRecDepth 100000 in
theorem gy_lt : ∀ k : Nat, k < 11 → ∀ s : Nat, s < 2 ^ k → 1 ≤ s → ozN s < k ∧ gy s < 2 ^ k ∧ 1 ≤ gy s := by decide +kernel
set_option maxRecDepth 100000 in
theorem gi_e : ∀ k : Nat, k < 11 → ∀ x : Nat, x < 2 ^ k → 1 ≤ x → gy (gi x) = x ∧ 1 ≤ gi x ∧ gi x < 2 ^ k := by decide +kernel
theorem gix_6 {m d r t : Int} (hm : 1 ≤ m ∧ m ≤ 6) (hd : 0 ≤ d ∧ d < m) (hr : -m ≤ r ∧ r ≤ m) : 0 ≤ gix m d r t ∧ gix m d r t < m * (2 * m + 1) * 2 ∧ gix m d r t < 156 := by
  unfold gix
  have c : m = 1 ∨ m = 2 ∨ m = 3 ∨ m = 4 ∨ m = 5 ∨ m = 6 := by omega
  rcases c with e | e | e | e | e | e <;> subst e <;> split <;> omega
theorem gix_to {m d r t : Int} : gix m d r t = gix m d r (sTo1 t) := by
  unfold gix sTo1
  by_cases h : t = 0
  · rw [if_pos h, if_pos rfl]
  · rw [if_neg h, if_neg (by decide)]
section LK
variable {W : Int → Int} {m : Int} {bj : Nat → Int}
theorem sTo1_rng (t : Int) : 0 ≤ sTo1 t ∧ sTo1 t ≤ 1 ∧ (t = 0 ∨ sTo1 t = 1) := by
  unfold sTo1
  split
  · rename_i h; exact ⟨by omega, by omega, Or.inl h⟩
  · exact ⟨by omega, by omega, Or.inr rfl⟩
theorem sh_rd {α : Type} {p d : Nat} {M : xM} {F : Int → Option α} (h5 : W 5 ≤ 10) (hm : 1 ≤ m ∧ m ≤ 6) (hb : ∀ j, -1 ≤ bj j ∧ bj j ≤ 1) (hp : (p : Int) < W 5) (hd : (d : Int) < m) (h50 : M 50 1 = m) (ho : oOk W m M (W 5)) : xrd M (53 + (wr (p : Int)).toNat) 156 (fX3_cellOf M d (rdn bj d + bj d) (bj d)) F = F (sWorth W p (W 2 + (d : Int)) ((W 1 + rdn bj (d + 1)) % W 0) (bj d)) := by
  have b := hb d
  have r := rdn_rng hb d
  have er : rdn bj d + bj d = rdn bj (d + 1) := rfl
  have ep : (wr (p : Int)).toNat = p := by rw [wr_id (by omega) (by omega)]; rfl
  have t1 := sTo1_rng (bj d)
  have r2 : -(d : Int) - sTo1 (bj d) ≤ rdn bj d + bj d ∧ rdn bj d + bj d ≤ d + sTo1 (bj d) := by
    generalize sTo1 (bj d) = t at t1 ⊢
    generalize rdn bj d = x at r ⊢
    generalize bj d = y at *
    clear er ep ho
    omega
  have gx := gix_6 (m := m) (d := d) (r := rdn bj d + bj d) (t := bj d) hm ⟨by omega, hd⟩ (by omega)
  rw [ep, cellOf_e h50 b, xrd_at gx.1 gx.2.2 (by decide), gix_to]
  rw [er] at r2 ⊢
  rw [ho p d (sTo1 (bj d)) (rdn bj (d + 1)) hp (by omega) hd t1.1 t1.2.1 r2.1 r2.2, ← sWorth_t]
theorem sh27_q {p : Nat} (g : gW W) (hm : 1 ≤ m ∧ m ≤ 6) (hb : ∀ j, -1 ≤ bj j ∧ bj j ≤ 1) (hp : (p : Int) < W 5) (k : Nat) : ∀ (n d : Nat) (M : xM), (d : Int) + k = m → M 50 1 = m → oOk W m M (W 5) → (∀ j : Nat, (j : Int) < m → M 64 j = bj j) → M 74 p = sShr W bj p d → k < n → yk (fX3_shareOut_L27 n M p (rdn bj d) d) fun M' => (∀ o, o ≠ 74 → M' o = M o) ∧ (∀ j, j ≠ (p : Int) → M' 74 j = M 74 j) ∧ M' 74 p = sShr W bj p m.toNat := by
  have gb := g.1
  unfold gB at gb
  induction k with
  | zero =>
    intro n d M hd h50 ho h64 h74 hn
    obtain ⟨n, rfl⟩ : ∃ x, n = x + 1 := ⟨n - 1, by omega⟩
    have e : d = m.toNat := by omega
    unfold fX3_shareOut_L27
    rw [h50, if_neg (by rw [wr_id (by omega) (by omega), wr_id (by omega) (by omega)]; omega), yk_some]
    exact ⟨fun _ _ => rfl, fun _ _ => rfl, by rw [h74, e]⟩
  | succ k ih =>
    intro n d M hd h50 ho h64 h74 hn
    obtain ⟨n, rfl⟩ : ∃ x, n = x + 1 := ⟨n - 1, by omega⟩
    have b := hb d
    have r := rdn_rng hb d
    have er : rdn bj d + bj d = rdn bj (d + 1) := rfl
    unfold fX3_shareOut_L27
    rw [h50, if_pos (by rw [wr_id (by omega) (by omega), wr_id (by omega) (by omega)]; omega), xrd_at (by omega) (by omega) (by omega), h64 d (by omega), xrd_at (by omega) (by omega) (by omega), h74, xix_at (by omega) (by omega) (by omega), xrd_at (by omega) (by omega) (by omega), h64 d (by omega), sh_rd (by omega) hm hb hp (by omega) h50 ho, xwt_at (by omega) (by omega) (by omega), er]
    have ed : (d : Int) + 1 = ((d + 1 : Nat) : Int) := by omega
    rw [ed]
    refine yk.mono (ih n (d + 1) (xup M 74 p (sShr W bj p d + sWorth W p (W 2 + (d : Int)) ((W 1 + rdn bj (d + 1)) % W 0) (bj d))) (by omega) (by rw [xup_o (by omega)]; exact h50) (fun q d t r a b c e f g' h' => by rw [xup_o (by omega)]; exact ho q d t r a b c e f g' h') (fun j hj => by rw [xup_o (by omega)]; exact h64 j hj) (by rw [xup_e rfl]; rfl) (by omega)) ?_
    intro M' z
    exact ⟨fun o a => by rw [z.1 o a, xup_o a], fun j hj => by rw [z.2.1 j hj, xup_n hj], z.2.2⟩
theorem sh2_q (g : gW W) (hm : 1 ≤ m ∧ m ≤ 6) (hb : ∀ j, -1 ≤ bj j ∧ bj j ≤ 1) (k : Nat) : ∀ (n p : Nat) (M : xM), (p : Int) + k = W 5 → M 5 0 = W 5 → rPlot M W → M 50 1 = m → oOk W m M (W 5) → (∀ j : Nat, (j : Int) < m → M 64 j = bj j) → (∀ q : Nat, q < p → M 74 q = sShr W bj q m.toNat) → k < n → yk (fX3_shareOut_L2 n M p) fun M' => (∀ o, o ≠ 74 → M' o = M o) ∧ ∀ q : Nat, (q : Int) < W 5 → M' 74 q = sShr W bj q m.toNat := by
  have gb := g.1
  unfold gB at gb
  induction k with
  | zero =>
    intro n p M hp h5 iP h50 ho h64 h74 hn
    obtain ⟨n, rfl⟩ : ∃ x, n = x + 1 := ⟨n - 1, by omega⟩
    unfold fX3_shareOut_L2
    rw [h5, if_neg (by rw [wr_id (by omega) (by omega), wr_id (by omega) (by omega)]; omega), yk_some]
    exact ⟨fun _ _ => rfl, fun q hq => h74 q (by omega)⟩
  | succ k ih =>
    intro n p M hp h5 iP h50 ho h64 h74 hn
    obtain ⟨n, rfl⟩ : ∃ x, n = x + 1 := ⟨n - 1, by omega⟩
    have c := (iP p (by omega) (by omega)).2.2.2.2
    unfold fX3_shareOut_L2
    rw [h5, if_pos (by rw [wr_id (by omega) (by omega), wr_id (by omega) (by omega)]; omega), xrd_at (by omega) (by omega) (by omega), c, xwt_at (by omega) (by omega) (by omega), yk_xb]
    refine yk.mono (sh27_q (W := W) (bj := bj) (p := p) g hm hb (by omega) m.toNat xfuel 0 (xup M 74 p (W (60 + (p : Int)))) (by omega) (by rw [xup_o (by omega)]; exact h50) (fun q d t r a b c e f g' h' => by rw [xup_o (by omega)]; exact ho q d t r a b c e f g' h') (fun j hj => by rw [xup_o (by omega)]; exact h64 j hj) (by rw [xup_e rfl]; rfl) (by unfold xfuel; omega)) ?_
    intro M' z
    have ep : (p : Int) + 1 = ((p + 1 : Nat) : Int) := by omega
    rw [ep]
    have f : ∀ o, o ≠ 74 → M' o = M o := fun o a => by rw [z.1 o a, xup_o a]
    refine yk.mono (ih n (p + 1) M' (by omega) (by rw [f 5 (by omega)]; exact h5) (rPlot_fr iP g.1 ⟨f _ (by omega), f _ (by omega), f _ (by omega), f _ (by omega), f _ (by omega)⟩ rfl (fun _ _ _ => rfl)) (by rw [f 50 (by omega)]; exact h50) (fun q d t r a b c e f' g' h' => by rw [f (53 + q) (by omega)]; exact ho q d t r a b c e f' g' h') (fun j hj => by rw [f 64 (by omega)]; exact h64 j hj) ?_ (by omega)) ?_
    · intro q hq
      by_cases e : q = p
      · rw [e]; exact z.2.2
      · rw [z.2.1 q (by omega), xup_n (by omega)]
        exact h74 q (by omega)
    · intro M2 y
      exact ⟨fun o a => by rw [y.1 o a, f o a], y.2⟩
theorem ad32_q {o : Nat} {sg U : Int} (ho : 53 ≤ o ∧ o ≤ 62) (hU : 0 ≤ U ∧ U ≤ 156) (n : Nat) : ∀ (M : xM) (i : Int), 0 ≤ i → i ≤ U → U - i < n → yk (fX3_addOwn_L32 n M sg o U i) fun M' => (∀ x, x ≠ 51 → M' x = M x) ∧ ∀ j, M' 51 j = if i ≤ j ∧ j < U then M 51 j + sg * M o j else M 51 j := by
  induction n with
  | zero => intro M i _ _ h; omega
  | succ n ih =>
    intro M i i0 i1 hn
    unfold fX3_addOwn_L32
    rw [wr_id (x := i) (by omega) (by omega), wr_id (x := U) (by omega) (by omega)]
    by_cases h : i < U
    · rw [if_pos h, xrd_at i0 (by omega) (by omega), xrd_at i0 (by omega) (by omega), xwt_at i0 (by omega) (by omega)]
      refine yk.mono (ih _ (i + 1) (by omega) (by omega) (by omega)) ?_
      intro M' q
      refine ⟨fun x hx => by rw [q.1 x hx, xup_o hx], fun j => ?_⟩
      rw [q.2 j, xup_s, xup_o (a := o) (by omega)]
      by_cases e : j = i
      · rw [if_neg (by omega), if_pos e, if_pos (by omega), e]
      · rw [if_neg e]
        by_cases c : i ≤ j ∧ j < U
        · rw [if_pos (by omega), if_pos c]
        · rw [if_neg (by omega), if_neg c]
    · rw [if_neg h, yk_some]
      refine ⟨fun _ _ => rfl, fun j => ?_⟩
      rw [if_neg (by omega)]
theorem addOwn_e {M : xM} {p : Nat} {sg : Int} (hm : 1 ≤ m ∧ m ≤ 6) (h50 : M 50 1 = m) (hp : p < 10) : yk (fX3_addOwn M p sg) fun M' => (∀ x, x ≠ 51 → M' x = M x) ∧ ∀ j, 0 ≤ j → j < m * (2 * m + 1) * 2 → M' 51 j = M 51 j + sg * M (53 + p) j := by
  have u : 0 ≤ m * (2 * m + 1) * 2 ∧ m * (2 * m + 1) * 2 ≤ 156 := by
    have c : m = 1 ∨ m = 2 ∨ m = 3 ∨ m = 4 ∨ m = 5 ∨ m = 6 := by omega
    rcases c with e | e | e | e | e | e <;> subst e <;> omega
  have ep : 53 + (wr (p : Int)).toNat = 53 + p := by rw [wr_id (by omega) (by omega)]; omega
  have eu : xmin 156 (m * (2 * m + 1) * 2) = m * (2 * m + 1) * 2 := by
    unfold xmin
    generalize m * (2 * m + 1) * 2 = U at u
    rw [wr_id (x := U) (by omega) (by omega), wr_id (x := 156) (by omega) (by omega)]
    split <;> omega
  unfold fX3_addOwn
  rw [xix_at (by omega) (by omega) (by omega), h50, ep, eu, yk_xb]
  generalize m * (2 * m + 1) * 2 = U at u
  refine yk.mono (ad32_q (o := 53 + p) (sg := sg) (by omega) u xfuel M 0 (by omega) (by omega) (by unfold xfuel; omega)) ?_
  intro M' q
  rw [yk_some]
  refine ⟨q.1, fun j j0 j1 => ?_⟩
  rw [q.2 j, if_pos ⟨j0, j1⟩]
theorem ahead_e {s X : Int} (hs : 0 ≤ s ∧ s < 1024) (hX : X = -1 ∨ (0 ≤ X ∧ X < 1024)) : fX3_isAhead s X = decide (X = -1 ∨ cnt s 24 < cnt X 24 ∨ (cnt s 24 = cnt X 24 ∧ s < X)) := by
  unfold fX3_isAhead
  by_cases c : X = -1
  · rw [if_pos (by rw [c]), decide_eq_true (Or.inl c)]
  · have a := cnt_rng s 24
    have b := cnt_rng X 24
    rw [if_neg (by rw [wr_id (by omega) (by omega), wr_id (by omega) (by omega)]; exact c), bitc_e hs, bitc_e (by omega), wr_id (x := cnt s 24 - cnt X 24) (by omega) (by omega), wr_id (x := s) (by omega) (by omega), wr_id (x := X) (by omega) (by omega)]
    symm
    repeat' split
    all_goals first | (rw [decide_eq_true (by omega)]; done) | (rw [decide_eq_false (by omega)]; done)
theorem sCt_flip {u : Nat} (hu : u < 1023) (gb : gB W) {d an t : Int} (ho : ((ozN (u + 1) : Nat) : Int) < W 5) : sCt W (gy (u + 1)) d an t = sCt W (gy u) d an t + (1 - 2 * bt (gy u : Int) (ozN (u + 1) : Int)) * sWorth W (ozN (u + 1) : Int) (W 2 + d) an t := by
  have h5 := gb.2.1
  unfold sCt
  rw [sTw_bs, sTw_bs, sBs_flip (f := fun p => sWorth W p (W 2 + d) an t) (s := (gy u : Int)) (o := ozN (u + 1)) (W 5).toNat (fun p hp => gy_bits u hu p (by omega)), if_pos (by omega)]
end LK
