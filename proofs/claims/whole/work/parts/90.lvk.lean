/-! leave, the class -/
def gy (s : Nat) : Nat := s ^^^ (s >>> 1)
def gi (x : Nat) : Nat := x ^^^ (x >>> 1) ^^^ (x >>> 2) ^^^ (x >>> 3) ^^^ (x >>> 4) ^^^ (x >>> 5) ^^^ (x >>> 6) ^^^ (x >>> 7) ^^^ (x >>> 8) ^^^ (x >>> 9)
def ozN (s : Nat) : Nat := (xmin (fJ6_numberOfTrailingZeros_0f7a4 (s : Int)) 9).toNat
set_option maxRecDepth 100000 in
theorem gy_step : ∀ s : Nat, s < 1023 → (xmin (fJ6_numberOfTrailingZeros_0f7a4 ((s + 1 : Nat) : Int)) 9 = ((ozN (s + 1) : Nat) : Int) ∧ ozN (s + 1) < 10) ∧ xxor (gy s : Int) (xshl 1 (ozN (s + 1) : Int)) = (gy (s + 1) : Int) ∧ gy (s + 1) < 1024 := by decide +kernel
set_option maxRecDepth 100000 in
theorem gy_bits : ∀ s : Nat, s < 1023 → ∀ p : Nat, p < 10 → bt (gy (s + 1) : Int) (p : Int) = if p = ozN (s + 1) then 1 - bt (gy s : Int) (p : Int) else bt (gy s : Int) (p : Int) := by decide +kernel
set_option maxRecDepth 100000 in
theorem gy_lt : ∀ k : Nat, k < 11 → ∀ s : Nat, s < 2 ^ k → 1 ≤ s → ozN s < k ∧ gy s < 2 ^ k ∧ 1 ≤ gy s := by decide +kernel
set_option maxRecDepth 100000 in
theorem gi_e : ∀ k : Nat, k < 11 → ∀ x : Nat, x < 2 ^ k → 1 ≤ x → gy (gi x) = x ∧ 1 ≤ gi x ∧ gi x < 2 ^ k := by decide +kernel
theorem gix_6 {m d r t : Int} (hm : 1 ≤ m ∧ m ≤ 6) (hd : 0 ≤ d ∧ d < m) (hr : -m ≤ r ∧ r ≤ m) : 0 ≤ gix m d r t ∧ gix m d r t < m * (2 * m + 1) * 2 ∧ gix m d r t < 156 := by
  unfold gix
  have c : m = 1 ∨ m = 2 ∨ m = 3 ∨ m = 4 ∨ m = 5 ∨ m = 6 := by omega
  rcases c with e | e | e | e | e | e <;> subst e <;> split <;> omega
theorem gix_to {m d r t : Int} : gix m d r t = gix m d r (sTo1 t) := by
  unfold gix sTo1
  by_cases h : t = 0
  · rw [if_pos h, if_pos h, if_pos rfl]
  · rw [if_neg h, if_neg h, if_neg (by omega)]
section LK
variable {W : Int → Int} {m : Int} {bj : Nat → Int}
theorem sh27_q {p : Nat} (g : gW W) (hm : 1 ≤ m ∧ m ≤ 6) (hb : ∀ j, -1 ≤ bj j ∧ bj j ≤ 1) (hp : (p : Int) < W 5) (k : Nat) : ∀ (n d : Nat) (M : xM), (d : Int) + k = m → M 50 1 = m → oOk W m M (W 5) → (∀ j : Nat, (j : Int) < m → M 64 j = bj j) → M 74 p = sShr W bj p d → k < n → yk (fX3_shareOut_L27 n M p (rdn bj d) d) fun M' => (∀ o, o ≠ 74 → M' o = M o) ∧ (∀ j, j ≠ (p : Int) → M' 74 j = M 74 j) ∧ M' 74 p = sShr W bj p m.toNat := by
  have gb := g.1
  unfold gB at gb
  induction k with
  | zero =>
    intro n d M hd h50 ho h64 h74 hn
    obtain ⟨n, rfl⟩ : ∃ x, n = x + 1 := ⟨n - 1, by omega⟩
    have e : d = m.toNat := by omega
    unfold fX3_shareOut_L27
    rw [h50, if_neg (by rw [wr_id (by omega) (by omega), wr_id (by omega) (by omega)]; omega), yk_some]
    exact ⟨fun _ _ => rfl, fun _ _ => rfl, by rw [h74, e]⟩
  | succ k ih =>
    intro n d M hd h50 ho h64 h74 hn
    obtain ⟨n, rfl⟩ : ∃ x, n = x + 1 := ⟨n - 1, by omega⟩
    have b := hb d
    have r := rdn_rng hb d
    have er : rdn bj d + bj d = rdn bj (d + 1) := rfl
    have ep : 53 + (wr (p : Int)).toNat = 53 + p := by rw [wr_id (by omega) (by omega)]; omega
    have t1 : 0 ≤ sTo1 (bj d) ∧ sTo1 (bj d) ≤ 1 ∧ (sTo1 (bj d) = 0 → bj d = 0) := by
      unfold sTo1
      split
      · rename_i h; exact ⟨by omega, by omega, fun _ => h⟩
      · exact ⟨by omega, by omega, fun w => by omega⟩
    have gx := gix_6 (m := m) (d := d) (r := rdn bj d + bj d) (t := bj d) hm (by omega) (by omega)
    have cell : M (53 + p) (gix m d (rdn bj d + bj d) (bj d)) = sWorth W p (W 2 + (d : Int)) ((W 1 + rdn bj (d + 1)) % W 0) (bj d) := by
      rw [gix_to, er, ho p d (sTo1 (bj d)) (rdn bj (d + 1)) hp (by omega) (by omega) t1.1 t1.2.1 (by omega) (by omega), ← sWorth_t]
    unfold fX3_shareOut_L27
    rw [h50, if_pos (by rw [wr_id (by omega) (by omega), wr_id (by omega) (by omega)]; omega), xrd_at (by omega) (by omega) (by omega), h64 d (by omega), xrd_at (by omega) (by omega) (by omega), h74, xix_at (by omega) (by omega) (by omega), xrd_at (by omega) (by omega) (by omega), h64 d (by omega), ep, cellOf_e h50 b, xrd_at gx.1 gx.2.2 (by omega), cell, xwt_at (by omega) (by omega) (by omega), er]
    have ed : (d : Int) + 1 = ((d + 1 : Nat) : Int) := by omega
    rw [ed]
    refine yk.mono (ih n (d + 1) (xup M 74 p (sShr W bj p d + sWorth W p (W 2 + (d : Int)) ((W 1 + rdn bj (d + 1)) % W 0) (bj d))) (by omega) (by rw [xup_o (by omega)]; exact h50) (fun q d t r a b c e f g' h' => by rw [xup_o (by omega)]; exact ho q d t r a b c e f g' h') (fun j hj => by rw [xup_o (by omega)]; exact h64 j hj) (by rw [xup_e rfl]; rfl) (by omega)) ?_
    intro M' z
    exact ⟨fun o a => by rw [z.1 o a, xup_o a], fun j hj => by rw [z.2.1 j hj, xup_n hj], z.2.2⟩
theorem sh2_q (g : gW W) (hm : 1 ≤ m ∧ m ≤ 6) (hb : ∀ j, -1 ≤ bj j ∧ bj j ≤ 1) (k : Nat) : ∀ (n p : Nat) (M : xM), (p : Int) + k = W 5 → M 5 0 = W 5 → rPlot M W → M 50 1 = m → oOk W m M (W 5) → (∀ j : Nat, (j : Int) < m → M 64 j = bj j) → (∀ q : Nat, q < p → M 74 q = sShr W bj q m.toNat) → k < n → yk (fX3_shareOut_L2 n M p) fun M' => (∀ o, o ≠ 74 → M' o = M o) ∧ ∀ q : Nat, (q : Int) < W 5 → M' 74 q = sShr W bj q m.toNat := by
  have gb := g.1
  unfold gB at gb
  induction k with
  | zero =>
    intro n p M hp h5 iP h50 ho h64 h74 hn
    obtain ⟨n, rfl⟩ : ∃ x, n = x + 1 := ⟨n - 1, by omega⟩
    unfold fX3_shareOut_L2
    rw [h5, if_neg (by rw [wr_id (by omega) (by omega), wr_id (by omega) (by omega)]; omega), yk_some]
    exact ⟨fun _ _ => rfl, fun q hq => h74 q (by omega)⟩
  | succ k ih =>
    intro n p M hp h5 iP h50 ho h64 h74 hn
    obtain ⟨n, rfl⟩ : ∃ x, n = x + 1 := ⟨n - 1, by omega⟩
    have c := (iP p (by omega) (by omega)).2.2.2.2
    unfold fX3_shareOut_L2
    rw [h5, if_pos (by rw [wr_id (by omega) (by omega), wr_id (by omega) (by omega)]; omega), xrd_at (by omega) (by omega) (by omega), c, xwt_at (by omega) (by omega) (by omega), yk_xb]
    refine yk.mono (sh27_q (W := W) (bj := bj) (p := p) g hm hb (by omega) m.toNat xfuel 0 (xup M 74 p (W (60 + (p : Int)))) (by omega) (by rw [xup_o (by omega)]; exact h50) (fun q d t r a b c e f g' h' => by rw [xup_o (by omega)]; exact ho q d t r a b c e f g' h') (fun j hj => by rw [xup_o (by omega)]; exact h64 j hj) (by rw [xup_e rfl]; rfl) (by unfold xfuel; omega)) ?_
    intro M' z
    have ep : (p : Int) + 1 = ((p + 1 : Nat) : Int) := by omega
    rw [ep]
    have f : ∀ o, o ≠ 74 → M' o = M o := fun o a => by rw [z.1 o a, xup_o a]
    refine yk.mono (ih n (p + 1) M' (by omega) (by rw [f 5 (by omega)]; exact h5) (rPlot_fr iP g.1 ⟨f _ (by omega), f _ (by omega), f _ (by omega), f _ (by omega), f _ (by omega)⟩ rfl (fun _ _ _ => rfl)) (by rw [f 50 (by omega)]; exact h50) (fun q d t r a b c e f' g' h' => by rw [f (53 + q) (by omega)]; exact ho q d t r a b c e f' g' h') (fun j hj => by rw [f 64 (by omega)]; exact h64 j hj) ?_ (by omega)) ?_
    · intro q hq
      by_cases e : q = p
      · rw [e]; exact z.2.2
      · rw [z.2.1 q (by omega), xup_n (by omega)]
        exact h74 q (by omega)
    · intro M2 y
      exact ⟨fun o a => by rw [y.1 o a, f o a], y.2⟩
theorem ad32_q {o : Nat} {sg U : Int} (ho : 53 ≤ o ∧ o ≤ 62) (hU : 0 ≤ U ∧ U ≤ 156) (n : Nat) : ∀ (M : xM) (i : Int), 0 ≤ i → i ≤ U → U - i < n → yk (fX3_addOwn_L32 n M sg o U i) fun M' => (∀ x, x ≠ 51 → M' x = M x) ∧ ∀ j, M' 51 j = if i ≤ j ∧ j < U then M 51 j + sg * M o j else M 51 j := by
  induction n with
  | zero => intro M i _ _ h; omega
  | succ n ih =>
    intro M i i0 i1 hn
    unfold fX3_addOwn_L32
    rw [wr_id (x := i) (by omega) (by omega), wr_id (x := U) (by omega) (by omega)]
    by_cases h : i < U
    · rw [if_pos h, xrd_at i0 (by omega) (by omega), xrd_at i0 (by omega) (by omega), xwt_at i0 (by omega) (by omega)]
      refine yk.mono (ih _ (i + 1) (by omega) (by omega) (by omega)) ?_
      intro M' q
      refine ⟨fun x hx => by rw [q.1 x hx, xup_o hx], fun j => ?_⟩
      rw [q.2 j, xup_s, xup_o (a := o) (by omega)]
      by_cases e : j = i
      · rw [if_neg (by omega), if_pos e, if_pos (by omega), e]
      · rw [if_neg e]
        by_cases c : i ≤ j ∧ j < U
        · rw [if_pos (by omega), if_pos c]
        · rw [if_neg (by omega), if_neg c]
    · rw [if_neg h, yk_some]
      refine ⟨fun _ _ => rfl, fun j => ?_⟩
      rw [if_neg (by omega)]
theorem addOwn_e {M : xM} {p : Nat} {sg : Int} (hm : 1 ≤ m ∧ m ≤ 6) (h50 : M 50 1 = m) (hp : p < 10) : yk (fX3_addOwn M p sg) fun M' => (∀ x, x ≠ 51 → M' x = M x) ∧ ∀ j, 0 ≤ j → j < m * (2 * m + 1) * 2 → M' 51 j = M 51 j + sg * M (53 + p) j := by
  have u : 0 ≤ m * (2 * m + 1) * 2 ∧ m * (2 * m + 1) * 2 ≤ 156 := by
    have c : m = 1 ∨ m = 2 ∨ m = 3 ∨ m = 4 ∨ m = 5 ∨ m = 6 := by omega
    rcases c with e | e | e | e | e | e <;> subst e <;> omega
  have ep : 53 + (wr (p : Int)).toNat = 53 + p := by rw [wr_id (by omega) (by omega)]; omega
  have eu : xmin 156 (m * (2 * m + 1) * 2) = m * (2 * m + 1) * 2 := by
    unfold xmin
    generalize m * (2 * m + 1) * 2 = U at u
    rw [wr_id (x := U) (by omega) (by omega), wr_id (x := 156) (by omega) (by omega)]
    split <;> omega
  unfold fX3_addOwn
  rw [xix_at (by omega) (by omega) (by omega), h50, ep, eu, yk_xb]
  generalize m * (2 * m + 1) * 2 = U at u
  refine yk.mono (ad32_q (o := 53 + p) (sg := sg) (by omega) u xfuel M 0 (by omega) (by omega) (by unfold xfuel; omega)) ?_
  intro M' q
  rw [yk_some]
  refine ⟨q.1, fun j j0 j1 => ?_⟩
  rw [q.2 j, if_pos ⟨j0, j1⟩]
theorem ahead_e {s X : Int} (hs : 0 ≤ s ∧ s < 1024) (hX : X = -1 ∨ (0 ≤ X ∧ X < 1024)) : fX3_isAhead s X = decide (X = -1 ∨ cnt s 24 < cnt X 24 ∨ (cnt s 24 = cnt X 24 ∧ s < X)) := by
  unfold fX3_isAhead
  by_cases c : X = -1
  · rw [if_pos (by rw [c]), decide_eq_true (Or.inl c)]
  · have a := cnt_rng s 24
    have b := cnt_rng X 24
    rw [if_neg (by rw [wr_id (by omega) (by omega), wr_id (by omega) (by omega)]; exact c), bitc_e hs, bitc_e (by omega), wr_id (x := cnt s 24 - cnt X 24) (by omega) (by omega), wr_id (x := s) (by omega) (by omega), wr_id (x := X) (by omega) (by omega)]
    symm
    repeat' split
    all_goals first | (rw [decide_eq_true (by omega)]; done) | (rw [decide_eq_false (by omega)]; done)
theorem sCt_flip {u : Nat} (hu : u < 1023) (gb : gB W) {d an t : Int} (ho : ((ozN (u + 1) : Nat) : Int) < W 5) : sCt W (gy (u + 1)) d an t = sCt W (gy u) d an t + (1 - 2 * bt (gy u : Int) (ozN (u + 1) : Int)) * sWorth W (ozN (u + 1) : Int) (W 2 + d) an t := by
  have h5 := gb.2.1
  unfold sCt
  rw [sTw_bs, sTw_bs, sBs_flip (f := fun p => sWorth W p (W 2 + d) an t) (s := (gy u : Int)) (o := ozN (u + 1)) (W 5).toNat (fun p hp => gy_bits u hu p (by omega)), if_pos (by omega)]
theorem lv51_q (g : gW W) (hm : 1 ≤ m ∧ m ≤ 6) (k : Nat) : ∀ (n : Nat) (M : xM) (u : Nat) (X : Int), ((u + 1 : Nat) : Int) + k = sAll W + 1 → rI M W → M 50 1 = m → oOk W m M (W 5) → (∀ q : Nat, (q : Int) < W 5 → M 74 q = sGet W m q) → cOk (W 0) (W 1) m (sCt W (gy u)) M → lmin (fun y => (∃ s : Nat, 1 ≤ s ∧ s ≤ u ∧ y = (gy s : Int)) ∧ lvS W m y) X → k < n → yk (fX3_findLeavers_L51 n M (sAll W) X (gy u) (sBs (sGet W m) (gy u) (W 5).toNat) (sWt W (gy u) (W 5).toNat) ((u + 1 : Nat) : Int)) fun q => lmin (lvS W m) q.1 ∧ ∀ o, o ≠ 51 → o ≠ 63 → q.2 o = M o := by
  have gb := g.1
  unfold gB at gb
  have ar := sAll_rng (W := W) (by omega)
  have ea : sAll W = ((2 ^ (W 5).toNat : Nat) : Int) - 1 := by unfold sAll; simp
  induction k with
  | zero =>
    intro n M u X hu iM h50 ho h74 hc hX hn
    obtain ⟨n, rfl⟩ : ∃ x, n = x + 1 := ⟨n - 1, by omega⟩
    unfold fX3_findLeavers_L51
    rw [if_pos (by rw [wr_id (by omega) (by omega), wr_id (by omega) (by omega)]; omega), yk_some]
    refine ⟨lmin_iff (fun y => ⟨fun w => w.2, fun w => ⟨?_, w⟩⟩) hX, fun _ _ _ => rfl⟩
    have w1 := w.1
    have gg := gi_e (W 5).toNat (by omega) y.toNat (by omega) (by omega)
    exact ⟨gi y.toNat, gg.2.1, by omega, by rw [gg.1]; omega⟩
  | succ k ih =>
    intro n M u X hu iM h50 ho h74 hc hX hn
    obtain ⟨n, rfl⟩ : ∃ x, n = x + 1 := ⟨n - 1, by omega⟩
    have hu2 : u < 1023 := by omega
    obtain ⟨⟨s1, s2⟩, s3, s4⟩ := gy_step u hu2
    have gl := gy_lt (W 5).toNat (by omega) (u + 1) (by omega) (by omega)
    have bo := gy_bits u hu2 (ozN (u + 1)) s2
    rw [if_pos rfl] at bo
    have fl := fun (f : Nat → Int) => sBs_flip (f := f) (s := (gy u : Int)) (s' := (gy (u + 1) : Int)) (o := ozN (u + 1)) (W 5).toNat (fun p hp => gy_bits u hu2 p (by omega))
    have f1 := fl (sGet W m)
    have f2 := fl (fun p => W (21 + 4 * (p : Int)))
    rw [← sWt_bs, ← sWt_bs] at f2
    rw [if_pos gl.1] at f1 f2
    have cf := fun (d an t : Int) => sCt_flip (W := W) hu2 g.1 (d := d) (an := an) (t := t) (by omega)
    have br := bt_rng (gy u : Int) (ozN (u + 1) : Int)
    have pl := iM.2.2.2.2.1 (ozN (u + 1)) (by omega) (by omega)
    have iB := iM.1
    unfold rB at iB
    have wr1 := sWt_rng g.2.2.2.2.1 (gy (u + 1) : Int) (W 5).toNat (by omega)
    have sr := sBs_rng (f := sGet W m) (set := (gy (u + 1) : Int)) (B := 159993) (by omega) (fun p => sGet_rng g.2.2.2.2.2.1 hm p) (W 5).toNat
    have bfr := sBf_rng (N := W 0) (g := sEn W (sWt W (gy (u + 1)) (W 5).toNat)) (m := m) (sCt_rng g.1 (gy (u + 1))) m.toNat (W 1)
    have xr : X = -1 ∨ (0 ≤ X ∧ X < 1024) := by
      rcases hX with ⟨a, _⟩ | ⟨a, b, _⟩
      · exact Or.inl a
      · have := b.2.1; omega
    unfold fX3_findLeavers_L51
    rw [s1, s3, if_neg (by rw [wr_id (by omega) (by omega), wr_id (by omega) (by omega)]; omega), yk_xj, bit_eq (by omega) (by omega) (by omega) (by omega), bo, wr_id (x := 1 - bt (gy u : Int) (ozN (u + 1) : Int)) (by omega) (by omega)]
    have eu : ((u + 1 : Nat) : Int) + 1 = ((u + 1 + 1 : Nat) : Int) := by omega
    rw [eu]
    have nx : ∀ (M' : xM) (Y : Int), (∀ o, o ≠ 51 → o ≠ 63 → M' o = M o) → cOk (W 0) (W 1) m (sCt W (gy (u + 1))) M' → lmin (fun y => ((∃ s : Nat, 1 ≤ s ∧ s ≤ u ∧ y = (gy s : Int)) ∧ lvS W m y) ∨ (y = (gy (u + 1) : Int) ∧ lvS W m (gy (u + 1)))) Y → yk (fX3_findLeavers_L51 n M' (sAll W) Y (gy (u + 1)) (sBs (sGet W m) (gy (u + 1)) (W 5).toNat) (sWt W (gy (u + 1)) (W 5).toNat) ((u + 1 + 1 : Nat) : Int)) fun q => lmin (lvS W m) q.1 ∧ ∀ o, o ≠ 51 → o ≠ 63 → q.2 o = M o := by
      intro M' Y hf hc' hY
      refine yk.mono (ih n M' (u + 1) Y (by omega) (rI_fr2 iM g (fun o _ _ _ _ => hf o (by omega) (by omega))) (by rw [hf 50 (by omega) (by omega)]; exact h50) (fun q d t r a b c e f g' h' => by rw [hf (53 + q) (by omega) (by omega)]; exact ho q d t r a b c e f g' h') (fun q hq => by rw [hf 74 (by omega) (by omega)]; exact h74 q hq) hc' (lmin_iff (fun y => ?_) hY) (by omega)) ?_
      · constructor
        · rintro (⟨⟨s, a, b, c⟩, w⟩ | ⟨w1, w2⟩)
          · exact ⟨⟨s, a, by omega, c⟩, w⟩
          · rw [w1]; exact ⟨⟨u + 1, by omega, by omega, rfl⟩, w2⟩
        · rintro ⟨⟨s, a, b, c⟩, w⟩
          by_cases e : s = u + 1
          · rw [e] at c
            rw [c] at w
            exact Or.inr ⟨c, w⟩
          · exact Or.inl ⟨⟨s, a, by omega, c⟩, w⟩
      · intro q hq
        exact ⟨hq.1, fun o a b => by rw [hq.2 o a b, hf o a b]⟩
    have key : ∀ sg, sg = 1 - 2 * bt (gy u : Int) (ozN (u + 1) : Int) → yk (xrd M 74 10 (ozN (u + 1) : Int) fun r12 => xrd M 7 10 (ozN (u + 1) : Int) fun r13 => xb (fX3_addOwn M (ozN (u + 1) : Int) sg) fun M15 => (if (fX3_isAhead (gy (u + 1) : Int) X) = true then (xb (fX4_isEnough M15 (sWt W (gy u) (W 5).toNat + (sg * r13))) fun r17 => xb2 (fX3_reckon M15 (b2i r17)) fun r19 M20 => (if wr (sBs (sGet W m) (gy u) (W 5).toNat + (sg * r12)) < wr r19 then fX3_findLeavers_L51 n M20 (sAll W) (gy (u + 1)) (gy (u + 1)) (sBs (sGet W m) (gy u) (W 5).toNat + (sg * r12)) (sWt W (gy u) (W 5).toNat + (sg * r13)) ((u + 1 + 1 : Nat) : Int) else fX3_findLeavers_L51 n M20 (sAll W) X (gy (u + 1)) (sBs (sGet W m) (gy u) (W 5).toNat + (sg * r12)) (sWt W (gy u) (W 5).toNat + (sg * r13)) ((u + 1 + 1 : Nat) : Int))) else fX3_findLeavers_L51 n M15 (sAll W) X (gy (u + 1)) (sBs (sGet W m) (gy u) (W 5).toNat + (sg * r12)) (sWt W (gy u) (W 5).toNat + (sg * r13)) ((u + 1 + 1 : Nat) : Int))) fun q => lmin (lvS W m) q.1 ∧ ∀ o, o ≠ 51 → o ≠ 63 → q.2 o = M o := by
      intro sg hsg
      rw [xrd_at (by omega) (by omega) (by omega), h74 _ (by omega), xrd_at (by omega) (by omega) (by omega), pl.2.1, yk_xb]
      refine yk.mono (addOwn_e (M := M) (p := ozN (u + 1)) (sg := sg) hm h50 s2) ?_
      intro M15 q15
      rw [← hsg] at f1 f2
      rw [← f1, ← f2]
      have c15 : cOk (W 0) (W 1) m (sCt W (gy (u + 1))) M15 := by
        intro d t r a b c e f g'
        have gx := gix_6 (m := m) (d := d) (r := r) (t := t) hm (by omega) (by omega)
        rw [q15.2 _ gx.1 gx.2.1, hc d t r a b c e f g', ho (ozN (u + 1)) d t r (by omega) a b c e f g', cf, hsg]
      have i15 : rI M15 W := rI_fr2 iM g (fun o _ _ _ _ => q15.1 o (by omega))
      rw [ahead_e (by omega) xr]
      by_cases ah : X = -1 ∨ cnt (gy (u + 1) : Int) 24 < cnt X 24 ∨ (cnt (gy (u + 1) : Int) 24 = cnt X 24 ∧ (gy (u + 1) : Int) < X)
      · rw [if_pos (decide_eq_true ah), enoughK_e i15.2.2.2.2.1 g.2.2.2.2.1 (by omega) (by rw [q15.1 5 (by omega)]; exact iB.2.1) (by omega), xb_some, yk_xb2]
        refine yk.mono (reckon_e (N := W 0) (A := W 1) (sCt_rng g.1 _) (by omega) rfl (by omega) (by rw [q15.1 50 (by omega)]; exact h50) c15) ?_
        intro z hz
        rw [hz.1, wr_id (x := sBs (sGet W m) (gy (u + 1)) (W 5).toNat) (by omega) (by omega), wr_id (x := sBf (W 0) (sCt W (gy (u + 1))) (sEn W (sWt W (gy (u + 1)) (W 5).toNat)) m m.toNat (W 1)) (by omega) (by omega)]
        have fz : ∀ o, o ≠ 51 → o ≠ 63 → z.2 o = M o := fun o a b => by rw [hz.2.1 o b, q15.1 o a]
        have cz : cOk (W 0) (W 1) m (sCt W (gy (u + 1))) z.2 := fun d t r a b c e f g' => by rw [hz.2.1 51 (by omega)]; exact c15 d t r a b c e f g'
        by_cases c : sBs (sGet W m) (gy (u + 1)) (W 5).toNat < sBf (W 0) (sCt W (gy (u + 1))) (sEn W (sWt W (gy (u + 1)) (W 5).toNat)) m m.toNat (W 1)
        · rw [if_pos c]
          have lv : lvS W m (gy (u + 1)) := ⟨by omega, c⟩
          refine nx z.2 _ fz cz (lmin_iff (fun y => ?_) (lmin_take hX (by omega) ah))
          constructor
          · rintro (w | w)
            · exact Or.inl w
            · exact Or.inr ⟨w, lv⟩
          · rintro (w | w)
            · exact Or.inl w
            · exact Or.inr w.1
        · rw [if_neg c]
          exact nx z.2 X fz cz (lmin_keep hX (fun w => absurd w.2 c))
      · rw [if_neg (by rw [decide_eq_true_eq]; exact ah)]
        exact nx M15 X (fun o a _ => q15.1 o a) c15 (lmin_keep hX (fun _ => by omega))
    by_cases b0 : bt (gy u : Int) (ozN (u + 1) : Int) = 0
    · rw [if_neg (by omega)]
      exact key 1 (by omega)
    · rw [if_pos (by omega)]
      exact key (-1) (by omega)
end LK
theorem leaveK_e {W : Int → Int} {M : xM} {m c : Int} (i : rI M W) (g : gW W) (me : rMemo c M W) (hc : c < 1200000000) (hm : 1 ≤ m ∧ m ≤ 6) : yk (fX3_findLeavers M m) fun q => lmin (lvS W m) q.1 ∧ (∀ o, (o < 43 ∨ 74 < o) → q.2 o = M o) ∧ rMemo (c + 180000) q.2 W := by
  have gb := g.1
  unfold gB at gb
  have ar := sAll_rng (W := W) (by omega)
  unfold fX3_findLeavers
  rw [yk_xb2]
  refine yk.mono (findBest_e i g me (by omega) (by omega)) ?_
  intro q hq
  obtain ⟨_, q2, q3, q4, q5⟩ := hq
  have i3 : rI q.2 W := rI_fr2 i g (fun o _ _ _ _ => q2 o (by omega))
  unfold fX3_gatherEach
  rw [yk_xb, yk_xb]
  refine yk.mono (each_q (M0 := q.2) i3 g hm xfuel q.2 0 (c + 60000) (fun _ _ _ _ _ => rfl) q3 q5 (by omega) (by omega) (by unfold xfuel; omega) (by omega) (fun p d t r p0 => by omega)) ?_
  intro M5 z
  obtain ⟨z1, z2, z3⟩ := z
  have f5 : ∀ o, (o < 43 ∨ 62 < o ∨ (49 < o ∧ o < 53)) → M5 o = q.2 o := fun o ho => z1 o (by omega) (by omega)
  have i5 : rI M5 W := rI_fr2 i3 g (fun o _ _ _ _ => f5 o (by omega))
  have iB := i5.1
  unfold rB at iB
  unfold fX3_shareOut
  rw [yk_some, yk_xb, yk_xb]
  refine yk.mono (sh2_q (W := W) (bj := bJ W m) g hm (fun j => sBj_rng _ _ _ _ _ _ _) (W 5).toNat xfuel 0 M5 (by omega) iB.2.1 i5.2.2.2.2.1 (by rw [f5 50 (by omega)]; exact q3) z2 (fun j hj => by rw [f5 64 (by omega)]; exact q4 j (by omega)) (fun q h => by omega) (by unfold xfuel; omega)) ?_
  intro M7 y
  rw [yk_some, fJ7_fill_53178_i5_e, yk_xb, yk_some]
  have f9 : ∀ o, o ≠ 51 → o ≠ 74 → xfi M7 51 3660 0 o = M5 o := fun o a b => by rw [xfi_o a, y.1 o b]
  have i9 : rI (xfi M7 51 3660 0) W := rI_fr2 i5 g (fun o _ _ _ _ => f9 o (by omega) (by omega))
  have all9 := allK_e (W := W) (M := xfi M7 51 3660 0) (by rw [f9 5 (by omega) (by omega)]; exact iB.2.1) (by omega)
  rw [all9, yk_xb2]
  have b0 : ∀ p : Int, 0 ≤ p → bt 0 p = 0 := fun p _ => by unfold bt; rw [Int.zero_ediv]; rfl
  have z0 : ∀ (f : Nat → Int) (n : Nat), sBs f 0 n = 0 := by
    intro f n
    induction n with
    | zero => rfl
    | succ n ih => show sBs f 0 n + bt 0 n * f n = 0; rw [ih, b0 n (by omega), Int.zero_mul]; rfl
  have g0 : ((gy 0 : Nat) : Int) = 0 := by decide
  have L := lv51_q (W := W) (m := m) g hm (sAll W).toNat xfuel (xfi M7 51 3660 0) 0 (-1) (by omega) i9 (by rw [f9 50 (by omega) (by omega), f5 50 (by omega)]; exact q3) (fun p d t r a b c e f g' h' => by rw [f9 (53 + p) (by omega) (by omega)]; exact z2 p d t r a b c e f g' h') (fun p hp => by rw [xfi_o (by omega), y.2 p hp]; unfold sGet; rw [if_pos (by omega)]) (by
    intro d t r a b c e f g'
    have gx := gix_6 (m := m) (d := d) (r := r) (t := t) hm (by omega) (by omega)
    rw [xfi_e gx.1 (by omega), g0]
    unfold sCt
    rw [sTw_bs, z0]) (Or.inl ⟨rfl, fun y w => by obtain ⟨⟨s, a, b, _⟩, _⟩ := w; omega⟩) (by unfold xfuel; omega)
  rw [g0, z0, sWt_bs, z0] at L
  refine yk.mono L ?_
  intro x hx
  rw [yk_some]
  have fx : ∀ o, (o < 43 ∨ 74 < o) → x.2 o = M o := fun o ho => by rw [hx.2 o (by omega) (by omega), f9 o (by omega) (by omega), f5 o (by omega), q2 o (by omega)]
  have fm : ∀ o, o < 50 → x.2 o = M5 o := fun o ho => by rw [hx.2 o (by omega) (by omega), f9 o (by omega) (by omega)]
  refine ⟨hx.1, fx, ?_⟩
  exact rMemo_le (rMemo_fr z3 g.2.2.2.2.2.2.2.2.2 ⟨fm _ (by omega), fm _ (by omega), fm _ (by omega), fm _ (by omega), fm _ (by omega)⟩ (fun k hk => fm _ (by omega)) (fun _ _ => rfl) (fun _ _ _ => rfl)) (by omega)
theorem tc_leave {ph : Bool} {c : Int} {M : xM} {a : Int} (I : Inv ph c M) (hc : c < 1200000000) (ha : -2147483648 ≤ a ∧ a < 2147483648) : yk (fX11_leave M a) fun q => yk (fX12_leave q.2 a) fun z => q.1 = z.1 ∧ Inv ph (c + 180000) z.2 := by
  unfold fX11_leave
  rw [within_eq (by omega) (by omega) (by omega) (by omega) (by omega) (by omega)]
  by_cases g : 1 ≤ a ∧ a ≤ 6
  · rw [if_pos (decide_eq_true g), yk_xb2]
    refine yk.mono (leaveK_e I.1 I.2.1 I.2.2.2.2.1 hc g) ?_
    intro q hq
    rw [yk_some]
    dsimp only
    have w := hq.2.1 95 (by omega)
    refine yk.mono (leaveM_e (W := M 95) (M := q.2) w I.2.1 g) ?_
    intro z hz
    refine ⟨lmin_one hq.1 hz.1, scr_end I hq.2.2 (fun o h1 _ _ => hq.2.1 o (by omega)) (fun o h1 _ => hz.2 o (by omega)) ?_ (by rw [hz.2 108 (by omega), hq.2.1 108 (by omega)])⟩
    have e94 : z.2 94 = M 94 := by rw [hz.2 94 (by omega), hq.2.1 94 (by omega)]
    rw [e94]
    exact ⟨rfl, rfl, rfl, rfl, rfl⟩
  · rw [if_neg (by rw [decide_eq_true_eq]; exact g), yk_some]
    dsimp only
    unfold fX12_leave
    rw [isIn_eq (by omega) (by omega) (by omega) (by omega) (by omega) (by omega), if_neg (by rw [decide_eq_true_eq]; exact g), yk_some]
    exact ⟨rfl, Inv_le I (by omega)⟩
