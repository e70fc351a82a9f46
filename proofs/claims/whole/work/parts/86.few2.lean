/-! fewest, the reference -/
theorem bt_tb (m j : Nat) : bt (m : Int) (j : Int) = 1 ↔ m.testBit j = true := by
  rw [bt_nat]
  cases m.testBit j <;> decide
theorem bt_tb0 (m j : Nat) : bt (m : Int) (j : Int) = 0 ↔ m.testBit j = false := by
  rw [bt_nat]
  cases m.testBit j <;> decide
theorem tb_lt (p : Nat) : ∀ x y : Nat, x.testBit p = false → y.testBit p = true → (∀ q : Nat, p < q → x.testBit q = y.testBit q) → x < y := by
  induction p with
  | zero =>
    intro x y hx hy h
    have e : x / 2 = y / 2 := Nat.eq_of_testBit_eq (fun i => by rw [Nat.testBit_div_two, Nat.testBit_div_two]; exact h (i + 1) (by omega))
    have a := Nat.mod_two_eq_zero_iff_testBit_zero.2 hx
    have b := Nat.mod_two_eq_one_iff_testBit_zero.2 hy
    omega
  | succ p ih =>
    intro x y hx hy h
    have := ih (x / 2) (y / 2) (by rw [Nat.testBit_div_two]; exact hx) (by rw [Nat.testBit_div_two]; exact hy) (fun q hq => by rw [Nat.testBit_div_two, Nat.testBit_div_two]; exact h (q + 1) (by omega))
    omega
theorem bt_lt {X Y : Int} (h0 : 0 ≤ X) (h1 : 0 ≤ Y) (p : Nat) (hx : bt X p = 0) (hy : bt Y p = 1) (h : ∀ q : Nat, p < q → bt X q = bt Y q) : X < Y := by
  obtain ⟨x, rfl⟩ := Int.eq_ofNat_of_zero_le h0
  obtain ⟨y, rfl⟩ := Int.eq_ofNat_of_zero_le h1
  have := tb_lt p x y ((bt_tb0 x p).1 hx) ((bt_tb y p).1 hy) (fun q hq => by
    have e := h q hq
    rw [bt_nat, bt_nat] at e
    cases a : x.testBit q <;> cases b : y.testBit q <;> rw [a, b] at e <;> first | rfl | exact absurd e (by decide))
  omega
theorem bt_ext {X Y : Int} (h0 : 0 ≤ X) (h1 : 0 ≤ Y) (h : ∀ q : Nat, bt X q = bt Y q) : X = Y := by
  obtain ⟨x, rfl⟩ := Int.eq_ofNat_of_zero_le h0
  obtain ⟨y, rfl⟩ := Int.eq_ofNat_of_zero_le h1
  have : x = y := Nat.eq_of_testBit_eq (fun q => by
    have e := h q
    rw [bt_nat, bt_nat] at e
    cases a : x.testBit q <;> cases b : y.testBit q <;> rw [a, b] at e <;> first | rfl | exact absurd e (by decide))
  rw [this]
theorem bt_24 {X : Int} (h : 0 ≤ X ∧ X < 16777216) {q : Nat} (hq : 24 ≤ q) : bt X q = 0 := bt_hi (n := 24) h.1 h.2 hq
theorem bt_same {X Y : Int} (hX : 0 ≤ X ∧ X < 16777216) (hY : 0 ≤ Y ∧ Y < 16777216) {k : Nat} (h : ∀ q : Nat, k ≤ q → q < 24 → bt X q = bt Y q) : ∀ q : Nat, k ≤ q → bt X q = bt Y q := by
  intro q hq
  by_cases c : q < 24
  · exact h q hq c
  · rw [bt_24 hX (by omega), bt_24 hY (by omega)]
/-- above i: Y as X, or more -/
def hiG (X Y : Int) (i : Nat) : Prop := (∀ q : Nat, i ≤ q → q < 24 → bt Y q = bt X q) ∨ ∃ p : Nat, i ≤ p ∧ p < 24 ∧ bt Y p = 1 ∧ bt X p = 0 ∧ ∀ q : Nat, p < q → q < 24 → bt Y q = bt X q
theorem hiG_0 {X Y : Int} (hX : 0 ≤ X ∧ X < 16777216) (hY : 0 ≤ Y ∧ Y < 16777216) (h : hiG X Y 0) : X ≤ Y := by
  rcases h with a | ⟨p, _, p1, y, x, a⟩
  · have := bt_ext hY.1 hX.1 (fun q => bt_same hY hX (k := 0) (fun q _ c => a q (by omega) c) q (by omega))
    omega
  · have := bt_lt hX.1 hY.1 p x y (fun q hq => (bt_same hY hX (k := p + 1) (fun q h1 c => a q (by omega) c) q (by omega)).symm)
    omega
theorem hi_dif (X Y : Int) (m : Nat) : ∀ n : Nat, n + m = 24 → (∀ q : Nat, n ≤ q → q < 24 → bt Y q = bt X q) ∨ ∃ p : Nat, n ≤ p ∧ p < 24 ∧ bt Y p ≠ bt X p ∧ ∀ q : Nat, p < q → q < 24 → bt Y q = bt X q := by
  induction m with
  | zero => intro n h; exact Or.inl (fun q a b => by omega)
  | succ m ih =>
    intro n h
    rcases ih (n + 1) (by omega) with a | ⟨p, a, b⟩
    · by_cases c : bt Y n = bt X n
      · refine Or.inl (fun q q0 q1 => ?_)
        by_cases e : q = n
        · rw [e]; exact c
        · exact a q (by omega) q1
      · exact Or.inr ⟨n, Nat.le_refl _, by omega, c, fun q q0 q1 => a q (by omega) q1⟩
    · exact Or.inr ⟨p, by omega, b⟩
section FM2
variable {M : xM} {v : Int}
theorem full_bt : ∀ q : Nat, q < 24 → bt 16777215 (q : Int) = 1 := by decide
theorem few12_q (gP : gProm (M 95)) (h7 : (0 ≤ M 95 7 ∧ M 95 7 ≤ 24) ∧ M 95 5 ≤ 10) (hv : 0 ≤ v ∧ v < 100) (n : Nat) : ∀ k : Int, 0 ≤ k → k ≤ 24 → 24 - k < n → (∀ m, 0 ≤ m → m < k → ¬ eC (M 95) v 0 0 m) → yk (fX12_fewest_L12 n M v k) fun z => (0 ≤ z ∧ z ≤ 24) ∧ eC (M 95) v 0 0 z ∧ ∀ m, 0 ≤ m → m < z → ¬ eC (M 95) v 0 0 m := by
  have z0 : ∀ p : Int, 0 ≤ p → bt 0 p = 0 := fun p _ => by unfold bt; rw [Int.zero_ediv]; rfl
  induction n with
  | zero => intro k _ _ h; omega
  | succ n ih =>
    intro k k0 k1 k2 hno
    unfold fX12_fewest_L12
    rw [yk_xb]
    refine yk.mono (canB_e gP h7 hv 40 0 0 k (by omega) (by omega) (fun p p0 _ w => by rw [z0 p p0] at w; omega) k0 (by omega) (by omega) (by omega)) ?_
    intro b hb
    cases b with
    | true =>
      rw [if_pos rfl, yk_some]
      exact ⟨by omega, hb.1 rfl, hno⟩
    | false =>
      rw [if_neg (by decide)]
      have nk : ¬ eC (M 95) v 0 0 k := fun w => absurd (hb.2 w) (by decide)
      have k24 : k ≠ 24 := by
        intro e
        refine nk ⟨16777215, by omega, fun p p0 _ w => by rw [z0 p p0] at w; omega, fun p p0 _ w => by rw [z0 p p0] at w; omega, ?_, ?_⟩
        · rw [e]; decide
        · intro i j _ _ i1 _ w _
          have := full_bt i.toNat (by omega)
          have t : ((i.toNat : Nat) : Int) = i := by omega
          rw [t] at this
          omega
      refine ih (k + 1) (by omega) (by omega) (by omega) ?_
      intro m m0 m1
      by_cases e : m = k
      · rw [e]; exact nk
      · exact hno m m0 (by omega)
theorem few45_q (gP : gProm (M 95)) (h7 : (0 ≤ M 95 7 ∧ M 95 7 ≤ 24) ∧ M 95 5 ≤ 10) (hv : 0 ≤ v ∧ v < 100) {N : Int} (hN : 0 ≤ N ∧ N ≤ 24) (hmin : ∀ Y, (0 ≤ Y ∧ Y < 16777216) → eG (M 95) v Y → N ≤ cnt Y 24) (k : Nat) : ∀ (n : Nat) (gone stay : Int), (k : Int) ≤ M 95 7 → (0 ≤ gone ∧ gone < 16777216) → (0 ≤ stay ∧ stay < 16777216) → (∀ p : Int, 0 ≤ p → p < 24 → bt gone p = 1 → bt stay p = 0) → (∀ p : Int, 0 ≤ p → p < k → bt gone p = 0 ∧ bt stay p = 0) → (∀ p : Int, k ≤ p → p < M 95 7 → bt gone p = 1 ∨ bt stay p = 1) → eC (M 95) v gone stay (N - cnt gone 24) → (∀ Y, (0 ≤ Y ∧ Y < 16777216) → eG (M 95) v Y → cnt Y 24 ≤ N → hiG gone Y k) → k < n → yk (fX12_fewest_L45 n M v N gone stay ((k : Int) - 1)) (eB (M 95) v) := by
  induction k with
  | zero =>
    intro n gone stay _ hg hs hd _ hdec hC hA hn
    obtain ⟨n, rfl⟩ : ∃ m, n = m + 1 := ⟨n - 1, by omega⟩
    unfold fX12_fewest_L45
    rw [if_pos (by decide), yk_some]
    obtain ⟨X, x1, x2, x3, x4, x5⟩ := hC
    have same : ∀ p, 0 ≤ p → p < M 95 7 → bt X p = bt gone p := by
      intro p p0 p1
      have a := bt_rng gone p
      rcases hdec p (by omega) p1 with u | u
      · rw [u]; exact x2 p p0 (by omega) u
      · have b := x3 p p0 (by omega) u
        have c := hd p p0 (by omega)
        omega
    have gd : eG (M 95) v gone := by
      intro i j j0 j1 i1 ow a b
      exact x5 i j j0 j1 i1 ow (by rw [same i (by omega) i1]; exact a) (by rw [same j j0 (by omega)]; exact b)
    have cg := cnt_mono 24 (fun p hp => x2 p (by omega) (by omega))
    have cN := hmin gone hg gd
    refine ⟨hg, gd, ?_⟩
    intro Y y1 y2
    have cY := hmin Y y1 y2
    by_cases c : cnt Y 24 ≤ N
    · exact Or.inr ⟨by omega, hiG_0 hg y1 (hA Y y1 y2 c)⟩
    · exact Or.inl (by omega)
  | succ k ih =>
    intro n gone stay hk hg hs hd hlo hdec hC hA hn
    obtain ⟨n, rfl⟩ : ∃ m, n = m + 1 := ⟨n - 1, by omega⟩
    unfold fX12_fewest_L45
    have ek : ((k + 1 : Nat) : Int) - 1 = k := by omega
    rw [ek, if_neg (by rw [wr_id (by omega) (by omega)]; omega), count_e (by omega), xb_some, yk_xb]
    have p24 : (2 : Int) ^ 24 = 16777216 := by decide
    have o1 := or_bit (s := gone) (i := k) (n := 24) (by decide) hg.1 hg.2 (by omega) (by omega)
    have o3 := or_bit (s := stay) (i := k) (n := 24) (by decide) hs.1 hs.2 (by omega) (by omega)
    rw [p24] at o1 o3
    have gk := (hlo k (by omega) (by omega)).1
    have k1 := cnt_or hg (i := k) (by omega) gk
    have cg0 := cnt_rng gone 24
    have mm : 0 ≤ N - cnt gone 24 := by
      obtain ⟨X, x1, x2, x3, x4, x5⟩ := hC
      have := cnt_mono 24 (fun p hp => x2 p (by omega) (by omega))
      omega
    have e1 : (k : Int) + -1 = (k : Int) - 1 := by omega
    rw [e1]
    refine yk.mono (canB_e gP h7 hv 40 gone (xor_ stay (xshl 1 k)) (N - cnt gone 24) hg o3.1 ?_ mm (by omega) (by omega) (by omega)) ?_
    · intro p p0 p1 hp
      rw [o3.2 p p0]
      by_cases e : p = k
      · rw [e] at hp; omega
      · rw [if_neg e]; exact hd p p0 p1 hp
    · intro b hb
      cases b with
      | true =>
        rw [if_pos rfl]
        refine ih n gone (xor_ stay (xshl 1 k)) (by omega) hg o3.1 ?_ ?_ ?_ (hb.1 rfl) ?_ (by omega)
        · intro p p0 p1 hp
          rw [o3.2 p p0]
          by_cases e : p = k
          · rw [e] at hp; omega
          · rw [if_neg e]; exact hd p p0 p1 hp
        · intro p p0 p1
          rw [o3.2 p p0, if_neg (by omega)]
          exact hlo p p0 (by omega)
        · intro p p0 p1
          rw [o3.2 p (by omega)]
          by_cases e : p = k
          · rw [if_pos e]; exact Or.inr rfl
          · rw [if_neg e]; exact hdec p (by omega) p1
        · intro Y y1 y2 y3
          rcases hA Y y1 y2 y3 with a | ⟨p, a0, a1, a2, a3, a4⟩
          · have yr := bt_rng Y k
            by_cases c : bt Y k = 1
            · exact Or.inr ⟨k, Nat.le_refl _, by omega, c, gk, fun q q0 q1 => a q (by omega) q1⟩
            · refine Or.inl (fun q q0 q1 => ?_)
              by_cases e : q = k
              · rw [e]; omega
              · exact a q (by omega) q1
          · exact Or.inr ⟨p, by omega, a1, a2, a3, a4⟩
      | false =>
        rw [if_neg (by decide)]
        have no : ¬ eC (M 95) v gone (xor_ stay (xshl 1 k)) (N - cnt gone 24) := fun w => absurd (hb.2 w) (by decide)
        refine ih n (xor_ gone (xshl 1 k)) stay (by omega) o1.1 hs ?_ ?_ ?_ ?_ ?_ (by omega)
        · intro p p0 p1 hp
          rw [o1.2 p p0] at hp
          by_cases e : p = k
          · rw [e]; exact (hlo k (by omega) (by omega)).2
          · rw [if_neg e] at hp; exact hd p p0 p1 hp
        · intro p p0 p1
          rw [o1.2 p p0, if_neg (by omega)]
          exact hlo p p0 (by omega)
        · intro p p0 p1
          rw [o1.2 p (by omega)]
          by_cases e : p = k
          · rw [if_pos e]; exact Or.inl rfl
          · rw [if_neg e]; exact hdec p (by omega) p1
        · obtain ⟨X, x1, x2, x3, x4, x5⟩ := hC
          have xk : bt X k = 1 := by
            have xr := bt_rng X k
            by_cases c : bt X k = 0
            · exfalso
              refine no ⟨X, x1, x2, ?_, x4, x5⟩
              intro p p0 p1 hp
              rw [o3.2 p p0] at hp
              by_cases e : p = k
              · rw [e]; exact c
              · rw [if_neg e] at hp; exact x3 p p0 p1 hp
            · omega
          refine ⟨X, x1, ?_, x3, by omega, x5⟩
          intro p p0 p1 hp
          rw [o1.2 p p0] at hp
          by_cases e : p = k
          · rw [e]; exact xk
          · rw [if_neg e] at hp; exact x2 p p0 p1 hp
        · intro Y y1 y2 y3
          rcases hA Y y1 y2 y3 with a | ⟨p, a0, a1, a2, a3, a4⟩
          · have yr := bt_rng Y k
            have yk1 : bt Y k = 1 := by
              by_cases c : bt Y k = 0
              · exfalso
                refine no ⟨Y, y1, ?_, ?_, by omega, y2⟩
                · intro p p0 p1 hp
                  have t : ((p.toNat : Nat) : Int) = p := by omega
                  by_cases e : (k : Int) < p
                  · have := a p.toNat (by omega) (by omega)
                    rw [t] at this
                    omega
                  · by_cases e2 : p = k
                    · rw [e2] at hp; omega
                    · have := (hlo p p0 (by omega)).1; omega
                · intro p p0 p1 hp
                  rw [o3.2 p p0] at hp
                  have t : ((p.toNat : Nat) : Int) = p := by omega
                  by_cases e : p = k
                  · rw [e]; exact c
                  · rw [if_neg e] at hp
                    by_cases e2 : (k : Int) < p
                    · have q := a p.toNat (by omega) (by omega)
                      rw [t] at q
                      have gr := bt_rng gone p
                      have := hd p p0 p1
                      omega
                    · have := (hlo p p0 (by omega)).2; omega
              · omega
            refine Or.inl (fun q q0 q1 => ?_)
            rw [o1.2 q (by omega)]
            by_cases e : (q : Int) = k
            · rw [if_pos e, e]; exact yk1
            · rw [if_neg e]; exact a q (by omega) q1
          · refine Or.inr ⟨p, by omega, a1, a2, ?_, ?_⟩
            · rw [o1.2 p (by omega), if_neg (by omega)]; exact a3
            · intro q q0 q1
              rw [o1.2 q (by omega), if_neg (by omega)]
              exact a4 q q0 q1
theorem fewM_e (gP : gProm (M 95)) (h7 : (0 ≤ M 95 7 ∧ M 95 7 ≤ 24) ∧ M 95 5 ≤ 10) (hv : 0 ≤ v ∧ v < M 95 5) : yk (fX12_fewest M v) (eB (M 95) v) := by
  have z0 : ∀ p : Int, 0 ≤ p → bt 0 p = 0 := fun p _ => by unfold bt; rw [Int.zero_ediv]; rfl
  have c0 : cnt 0 24 = 0 := by decide
  unfold fX12_fewest fX12_isPlot
  rw [isIn_eq (by omega) (by omega) (by omega) (by omega) (by omega) (by omega), if_pos (decide_eq_true (show 0 ≤ v ∧ v ≤ M 95 5 - 1 by omega)), yk_xb]
  refine yk.mono (few12_q gP h7 (by omega) xfuel 0 (by omega) (by omega) (by unfold xfuel; omega) (fun m a b => by omega)) ?_
  intro z hz
  obtain ⟨z1, z2, z3⟩ := hz
  have hmin : ∀ Y, (0 ≤ Y ∧ Y < 16777216) → eG (M 95) v Y → z ≤ cnt Y 24 := by
    intro Y y1 y2
    have cr := cnt_rng Y 24
    by_cases c : z ≤ cnt Y 24
    · exact c
    · exfalso
      exact z3 (cnt Y 24) (by omega) (by omega) ⟨Y, y1, fun p p0 _ w => by rw [z0 p p0] at w; omega, fun p p0 _ w => by rw [z0 p p0] at w; omega, by rw [c0]; omega, y2⟩
  have e7 : M 95 7 - 1 = (((M 95 7).toNat : Nat) : Int) - 1 := by omega
  rw [yk_xb, e7]
  refine yk.mono (few45_q gP h7 (by omega) (N := z) z1 hmin (M 95 7).toNat xfuel 0 0 (by omega) (by omega) (by omega) (fun p p0 _ w => by rw [z0 p p0] at w; omega) (fun p p0 _ => ⟨z0 p p0, z0 p p0⟩) (fun p a b => by omega) (by rw [c0, Int.sub_zero]; exact z2) ?_ (by unfold xfuel; omega)) ?_
  · intro Y y1 y2 y3
    rcases hi_dif 0 Y (24 - (M 95 7).toNat) (M 95 7).toNat (by omega) with a | ⟨p, a, b, c, d⟩
    · exact Or.inl a
    · have yr := bt_rng Y p
      rw [z0 p (by omega)] at c
      exact Or.inr ⟨p, a, b, by omega, z0 p (by omega), d⟩
  · intro b hb
    rw [yk_some]
    exact hb
end FM2
