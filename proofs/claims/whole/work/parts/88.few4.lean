/-! fewest, the class's choice, and the call -/
theorem pow10 : ∀ m : Nat, m < 11 → (1 ≤ (2 : Int) ^ m ∧ (2 : Int) ^ m ≤ 1024) ∧ cnt ((2 : Int) ^ m - 1) 24 = m ∧ xshl 1 (m : Int) = (2 : Int) ^ m := by decide
set_option maxRecDepth 100000 in
theorem full10 : ∀ m : Nat, m < 11 → ∀ t : Nat, t < 2 ^ m → cnt (t : Int) 24 = m → t + 1 = 2 ^ m := by decide +kernel
theorem full_e {m : Nat} (hm : m ≤ 10) {t : Int} (h0 : 0 ≤ t) (h1 : t < 2 ^ m) (h : cnt t 24 = m) : t = 2 ^ m - 1 := by
  obtain ⟨k, rfl⟩ := Int.eq_ofNat_of_zero_le h0
  have hk : k < 2 ^ m := by
    have e : (2 : Int) ^ m = ((2 ^ m : Nat) : Int) := by simp
    rw [e] at h1
    omega
  have := full10 m (by omega) k hk h
  have e : (2 : Int) ^ m = ((2 ^ m : Nat) : Int) := by simp
  rw [e]
  omega
def bN (f : Nat → Int) : Nat → Int
  | 0 => 0
  | n + 1 => if f n = 1 then xor_ (bN f n) (xshl 1 n) else bN f n
theorem bN_e {f : Nat → Int} (n : Nat) (hn : n ≤ 24) : (0 ≤ bN f n ∧ bN f n < 2 ^ n) ∧ ∀ j : Nat, bt (bN f n) j = if j < n ∧ f j = 1 then 1 else 0 := by
  induction n with
  | zero =>
    refine ⟨⟨Int.le_refl _, show (0 : Int) < 2 ^ 0 by decide⟩, fun j => ?_⟩
    rw [if_neg (by omega)]
    show bt 0 j = 0
    unfold bt
    rw [Int.zero_ediv]; rfl
  | succ n ih =>
    have ih := ih (by omega)
    have p2 : (2 : Int) ^ n < 2 ^ (n + 1) := by
      have := Nat.pow_lt_pow_right (a := 2) (by decide) (Nat.lt_succ_self n)
      have e1 : (2 : Int) ^ n = ((2 ^ n : Nat) : Int) := by simp
      have e2 : (2 : Int) ^ (n + 1) = ((2 ^ (n + 1) : Nat) : Int) := by simp
      rw [e1, e2]
      omega
    have eb : bN f (n + 1) = if f n = 1 then xor_ (bN f n) (xshl 1 n) else bN f n := rfl
    rw [eb]
    by_cases c : f n = 1
    · rw [if_pos c]
      have ob := or_bit (s := bN f n) (i := n) (n := n + 1) (by omega) ih.1.1 (by omega) (by omega) (by omega)
      refine ⟨ob.1, fun j => ?_⟩
      rw [ob.2 j (by omega)]
      by_cases e : (j : Int) = n
      · have e' : j = n := by omega
        rw [if_pos e, if_pos ⟨by omega, by rw [e']; exact c⟩]
      · rw [if_neg e, ih.2 j]
        by_cases d : j < n ∧ f j = 1
        · rw [if_pos d, if_pos ⟨by omega, d.2⟩]
        · rw [if_neg d, if_neg (fun w => d ⟨by omega, w.2⟩)]
    · rw [if_neg c]
      refine ⟨⟨ih.1.1, by omega⟩, fun j => ?_⟩
      rw [ih.2 j]
      by_cases d : j < n ∧ f j = 1
      · rw [if_pos d, if_pos ⟨by omega, d.2⟩]
      · rw [if_neg d, if_neg (fun w => d ⟨by
          by_cases e : j = n
          · rw [e] at w; exact absurd w.2 c
          · omega, w.2⟩)]
section FK2
variable {W : Int → Int} {M : xM} {m : Nat}
theorem few61_q (iP : rProm M W) (gP : gProm W) (i7 : M 17 0 = W 7) (h7 : (0 ≤ W 7 ∧ W 7 ≤ 24) ∧ W 5 ≤ 10) (hm : m ≤ 10) (hK : ∀ k : Nat, k < m → 0 ≤ M 22 k ∧ M 22 k < W 7) (n : Nat) : ∀ t f : Int, 0 ≤ t → t ≤ 2 ^ m → (0 ≤ f ∧ f < 2 ^ m) → agr W M m f → (f < t ∨ f = 2 ^ m - 1) → (∀ b, 0 ≤ b → b < t → agr W M m b → cnt f 24 < cnt b 24 ∨ (cnt f 24 = cnt b 24 ∧ f ≤ b)) → 2 ^ m - t < n → yk (fX5_fewestOf_L61 n M m f t) fun z => (0 ≤ z ∧ z < 2 ^ m) ∧ agr W M m z ∧ ∀ b, 0 ≤ b → b < 2 ^ m → agr W M m b → cnt z 24 < cnt b 24 ∨ (cnt z 24 = cnt b 24 ∧ z ≤ b) := by
  obtain ⟨⟨p0, p1⟩, p2, p3⟩ := pow10 m (by omega)
  have fe := fun (t : Int) (a : 0 ≤ t) (b : t < 2 ^ m) (c : cnt t 24 = m) => full_e hm a b c
  generalize (2 : Int) ^ m = P at *
  induction n with
  | zero => intro t f _ _ _ _ _ _ h; omega
  | succ n ih =>
    intro t f t0 t1 f0 ag ft hall hn
    unfold fX5_fewestOf_L61
    rw [p3, wr_id (x := t) (by omega) (by omega), wr_id (x := P) (by omega) (by omega)]
    by_cases h : t < P
    · have c1 := cnt_rng t 24
      have c2 := cnt_rng f 24
      rw [if_pos h, bitc_e (by omega), bitc_e (by omega), wr_id (x := cnt t 24) (by omega) (by omega), wr_id (x := cnt f 24) (by omega) (by omega)]
      have stay : (agr W M m t → cnt f 24 ≤ cnt t 24) → yk (fX5_fewestOf_L61 n M m f (t + 1)) fun z => (0 ≤ z ∧ z < P) ∧ agr W M m z ∧ ∀ b, 0 ≤ b → b < P → agr W M m b → cnt z 24 < cnt b 24 ∨ (cnt z 24 = cnt b 24 ∧ z ≤ b) := by
        intro hs
        refine ih (t + 1) f (by omega) (by omega) f0 ag (by omega) ?_ (by omega)
        intro b b0 b1 ab
        by_cases e : b = t
        · rw [e] at ab ⊢
          have le := hs ab
          by_cases lt : cnt f 24 < cnt t 24
          · exact Or.inl lt
          · refine Or.inr ⟨by omega, ?_⟩
            rcases ft with u | u
            · omega
            · have := fe t t0 h (by rw [u] at le lt; omega)
              omega
        · exact hall b b0 (by omega) ab
      by_cases lt : cnt t 24 < cnt f 24
      · rw [if_pos lt, yk_xb]
        refine yk.mono (ag_e iP gP i7 h7 hm hK (by omega)) ?_
        intro r hr
        cases r with
        | true =>
          rw [if_pos rfl]
          refine ih (t + 1) t (by omega) (by omega) ⟨t0, h⟩ (hr.1 rfl) (by omega) ?_ (by omega)
          intro b b0 b1 ab
          by_cases e : b = t
          · rw [e]; exact Or.inr ⟨rfl, Int.le_refl _⟩
          · have := hall b b0 (by omega) ab
            exact Or.inl (by omega)
        | false =>
          rw [if_neg (by decide)]
          exact stay (fun w => absurd (hr.2 w) (by decide))
      · rw [if_neg lt]
        exact stay (fun _ => by omega)
    · rw [if_neg h, yk_some]
      exact ⟨f0, ag, fun b b0 b1 ab => hall b b0 (by omega) ab⟩
theorem xshl_0 : ∀ p : Nat, p < 24 → xshl 0 (p : Int) = 0 := by decide
theorem few106_q {b : Int} (h7 : 0 ≤ W 7 ∧ W 7 ≤ 24) (hm : m ≤ 10) (hb : 0 ≤ b ∧ b < 1024) (hK : ∀ k : Nat, k < m → 0 ≤ M 22 k ∧ M 22 k < W 7) (n : Nat) : ∀ (k : Nat) (R : Int), k ≤ m → (0 ≤ R ∧ R < 16777216) → (∀ p : Int, 0 ≤ p → (bt R p = 1 ↔ ∃ j : Nat, j < k ∧ M 22 j = p ∧ bt b j = 1)) → m - k < n → yk (fX5_fewestOf_L106 n M m b R k) fun z => (0 ≤ z ∧ z < 16777216) ∧ ∀ p : Int, 0 ≤ p → (bt z p = 1 ↔ ∃ j : Nat, j < m ∧ M 22 j = p ∧ bt b j = 1) := by
  induction n with
  | zero => intro k R _ _ _ h; omega
  | succ n ih =>
    intro k R hk hR hq hn
    unfold fX5_fewestOf_L106
    by_cases h : k < m
    · have o := hK k h
      have r := bt_rng b k
      have ek : (k : Int) + 1 = ((k + 1 : Nat) : Int) := by omega
      rw [if_pos (by rw [wr_id (by omega) (by omega), wr_id (by omega) (by omega)]; omega), xrd_at (by omega) (by omega) (by omega), bit_eq hb.1 (by omega) (by omega) (by omega), ek]
      by_cases c : bt b k = 1
      · have p24 : (2 : Int) ^ 24 = 16777216 := by decide
        have ob := or_bit (s := R) (i := M 22 k) (n := 24) (by decide) hR.1 hR.2 o.1 (by omega)
        rw [p24] at ob
        rw [c]
        refine ih (k + 1) _ (by omega) ob.1 ?_ (by omega)
        intro p p0
        rw [ob.2 p p0]
        by_cases e : p = M 22 k
        · rw [if_pos e]
          exact ⟨fun _ => ⟨k, by omega, e.symm, c⟩, fun _ => rfl⟩
        · rw [if_neg e, hq p p0]
          constructor
          · rintro ⟨j, a, d, f⟩
            exact ⟨j, by omega, d, f⟩
          · rintro ⟨j, a, d, f⟩
            refine ⟨j, ?_, d, f⟩
            by_cases e2 : j = k
            · rw [e2] at d; exact absurd d.symm e
            · omega
      · have c0 : bt b k = 0 := by omega
        have x0 := xshl_0 (M 22 k).toNat (by omega)
        have t : (((M 22 k).toNat : Nat) : Int) = M 22 k := by omega
        rw [t] at x0
        rw [c0, x0, xor_0 hR.1 (by omega)]
        refine ih (k + 1) _ (by omega) hR ?_ (by omega)
        intro p p0
        rw [hq p p0]
        constructor
        · rintro ⟨j, a, d, f⟩
          exact ⟨j, by omega, d, f⟩
        · rintro ⟨j, a, d, f⟩
          refine ⟨j, ?_, d, f⟩
          by_cases e2 : j = k
          · rw [e2] at f; exact absurd f c
          · omega
    · have e : k = m := by omega
      rw [if_neg (by rw [wr_id (by omega) (by omega), wr_id (by omega) (by omega)]; omega), yk_some]
      rw [e] at hq
      exact ⟨hR, hq⟩
end FK2
def cb (W : Int → Int) (v X : Int) : Nat → Int
  | 0 => 0
  | n + 1 => cb W v X n + (if owB W v n = true then bt X n else 0)
theorem cb_cnt {W : Int → Int} {v X b : Int} (n : Nat) (h : ∀ p : Nat, p < n → owB W v p = true → bt b (mi W v p : Int) = bt X p) : cnt b (mi W v n) = cb W v X n := by
  induction n with
  | zero => rfl
  | succ n ih =>
    have ih := ih (fun p hp => h p (by omega))
    show _ = cb W v X n + (if _ then _ else _)
    by_cases o : owB W v n = true
    · rw [mi_t o, if_pos o]
      show cnt b (mi W v n) + bt b (mi W v n : Int) = _
      rw [ih, h n (by omega) o]
    · rw [mi_f o, if_neg o, ih]; omega
theorem cb_le {W : Int → Int} {v X : Int} (n : Nat) : cb W v X n ≤ cnt X n := by
  induction n with
  | zero => exact Int.le_refl _
  | succ n ih =>
    show cb W v X n + (if _ then _ else _) ≤ cnt X n + bt X n
    have := bt_rng X n
    split <;> omega
theorem cb_eq {W : Int → Int} {v X : Int} (n : Nat) (h : ∀ p : Nat, p < n → ¬ owB W v p = true → bt X p = 0) : cb W v X n = cnt X n := by
  induction n with
  | zero => rfl
  | succ n ih =>
    have ih := ih (fun p hp => h p (by omega))
    show cb W v X n + (if _ then _ else _) = cnt X n + bt X n
    by_cases o : owB W v n = true
    · rw [if_pos o, ih]
    · rw [if_neg o, ih, h n (by omega) o]
theorem fewB {W : Int → Int} {M : xM} {v z R : Int} (h7 : 0 ≤ W 7 ∧ W 7 ≤ 24) (hm : mi W v 24 ≤ 10) (hO : ∀ q : Nat, owB W v q = true → M 22 (mi W v q : Int) = q) (hz : 0 ≤ z ∧ z < 2 ^ (mi W v 24)) (ag : agr W M (mi W v 24) z) (hmin : ∀ b, 0 ≤ b → b < 2 ^ (mi W v 24) → agr W M (mi W v 24) b → cnt z 24 < cnt b 24 ∨ (cnt z 24 = cnt b 24 ∧ z ≤ b)) (hR : 0 ≤ R ∧ R < 16777216) (hb : ∀ p : Int, 0 ≤ p → (bt R p = 1 ↔ ∃ j : Nat, j < mi W v 24 ∧ M 22 j = p ∧ bt z j = 1)) : eB W v R := by
  have owq : ∀ q : Nat, owB W v q = true → q < 24 := fun q h => by
    unfold owB at h
    rw [decide_eq_true_eq] at h
    omega
  have sur := mi_sur (W := W) (v := v) 24
  have own : ∀ p : Nat, owB W v p = true → bt z (mi W v p : Int) = bt R p := by
    intro p ho
    have r1 := bt_rng z (mi W v p : Int)
    have r2 := bt_rng R p
    have lt := mi_lt (W := W) (v := v) ho (owq p ho)
    have i := hb p (by omega)
    by_cases c : bt z (mi W v p : Int) = 1
    · have := i.2 ⟨mi W v p, lt, hO p ho, c⟩
      omega
    · by_cases d : bt R p = 1
      · obtain ⟨j, j1, j2, j3⟩ := i.1 d
        obtain ⟨q, q1, q2, q3⟩ := sur j j1
        have e := hO q q2
        rw [q3, j2] at e
        have : q = p := by omega
        rw [this] at q3
        rw [q3] at c
        exact absurd j3 c
      · omega
  have non : ∀ p : Nat, ¬ owB W v p = true → bt R p = 0 := by
    intro p ho
    have r2 := bt_rng R p
    by_cases d : bt R p = 1
    · obtain ⟨j, j1, j2, j3⟩ := (hb p (by omega)).1 d
      obtain ⟨q, q1, q2, q3⟩ := sur j j1
      have e := hO q q2
      rw [q3, j2] at e
      have : q = p := by omega
      rw [this] at q2
      exact absurd q2 ho
    · omega
  have agG : ∀ X b : Int, (∀ p : Nat, owB W v p = true → bt b (mi W v p : Int) = bt X p) → agr W M (mi W v 24) b → eG W v X := by
    intro X b hX ha i j j0 ji i7 ow xi xj
    cases od : sOdds W i j with
    | false => rfl
    | true =>
      exfalso
      have od' := od
      unfold sOdds at od'
      rw [decide_eq_true_eq] at od'
      have ti : ((i.toNat : Nat) : Int) = i := by omega
      have tj : ((j.toNat : Nat) : Int) = j := by omega
      have oi : owB W v (i.toNat : Int) = true := by unfold owB; rw [decide_eq_true_eq, ti]; exact ⟨i7, ow, od'.1⟩
      have oj : owB W v (j.toNat : Int) = true := by unfold owB; rw [decide_eq_true_eq, tj]; exact ⟨by omega, by rw [← od'.2.2.1]; exact ow, od'.2.1⟩
      have a := ha (mi W v i.toNat) (mi W v j.toNat) (mi_lt oj (by omega)) (mi_lt oi (owq _ oi)) (by rw [hX _ oi, ti]; exact xi) (by rw [hX _ oj, tj]; exact xj)
      rw [hO _ oi, hO _ oj, ti, tj, sOdds_sym, od] at a
      exact absurd a (by decide)
  have Gag : ∀ X b : Int, (∀ p : Nat, owB W v p = true → bt b (mi W v p : Int) = bt X p) → eG W v X → agr W M (mi W v 24) b := by
    intro X b hX hG k j jk km bk bj
    obtain ⟨p, p1, p2, p3⟩ := sur k km
    obtain ⟨q, q1, q2, q3⟩ := sur j (by omega)
    have qp : q < p := by
      by_cases c : q < p
      · exact c
      · have := mi_le (W := W) (v := v) (show p ≤ q by omega)
        omega
    have pw := p2
    unfold owB at pw
    rw [decide_eq_true_eq] at pw
    have a := hG p q (by omega) (by omega) pw.1 pw.2.1 (by rw [← hX p p2, p3]; exact bk) (by rw [← hX q q2, q3]; exact bj)
    have ep := hO p p2
    have eq := hO q q2
    rw [p3] at ep
    rw [q3] at eq
    rw [ep, eq, sOdds_sym]
    exact a
  have cz : cnt R 24 = cnt z 24 := by
    rw [← cb_eq (W := W) (v := v) (X := R) 24 (fun p _ => non p), ← cb_cnt (b := z) 24 (fun p _ => own p)]
    have := cnt_hi hz.1 hz.2 (24 - mi W v 24)
    have e : mi W v 24 + (24 - mi W v 24) = 24 := by omega
    rw [e] at this
    exact this.symm
  refine ⟨hR, agG R z own ag, ?_⟩
  intro Y hY gY
  have bn := bN_e (f := fun k => bt Y (M 22 k)) (mi W v 24) (by omega)
  have yb : ∀ p : Nat, owB W v p = true → bt (bN (fun k => bt Y (M 22 k)) (mi W v 24)) (mi W v p : Int) = bt Y p := by
    intro p ho
    have lt := mi_lt (W := W) (v := v) ho (owq p ho)
    rw [bn.2 (mi W v p), hO p ho]
    have r := bt_rng Y p
    by_cases c : bt Y p = 1
    · rw [if_pos ⟨lt, c⟩, c]
    · rw [if_neg (fun w => c w.2)]; omega
  have aY := Gag Y _ yb gY
  have mn := hmin _ bn.1.1 bn.1.2 aY
  have cy : cnt (bN (fun k => bt Y (M 22 k)) (mi W v 24)) 24 ≤ cnt Y 24 := by
    have := cnt_hi bn.1.1 bn.1.2 (24 - mi W v 24)
    have e : mi W v 24 + (24 - mi W v 24) = 24 := by omega
    rw [e] at this
    rw [this, cb_cnt (W := W) (v := v) (X := Y) 24 (fun p _ => yb p)]
    exact cb_le 24
  by_cases lt : cnt R 24 < cnt Y 24
  · exact Or.inl lt
  · refine Or.inr ⟨by omega, ?_⟩
    have zle : z ≤ bN (fun k => bt Y (M 22 k)) (mi W v 24) := by omega
    rcases hi_dif R Y 24 0 (by omega) with a | ⟨p, _, p1, p2, p3⟩
    · exact hiG_0 hR hY (Or.inl a)
    · have ry := bt_rng Y p
      have rr := bt_rng R p
      by_cases c : bt Y p = 1
      · exact hiG_0 hR hY (Or.inr ⟨p, by omega, p1, c, by omega, p3⟩)
      · exfalso
        have y0 : bt Y p = 0 := by omega
        have r1 : bt R p = 1 := by omega
        have ho : owB W v p = true := by
          by_cases o : owB W v p = true
          · exact o
          · have := non p o; omega
        have lt2 := bt_lt bn.1.1 hz.1 (mi W v p) (by rw [yb p ho]; exact y0) (by rw [own p ho]; exact r1) (fun l hl => by
          by_cases lm : l < mi W v 24
          · obtain ⟨q, q1, q2, q3⟩ := sur l lm
            have pq : p < q := by
              by_cases c : p < q
              · exact c
              · have := mi_le (W := W) (v := v) (show q ≤ p by omega)
                omega
            have e1 := yb q q2
            have e2 := own q q2
            rw [q3] at e1 e2
            rw [e1, e2, p3 q pq q1]
          · rw [bt_hi bn.1.1 bn.1.2 (by omega), bt_hi hz.1 hz.2 (by omega)])
        omega
theorem tc_fewest {ph : Bool} {c : Int} {M : xM} {a : Int} (I : Inv ph c M) (ha : -2147483648 ≤ a ∧ a < 2147483648) : yk (fX11_fewest M a) fun q => yk (fX12_fewest q.2 a) fun z => q.1 = z ∧ Inv ph c q.2 := by
  have iB := I.1.1
  have gb := I.2.1.1
  unfold rB at iB
  unfold gB at gb
  have gP := I.2.1.2.2.2.2.2.2.2.1
  have iP := I.1.2.2.2.2.2.2.1
  unfold fX11_fewest fX4_has
  rw [within_eq (by omega) (by omega) (by omega) (by omega) (by omega) (by omega), iB.2.1]
  by_cases g : 0 ≤ a ∧ a ≤ M 95 5 - 1
  · rw [if_pos (decide_eq_true g), yk_xb2]
    unfold fX5_fewestOf
    rw [yk_xb2]
    have q4 := few4_q (W := M 95) (v := a) I.2.1.1 gP (by omega) (M 95 7).toNat xfuel 0 M (by omega) iP (by omega) (fun q h => by omega) (by unfold xfuel; omega)
    refine yk.mono q4 ?_
    intro q hq
    obtain ⟨q1, q2, q3⟩ := hq
    have m10 : mi (M 95) a 24 ≤ 10 := by
      rw [mi_24 (by omega)]
      have x := mi_own (W := M 95) (v := a) (M 95 7).toNat
      have y := gP.2 a
      omega
    have hK : ∀ k : Nat, k < mi (M 95) a 24 → 0 ≤ q.2 22 k ∧ q.2 22 k < M 95 7 := by
      intro k hk
      obtain ⟨p, p1, p2, p3⟩ := mi_sur 24 k hk
      have e := q3 p p2
      rw [p3] at e
      rw [e]
      unfold owB at p2
      rw [decide_eq_true_eq] at p2
      omega
    have iP2 : rProm q.2 (M 95) := rProm_fr iP I.2.1.1 ⟨q2 _ (by omega), q2 _ (by omega), q2 _ (by omega), q2 _ (by omega), q2 _ (by omega)⟩ rfl (fun _ _ _ => rfl)
    have i72 : q.2 17 0 = M 95 7 := by rw [q2 17 (by omega)]; omega
    obtain ⟨⟨p0, p1⟩, p2, p3⟩ := pow10 (mi (M 95) a 24) (by omega)
    have ag1 : agr (M 95) q.2 (mi (M 95) a 24) ((2 : Int) ^ (mi (M 95) a 24) - 1) := by
      intro k j jk km bk bj
      exfalso
      have key : ∀ m : Nat, m < 11 → ∀ k : Nat, k < m → bt ((2 : Int) ^ m - 1) (k : Int) = 1 := by decide
      have := key _ (by omega) k km
      omega
    rw [yk_xb, q1, p3]
    refine yk.mono (few61_q iP2 gP i72 (by omega) m10 hK xfuel 0 ((2 : Int) ^ (mi (M 95) a 24) - 1) (by omega) (by omega) (by omega) ag1 (Or.inr rfl) (fun b b0 b1 => by omega) (by unfold xfuel; omega)) ?_
    intro z hz
    obtain ⟨z1, z2, z3⟩ := hz
    rw [yk_xb]
    refine yk.mono (few106_q (W := M 95) (by omega) m10 (by omega) hK xfuel 0 0 (by omega) (by omega) ?_ (by unfold xfuel; omega)) ?_
    · intro p pp
      have b0 : bt 0 p = 0 := by unfold bt; rw [Int.zero_ediv]; rfl
      rw [b0]
      constructor
      · intro w; omega
      · rintro ⟨j, w, _⟩; exact absurd w (Nat.not_lt_zero j)
    · intro R hR
      rw [yk_some, yk_some]
      dsimp only
      have e95 := q2 95 (by omega)
      have rB := fewB (M := q.2) (by omega) m10 q3 z1 z2 z3 hR.1 hR.2
      refine yk.mono (fewM_e (M := q.2) (v := a) (by rw [e95]; exact gP) (by rw [e95]; omega) (by rw [e95]; omega)) ?_
      intro w hw
      rw [e95] at hw
      refine ⟨eB_one rB hw, ?_⟩
      refine Inv_scr I (rMemo_fr I.2.2.2.2.1 I.2.1.2.2.2.2.2.2.2.2.2 ⟨q2 _ (by omega), q2 _ (by omega), q2 _ (by omega), q2 _ (by omega), q2 _ (by omega)⟩ (fun k hk => q2 _ (by omega)) (fun _ _ => rfl) (fun _ _ _ => rfl)) (fun o _ _ h22 _ _ _ _ => q2 o h22) ⟨?_, ?_, ?_⟩ ⟨?_, ?_, ?_, ?_, ?_⟩ ?_
      all_goals rw [q2 _ (by omega)]
  · rw [if_neg (by rw [decide_eq_true_eq]; exact g), yk_some]
    dsimp only
    unfold fX12_fewest fX12_isPlot
    rw [isIn_eq (by omega) (by omega) (by omega) (by omega) (by omega) (by omega), if_neg (by rw [decide_eq_true_eq]; exact g), yk_some]
    exact ⟨rfl, I⟩
