/-! leave: sums over sets, and the reference -/
def sBs (f : Nat → Int) (set : Int) : Nat → Int
  | 0 => 0
  | n + 1 => sBs f set n + bt set n * f n
theorem sBs_rng {f : Nat → Int} {B set : Int} (hB : 0 ≤ B) (h : ∀ p, -B ≤ f p ∧ f p ≤ B) (n : Nat) : -B * (n : Int) ≤ sBs f set n ∧ sBs f set n ≤ B * (n : Int) := by
  induction n with
  | zero => exact ⟨by show -B * 0 ≤ 0; omega, by show 0 ≤ B * 0; omega⟩
  | succ n ih =>
    have hn := h n
    have e1 : -B * ((n + 1 : Nat) : Int) = -B * (n : Int) - B := by rw [Int.natCast_succ, Int.mul_add]; omega
    have e2 : B * ((n + 1 : Nat) : Int) = B * (n : Int) + B := by rw [Int.natCast_succ, Int.mul_add]; omega
    show _ ≤ sBs f set n + bt set n * f n ∧ sBs f set n + bt set n * f n ≤ _
    rw [e1, e2]
    rcases bt_rng set n with e | e
    · rw [e, Int.zero_mul]; omega
    · rw [e, Int.one_mul]; omega
theorem sBs_flip {f : Nat → Int} {s s' : Int} {o : Nat} (n : Nat) (h : ∀ p : Nat, p < n → bt s' p = if p = o then 1 - bt s p else bt s p) : sBs f s' n = sBs f s n + if o < n then (1 - 2 * bt s o) * f o else 0 := by
  induction n with
  | zero => rw [if_neg (by omega)]; rfl
  | succ n ih =>
    have ih := ih (fun p hp => h p (by omega))
    show sBs f s' n + bt s' n * f n = sBs f s n + bt s n * f n + _
    rw [ih, h n (by omega)]
    by_cases e : n = o
    · subst e
      rw [if_pos rfl, if_neg (by omega), if_pos (by omega)]
      rcases bt_rng s n with z | z
      · rw [z]; omega
      · rw [z]; omega
    · rw [if_neg e]
      by_cases c : o < n
      · rw [if_pos c, if_pos (by omega)]; omega
      · rw [if_neg c, if_neg (by omega)]; omega
theorem sTw_bs {W : Int → Int} {set i an t : Int} (n : Nat) : sTw W set i an t n = sBs (fun p => sWorth W p (W 2 + i) an t) set n := by
  induction n with
  | zero => rfl
  | succ n ih =>
    show sTw W set i an t n + (if bt set n = 1 then _ else _) = sBs _ set n + bt set n * _
    rw [ih]
    rcases bt_rng set n with e | e
    · rw [e, if_neg (by omega), Int.zero_mul]
    · rw [e, if_pos rfl, Int.one_mul]
theorem sWt_bs {W : Int → Int} {set : Int} (n : Nat) : sWt W set n = sBs (fun p => W (21 + 4 * (p : Int))) set n := by
  induction n with
  | zero => rfl
  | succ n ih => show sWt W set n + bt set n * _ = sBs _ set n + bt set n * _; rw [ih]
def rdn (bj : Nat → Int) : Nat → Int
  | 0 => 0
  | n + 1 => rdn bj n + bj n
theorem rdn_rng {bj : Nat → Int} (h : ∀ j, -1 ≤ bj j ∧ bj j ≤ 1) (n : Nat) : -(n : Int) ≤ rdn bj n ∧ rdn bj n ≤ n := by
  induction n with
  | zero => exact ⟨show -(0 : Int) ≤ 0 by decide, show (0 : Int) ≤ 0 by decide⟩
  | succ n ih =>
    show _ ≤ rdn bj n + bj n ∧ rdn bj n + bj n ≤ _
    have := h n
    omega
def sShr (W : Int → Int) (bj : Nat → Int) (p : Nat) : Nat → Int
  | 0 => W (60 + (p : Int))
  | n + 1 => sShr W bj p n + sWorth W p (W 2 + (n : Int)) ((W 1 + rdn bj (n + 1)) % W 0) (bj n)
theorem sShr_rng {W : Int → Int} {bj : Nat → Int} (g : gPay W) (p : Nat) (hp : p < 10) (n : Nat) : -99999 - 9999 * (n : Int) ≤ sShr W bj p n ∧ sShr W bj p n ≤ 99999 + 9999 * (n : Int) := by
  induction n with
  | zero =>
    have := (g p (by omega) (by omega)).1
    show -99999 - 9999 * 0 ≤ W (60 + (p : Int)) ∧ W (60 + (p : Int)) ≤ 99999 + 9999 * 0
    omega
  | succ n ih =>
    have := sWorth_rng W p (W 2 + (n : Int)) ((W 1 + rdn bj (n + 1)) % W 0) (bj n)
    show _ ≤ sShr W bj p n + _ ∧ sShr W bj p n + _ ≤ _
    omega
def bJ (W : Int → Int) (m : Int) : Nat → Int := fun j => sBj (W 0) (sCt W (sAll W)) true m m.toNat (W 1) j
/-- what an owner gets; held to plots that are there -/
def sGet (W : Int → Int) (m : Int) (p : Nat) : Int := if p < 10 then sShr W (bJ W m) p m.toNat else 0
theorem sGet_rng {W : Int → Int} {m : Int} (g : gPay W) (hm : 1 ≤ m ∧ m ≤ 6) (p : Nat) : -159993 ≤ sGet W m p ∧ sGet W m p ≤ 159993 := by
  unfold sGet
  split
  · rename_i h
    have := sShr_rng (bj := bJ W m) g p h m.toNat
    omega
  · omega
def lvS (W : Int → Int) (m set : Int) : Prop := (1 ≤ set ∧ set ≤ sAll W) ∧ sBs (sGet W m) set (W 5).toNat < sBf (W 0) (sCt W set) (sEn W (sWt W set (W 5).toNat)) m m.toNat (W 1)
def lmin (P : Int → Prop) (X : Int) : Prop := (X = -1 ∧ ∀ s, ¬ P s) ∨ (0 ≤ X ∧ P X ∧ ∀ s, P s → cnt X 24 < cnt s 24 ∨ (cnt X 24 = cnt s 24 ∧ X ≤ s))
theorem lmin_one {P : Int → Prop} {X Y : Int} (h : lmin P X) (k : lmin P Y) : X = Y := by
  rcases h with ⟨a, b⟩ | ⟨a, b, c⟩
  · rcases k with ⟨d, e⟩ | ⟨d, e, f⟩
    · omega
    · exact absurd e (b Y)
  · rcases k with ⟨d, e⟩ | ⟨d, e, f⟩
    · exact absurd b (e X)
    · have p := c Y e
      have q := f X b
      omega
theorem lmin_iff {P Q : Int → Prop} {X : Int} (e : ∀ s, P s ↔ Q s) (h : lmin P X) : lmin Q X := by
  rcases h with ⟨a, b⟩ | ⟨a, b, c⟩
  · exact Or.inl ⟨a, fun s w => b s ((e s).2 w)⟩
  · exact Or.inr ⟨a, (e X).1 b, fun s w => c s ((e s).2 w)⟩
theorem lmin_take {P : Int → Prop} {X s0 : Int} (h : lmin P X) (h0 : 0 ≤ s0) (ha : X = -1 ∨ cnt s0 24 < cnt X 24 ∨ (cnt s0 24 = cnt X 24 ∧ s0 < X)) : lmin (fun s => P s ∨ s = s0) s0 := by
  refine Or.inr ⟨h0, Or.inr rfl, ?_⟩
  intro s hs
  rcases hs with w | w
  · rcases h with ⟨a, b⟩ | ⟨a, b, c⟩
    · exact absurd w (b s)
    · have := c s w
      omega
  · rw [w]; exact Or.inr ⟨rfl, Int.le_refl _⟩
theorem lmin_keep {P : Int → Prop} {X s0 : Int} {Q : Prop} (h : lmin P X) (ha : Q → X ≠ -1 ∧ (cnt X 24 < cnt s0 24 ∨ (cnt X 24 = cnt s0 24 ∧ X ≤ s0))) : lmin (fun s => P s ∨ (s = s0 ∧ Q)) X := by
  rcases h with ⟨a, b⟩ | ⟨a, b, c⟩
  · refine Or.inl ⟨a, fun s w => ?_⟩
    rcases w with w | w
    · exact b s w
    · exact (ha w.2).1 a
  · refine Or.inr ⟨a, Or.inl b, fun s w => ?_⟩
    rcases w with w | w
    · exact c s w
    · rw [w.1]; exact (ha w.2).2
section LM
variable {W : Int → Int} {m : Int} {bj : Nat → Int}
theorem lv55_q {p : Nat} (g : gW W) (hm : 1 ≤ m ∧ m ≤ 6) (hb : ∀ j, -1 ≤ bj j ∧ bj j ≤ 1) (hp : (p : Int) < W 5) (k : Nat) : ∀ (n i : Nat) (M : xM), (i : Int) + k = m → M 95 = W → (∀ j : Nat, (j : Int) < m → M 105 j = bj j) → M 109 p = sShr W bj p i → k < n → yk (fX12_leave_L55 n M m p ((W 1 + rdn bj i) % W 0) i) fun M' => (∀ o, o ≠ 101 → o ≠ 102 → o ≠ 109 → M' o = M o) ∧ (∀ j, j ≠ (p : Int) → M' 109 j = M 109 j) ∧ M' 109 p = sShr W bj p m.toNat := by
  have gb := g.1
  unfold gB at gb
  induction k with
  | zero =>
    intro n i M hi hM h105 h109 hn
    obtain ⟨n, rfl⟩ : ∃ x, n = x + 1 := ⟨n - 1, by omega⟩
    have e : i = m.toNat := by omega
    unfold fX12_leave_L55
    rw [if_neg (by rw [wr_id (by omega) (by omega), wr_id (by omega) (by omega)]; omega), yk_some]
    exact ⟨fun _ _ _ _ => rfl, fun _ _ => rfl, by rw [h109, e]⟩
  | succ k ih =>
    intro n i M hi hM h105 h109 hn
    obtain ⟨n, rfl⟩ : ∃ x, n = x + 1 := ⟨n - 1, by omega⟩
    have b := hb i
    have md := md_rng (a := W 1 + rdn bj i) (n := W 0) (by omega)
    have md2 := md_rng (a := W 1 + rdn bj (i + 1)) (n := W 0) (by omega)
    have em : ((W 1 + rdn bj i) % W 0 + bj i) % W 0 = (W 1 + rdn bj (i + 1)) % W 0 := by
      rw [Int.emod_add_emod]
      show _ = (W 1 + (rdn bj i + bj i)) % W 0
      rw [Int.add_assoc]
    unfold fX12_leave_L55
    rw [if_pos (by rw [wr_id (by omega) (by omega), wr_id (by omega) (by omega)]; omega), xrd_at (by omega) (by omega) (by omega), h105 i (by omega), modulo_eq (by rw [hM]; omega) (by rw [hM]; omega) (by omega) (by omega), hM, em, xb_some, xrd_at (by omega) (by omega) (by omega), h109, xrd_at (by omega) (by omega) (by omega), h105 i (by omega), yk_xb2]
    refine yk.mono (worthOf_e (M := M) (by rw [hM]; exact g) (by rw [hM]; omega) (by omega) (by omega) (by omega)) ?_
    intro q hq
    rw [hM] at hq
    rw [hq.1, xwt_at (by omega) (by omega) (by omega)]
    have ei : (i : Int) + 1 = ((i + 1 : Nat) : Int) := by omega
    rw [ei]
    refine yk.mono (ih n (i + 1) (xup q.2 109 p (sShr W bj p i + sWorth W p (W 2 + (i : Int)) ((W 1 + rdn bj (i + 1)) % W 0) (bj i))) (by omega) (by rw [xup_o (by omega), hq.2 95 (by omega) (by omega)]; exact hM) (fun j hj => by rw [xup_o (by omega), hq.2 105 (by omega) (by omega)]; exact h105 j hj) (by rw [xup_e rfl]; rfl) (by omega)) ?_
    intro M' z
    refine ⟨fun o a b c => by rw [z.1 o a b c, xup_o c, hq.2 o a b], fun j hj => by rw [z.2.1 j hj, xup_n hj, hq.2 109 (by omega) (by omega)], z.2.2⟩
theorem lv20_q (g : gW W) (hm : 1 ≤ m ∧ m ≤ 6) (hb : ∀ j, -1 ≤ bj j ∧ bj j ≤ 1) (k : Nat) : ∀ (n p : Nat) (M : xM), (p : Int) + k = W 5 → M 95 = W → (∀ j : Nat, (j : Int) < m → M 105 j = bj j) → (∀ q : Nat, q < p → M 109 q = sShr W bj q m.toNat) → k < n → yk (fX12_leave_L20 n M m p) fun M' => (∀ o, o ≠ 101 → o ≠ 102 → o ≠ 109 → M' o = M o) ∧ ∀ q : Nat, (q : Int) < W 5 → M' 109 q = sShr W bj q m.toNat := by
  have gb := g.1
  unfold gB at gb
  induction k with
  | zero =>
    intro n p M hp hM h105 h109 hn
    obtain ⟨n, rfl⟩ : ∃ x, n = x + 1 := ⟨n - 1, by omega⟩
    unfold fX12_leave_L20
    rw [hM, if_neg (by rw [wr_id (by omega) (by omega), wr_id (by omega) (by omega)]; omega), yk_some]
    exact ⟨fun _ _ _ _ => rfl, fun q hq => h109 q (by omega)⟩
  | succ k ih =>
    intro n p M hp hM h105 h109 hn
    obtain ⟨n, rfl⟩ : ∃ x, n = x + 1 := ⟨n - 1, by omega⟩
    unfold fX12_leave_L20
    have e95 : xup M 109 p (W (60 + (p : Int))) 95 = W := by rw [xup_o (by omega)]; exact hM
    have e1 : W 1 = (W 1 + rdn bj 0) % W 0 := by
      show W 1 = (W 1 + 0) % W 0
      rw [Int.add_zero, Int.emod_eq_of_lt (by omega) (by omega)]
    rw [hM, if_pos (by rw [wr_id (by omega) (by omega), wr_id (by omega) (by omega)]; omega), xrd_at (by omega) (by omega) (by omega), hM, xwt_at (by omega) (by omega) (by omega), e95, yk_xb]
    have L := lv55_q (W := W) (bj := bj) (p := p) g hm hb (by omega) m.toNat xfuel 0 (xup M 109 p (W (60 + (p : Int)))) (by omega) e95 (fun j hj => by rw [xup_o (by omega)]; exact h105 j hj) (by rw [xup_e rfl]; rfl) (by unfold xfuel; omega)
    rw [← e1] at L
    refine yk.mono L ?_
    intro M' z
    have ep : (p : Int) + 1 = ((p + 1 : Nat) : Int) := by omega
    rw [ep]
    refine yk.mono (ih n (p + 1) M' (by omega) (by rw [z.1 95 (by omega) (by omega) (by omega)]; exact e95) (fun j hj => by rw [z.1 105 (by omega) (by omega) (by omega), xup_o (by omega)]; exact h105 j hj) ?_ (by omega)) ?_
    · intro q hq
      by_cases e : q = p
      · rw [e]; exact z.2.2
      · rw [z.2.1 q (by omega), xup_n (by omega)]
        exact h109 q (by omega)
    · intro M2 y
      exact ⟨fun o a b c => by rw [y.1 o a b c, z.1 o a b c, xup_o c], y.2⟩
theorem lv155_q {M : xM} {v1 v2 set : Int} {f : Nat → Int} (h5 : 0 ≤ M 95 5 ∧ M 95 5 ≤ 10) (hs : 0 ≤ set ∧ set < 2147483648) (hf : ∀ q : Nat, (q : Int) < M 95 5 → M 109 q = f q) (k : Nat) : ∀ (n p : Nat), (p : Int) + k = M 95 5 → k < n → fX12_leave_L155 n M v1 v2 set (sBs f set p) p = some (sBs f set (M 95 5).toNat) := by
  induction k with
  | zero =>
    intro n p hp hn
    obtain ⟨n, rfl⟩ : ∃ x, n = x + 1 := ⟨n - 1, by omega⟩
    have e : p = (M 95 5).toNat := by omega
    unfold fX12_leave_L155
    rw [if_neg (by rw [wr_id (by omega) (by omega), wr_id (by omega) (by omega)]; omega), e]
  | succ k ih =>
    intro n p hp hn
    obtain ⟨n, rfl⟩ : ∃ x, n = x + 1 := ⟨n - 1, by omega⟩
    have nx := ih n (p + 1) (by omega) (by omega)
    have es : sBs f set (p + 1) = sBs f set p + bt set p * f p := rfl
    have ep : (p : Int) + 1 = ((p + 1 : Nat) : Int) := by omega
    have r := bt_rng set p
    unfold fX12_leave_L155
    rw [if_pos (by rw [wr_id (by omega) (by omega), wr_id (by omega) (by omega)]; omega), bit_eq hs.1 hs.2 (by omega) (by omega), wr_id (x := bt set p) (by omega) (by omega), wr_id (x := 1) (by omega) (by omega), ep]
    by_cases c : bt set p = 1
    · rw [if_pos c, xrd_at (by omega) (by omega) (by omega), hf p (by omega)]
      rw [es, c, Int.one_mul] at nx
      exact nx
    · have c0 : bt set p = 0 := by omega
      rw [if_neg c]
      rw [es, c0, Int.zero_mul] at nx
      exact nx
theorem lv122_q (g : gW W) (hm : 1 ≤ m ∧ m ≤ 6) (k : Nat) : ∀ (n : Nat) (M : xM) (X s : Int), 1 ≤ s → s + k = sAll W + 1 → M 95 = W → (∀ q : Nat, (q : Int) < W 5 → M 109 q = sGet W m q) → lmin (fun y => y < s ∧ lvS W m y) X → k < n → yk (fX12_leave_L122 n M m X s) fun q => lmin (lvS W m) q.1 ∧ ∀ o, (o < 101 ∨ 104 < o) → q.2 o = M o := by
  have gb := g.1
  unfold gB at gb
  have ar := sAll_rng (W := W) (by omega)
  induction k with
  | zero =>
    intro n M X s s1 sk hM h109 hX hn
    obtain ⟨n, rfl⟩ : ∃ x, n = x + 1 := ⟨n - 1, by omega⟩
    unfold fX12_leave_L122
    rw [allM_e (by rw [hM]; omega), hM, if_pos (by rw [wr_id (by omega) (by omega), wr_id (by omega) (by omega)]; omega), yk_some]
    exact ⟨lmin_iff (fun y => ⟨fun w => w.2, fun w => ⟨by have := w.1; omega, w⟩⟩) hX, fun _ _ => rfl⟩
  | succ k ih =>
    intro n M X s s1 sk hM h109 hX hn
    obtain ⟨n, rfl⟩ : ∃ x, n = x + 1 := ⟨n - 1, by omega⟩
    have sr := sBs_rng (f := sGet W m) (set := s) (B := 159993) (by omega) (fun p => sGet_rng g.2.2.2.2.2.1 hm p) (W 5).toNat
    have br := sBf_rng (N := W 0) (g := sEn W (sWt W s (W 5).toNat)) (m := m) (sCt_rng g.1 s) m.toNat (W 1)
    have cs := cnt_rng s 24
    have cx := cnt_rng X 24
    have xs : X = -1 ∨ (0 ≤ X ∧ X < s) := by
      rcases hX with ⟨a, _⟩ | ⟨a, b, _⟩
      · exact Or.inl a
      · exact Or.inr ⟨a, b.1⟩
    have nx : ∀ (M' : xM) (Y : Int), (∀ o, (o < 101 ∨ 104 < o) → M' o = M o) → lmin (fun y => (y < s ∧ lvS W m y) ∨ (y = s ∧ lvS W m s)) Y → yk (fX12_leave_L122 n M' m Y (s + 1)) fun q => lmin (lvS W m) q.1 ∧ ∀ o, (o < 101 ∨ 104 < o) → q.2 o = M o := by
      intro M' Y hf hY
      refine yk.mono (ih n M' Y (s + 1) (by omega) (by omega) (by rw [hf 95 (by omega)]; exact hM) (fun q hq => by rw [hf 109 (by omega)]; exact h109 q hq) (lmin_iff (fun y => ?_) hY) (by omega)) ?_
      · constructor
        · rintro (w | w)
          · exact ⟨by omega, w.2⟩
          · rw [w.1]; exact ⟨by omega, w.2⟩
        · rintro ⟨w1, w2⟩
          by_cases e : y = s
          · rw [e] at w2; exact Or.inr ⟨e, w2⟩
          · exact Or.inl ⟨by omega, w2⟩
      · intro q hq
        exact ⟨hq.1, fun o ho => by rw [hq.2 o ho, hf o ho]⟩
    unfold fX12_leave_L122
    rw [allM_e (by rw [hM]; omega), hM, if_neg (by rw [wr_id (by omega) (by omega), wr_id (by omega) (by omega)]; omega), yk_xj]
    have go : (X = -1 ∨ cnt s 24 < cnt X 24) → yk (xb (fX12_leave_L155 xfuel M m X s 0 0) fun y21 => xb2 (fX12_aloneOf M s m) fun r24 M25 => (if wr y21 < wr r24 then fX12_leave_L122 n M25 m s (s + 1) else fX12_leave_L122 n M25 m X (s + 1))) fun q => lmin (lvS W m) q.1 ∧ ∀ o, (o < 101 ∨ 104 < o) → q.2 o = M o := by
      intro ha
      have l155 := lv155_q (M := M) (v1 := m) (v2 := X) (set := s) (f := sGet W m) (by rw [hM]; omega) (by omega) (by rw [hM]; exact h109) (W 5).toNat xfuel 0 (by rw [hM]; omega) (by unfold xfuel; omega)
      rw [hM] at l155
      have e0 : sBs (sGet W m) s 0 = 0 := rfl
      have z0 : ((0 : Nat) : Int) = 0 := rfl
      rw [e0, z0] at l155
      rw [l155, xb_some, yk_xb2]
      refine yk.mono (aloneM_e (M := M) (set := s) (m := m) (by rw [hM]; exact g) (by omega) (by omega)) ?_
      intro q hq
      rw [hM] at hq
      rw [hq.1, wr_id (x := sBs (sGet W m) s (W 5).toNat) (by omega) (by omega), wr_id (x := sBf (W 0) (sCt W s) (sEn W (sWt W s (W 5).toNat)) m m.toNat (W 1)) (by omega) (by omega)]
      by_cases c : sBs (sGet W m) s (W 5).toNat < sBf (W 0) (sCt W s) (sEn W (sWt W s (W 5).toNat)) m m.toNat (W 1)
      · rw [if_pos c]
        have lv : lvS W m s := ⟨by omega, c⟩
        refine nx q.2 s hq.2 (lmin_iff (fun y => ?_) (lmin_take hX (by omega) (by omega)))
        constructor
        · rintro (w | w)
          · exact Or.inl w
          · exact Or.inr ⟨w, lv⟩
        · rintro (w | w)
          · exact Or.inl w
          · exact Or.inr w.1
      · rw [if_neg c]
        exact nx q.2 X hq.2 (lmin_keep hX (fun w => absurd w.2 c))
    by_cases x1 : X = -1
    · rw [if_pos (by rw [x1])]
      exact go (Or.inl x1)
    · rw [if_neg (by rw [wr_id (by omega) (by omega), wr_id (by omega) (by omega)]; exact x1), count_e (by omega), count_e (by omega), xb_some, xb_some, wr_id (x := cnt s 24) (by omega) (by omega), wr_id (x := cnt X 24) (by omega) (by omega)]
      by_cases c : cnt s 24 < cnt X 24
      · rw [if_pos c]
        exact go (Or.inr c)
      · rw [if_neg c]
        exact nx M X (fun _ _ => rfl) (lmin_keep hX (fun _ => ⟨x1, by omega⟩))
theorem leaveM_e {M : xM} (hM : M 95 = W) (g : gW W) (hm : 1 ≤ m ∧ m ≤ 6) : yk (fX12_leave M m) fun q => lmin (lvS W m) q.1 ∧ ∀ o, (o < 101 ∨ 109 < o ∨ o = 108) → q.2 o = M o := by
  have gb := g.1
  unfold gB at gb
  have ar := sAll_rng (W := W) (by omega)
  unfold fX12_leave
  rw [isIn_eq (by omega) (by omega) (by omega) (by omega) (by omega) (by omega), if_pos (decide_eq_true (show 1 ≤ m ∧ m ≤ 6 by omega)), yk_xb2]
  refine yk.mono (laysTurns_e (M := M) (m := m) (by rw [hM]; exact g) (by omega)) ?_
  intro q hq
  rw [hM] at hq
  have w := hq.2.1 95 (by omega)
  rw [yk_xb]
  refine yk.mono (lv20_q (W := W) (bj := bJ W m) g hm (fun j => sBj_rng _ _ _ _ _ _ _) (W 5).toNat xfuel 0 q.2 (by omega) (by rw [w]; exact hM) (fun j hj => hq.2.2 j (by omega)) (fun q h => by omega) (by unfold xfuel; omega)) ?_
  intro M17 z
  rw [yk_xb2]
  refine yk.mono (lv122_q g hm (sAll W).toNat xfuel M17 (-1) 1 (by omega) (by omega) (by rw [z.1 95 (by omega) (by omega) (by omega), w]; exact hM) (fun q hq => ?_) (Or.inl ⟨rfl, fun y w => by have := w.2.1; omega⟩) (by unfold xfuel; omega)) ?_
  · rw [z.2 q hq]
    unfold sGet
    rw [if_pos (by omega)]
  · intro x hx
    rw [yk_some]
    refine ⟨hx.1, fun o ho => ?_⟩
    dsimp only
    rw [hx.2 o (by omega), z.1 o (by omega) (by omega) (by omega), hq.2.1 o (by omega)]
end LM
