/-! fewest: sets of promises, and the reference -/
theorem btn (s : Int) (k : Nat) : bt s (k : Int) = s / 2 ^ k % 2 := rfl
def eG (W : Int → Int) (v X : Int) : Prop := ∀ i j : Int, 0 ≤ j → j < i → i < W 7 → W (370 + 5 * i) = v → bt X i = 0 → bt X j = 0 → sOdds W i j = false
def eC (W : Int → Int) (v gone stay more : Int) : Prop := ∃ X, (0 ≤ X ∧ X < 16777216) ∧ (∀ p, 0 ≤ p → p < 24 → bt gone p = 1 → bt X p = 1) ∧ (∀ p, 0 ≤ p → p < 24 → bt stay p = 1 → bt X p = 0) ∧ cnt X 24 ≤ cnt gone 24 + more ∧ eG W v X
def eB (W : Int → Int) (v X : Int) : Prop := (0 ≤ X ∧ X < 16777216) ∧ eG W v X ∧ ∀ Y, (0 ≤ Y ∧ Y < 16777216) → eG W v Y → cnt X 24 < cnt Y 24 ∨ (cnt X 24 = cnt Y 24 ∧ X ≤ Y)
theorem eB_one {W : Int → Int} {v X Y : Int} (h : eB W v X) (k : eB W v Y) : X = Y := by
  have a := h.2.2 Y k.1 k.2.1
  have b := k.2.2 X h.1 h.2.1
  omega
theorem cnt_mono {X Y : Int} (n : Nat) (h : ∀ p : Nat, p < n → bt X p = 1 → bt Y p = 1) : cnt X n ≤ cnt Y n := by
  induction n with
  | zero => exact Int.le_refl _
  | succ n ih =>
    show cnt X n + bt X n ≤ cnt Y n + bt Y n
    have := ih (fun p hp => h p (by omega))
    have a := bt_rng X n
    have b := bt_rng Y n
    have c := h n (by omega)
    omega
theorem cnt_eq {X Y : Int} (n : Nat) (h : ∀ p : Nat, p < n → bt X p = 1 → bt Y p = 1) (e : cnt Y n ≤ cnt X n) : ∀ p : Nat, p < n → bt X p = bt Y p := by
  induction n with
  | zero => intro p hp; omega
  | succ n ih =>
    have e' : cnt Y n + bt Y n ≤ cnt X n + bt X n := e
    have m := cnt_mono n (fun p hp => h p (by omega))
    have a := bt_rng X n
    have b := bt_rng Y n
    have c := h n (by omega)
    intro p hp
    by_cases q : p = n
    · subst q; omega
    · exact ih (fun p hp => h p (by omega)) (by omega) p (by omega)
theorem cnt_or {s i : Int} (h0 : 0 ≤ s ∧ s < 16777216) (hi : 0 ≤ i ∧ i < 24) (hb : bt s i = 0) : cnt (xor_ s (xshl 1 i)) 24 = cnt s 24 + 1 := by
  have ob := or_bit (s := s) (i := i) (n := 24) (by decide) h0.1 h0.2 hi.1 (by omega)
  have key : ∀ n : Nat, cnt (xor_ s (xshl 1 i)) n = cnt s n + if i < n then 1 else 0 := by
    intro n
    induction n with
    | zero => rw [if_neg (by omega)]; rfl
    | succ n ih =>
      show cnt (xor_ s (xshl 1 i)) n + bt (xor_ s (xshl 1 i)) n = cnt s n + bt s n + _
      rw [ih, ob.2 n (by omega)]
      by_cases e : (n : Int) = i
      · rw [if_pos e, if_neg (by omega), if_pos (by omega), e, hb]
      · rw [if_neg e]
        by_cases c : i < n
        · rw [if_pos c, if_pos (by omega)]; omega
        · rw [if_neg c, if_neg (by omega)]; omega
  rw [key, if_pos (by omega)]
section FM
variable {M : xM} {v : Int}
theorem canB_j {rc : xM → Int → Int → Int → Int → Option Bool} {gone stay more i : Int} (gP : gProm (M 95)) (h7 : (0 ≤ M 95 7 ∧ M 95 7 ≤ 24) ∧ M 95 5 ≤ 10) (hg : 0 ≤ gone ∧ gone < 16777216) (hs : 0 ≤ stay ∧ stay < 16777216) (hi : 0 ≤ i ∧ i < M 95 7) (hm : 0 ≤ more ∧ more ≤ 30) (n : Nat) : ∀ j : Int, 0 ≤ j → j ≤ i → i - j < n → (fX12_canBe_L48 rc n M v gone stay more i j = some (.inl ()) ∧ ∀ j', j ≤ j' → j' < i → bt gone j' = 0 → sOdds (M 95) i j' = false) ∨ ∃ j', j ≤ j' ∧ j' < i ∧ bt gone j' = 0 ∧ sOdds (M 95) i j' = true ∧ fX12_canBe_L48 rc n M v gone stay more i j = (if more = 0 then some (.inr false) else if bt stay i = 0 then (xb (rc M v (xor_ gone (xshl 1 i)) stay (more - 1)) fun r8 => (if r8 = true then some (.inr true) else (if bt stay j' = 0 then (xb (rc M v (xor_ gone (xshl 1 j')) (xor_ stay (xshl 1 i)) (more - 1)) fun r6 => (if r6 = true then some (.inr true) else some (.inr false))) else some (.inr false)))) else (if bt stay j' = 0 then (xb (rc M v (xor_ gone (xshl 1 j')) (xor_ stay (xshl 1 i)) (more - 1)) fun r6 => (if r6 = true then some (.inr true) else some (.inr false))) else some (.inr false))) := by
  induction n with
  | zero => intro j h0 h1 h2; omega
  | succ n ih =>
    intro j h0 h1 h2
    rw [fX12_canBe_L48]
    rw [wr_id (x := j) (by omega) (by omega), wr_id (x := i) (by omega) (by omega)]
    by_cases h : j < i
    · have br := bt_rng gone j
      have nx := ih (j + 1) (by omega) (by omega) (by omega)
      rw [if_pos h, bit_eq hg.1 (by omega) (by omega) (by omega), wr_id (x := bt gone j) (by omega) (by omega), wr_id (x := 1) (by omega) (by omega)]
      have skip : bt gone j = 1 ∨ sOdds (M 95) i j = false → (fX12_canBe_L48 rc n M v gone stay more i (j + 1) = some (.inl ()) ∧ ∀ j', j ≤ j' → j' < i → bt gone j' = 0 → sOdds (M 95) i j' = false) ∨ ∃ j', j ≤ j' ∧ j' < i ∧ bt gone j' = 0 ∧ sOdds (M 95) i j' = true ∧ fX12_canBe_L48 rc n M v gone stay more i (j + 1) = (if more = 0 then some (.inr false) else if bt stay i = 0 then (xb (rc M v (xor_ gone (xshl 1 i)) stay (more - 1)) fun r8 => (if r8 = true then some (.inr true) else (if bt stay j' = 0 then (xb (rc M v (xor_ gone (xshl 1 j')) (xor_ stay (xshl 1 i)) (more - 1)) fun r6 => (if r6 = true then some (.inr true) else some (.inr false))) else some (.inr false)))) else (if bt stay j' = 0 then (xb (rc M v (xor_ gone (xshl 1 j')) (xor_ stay (xshl 1 i)) (more - 1)) fun r6 => (if r6 = true then some (.inr true) else some (.inr false))) else some (.inr false))) := by
        intro hsk
        rcases nx with ⟨a, b⟩ | ⟨j', a, b, c⟩
        · refine Or.inl ⟨a, fun j' p q r => ?_⟩
          by_cases e : j' = j
          · rw [e] at r ⊢
            rcases hsk with w | w
            · omega
            · exact w
          · exact b j' (by omega) q r
        · exact Or.inr ⟨j', by omega, b, c⟩
      by_cases g1 : bt gone j = 1
      · rw [if_pos g1]
        exact skip (Or.inl g1)
      · rw [if_neg g1, odds_e gP h7 hi (by omega) (by omega), xb_some]
        by_cases od : sOdds (M 95) i j = true
        · rw [if_pos od]
          refine Or.inr ⟨j, by omega, h, by omega, od, ?_⟩
          have bi := bt_rng stay i
          have bj := bt_rng stay j
          rw [wr_id (x := more) (by omega) (by omega), bit_eq hs.1 (by omega) (by omega) (by omega), bit_eq hs.1 (by omega) (by omega) (by omega), wr_id (x := bt stay i) (by omega) (by omega), wr_id (x := bt stay j) (by omega) (by omega)]
          rfl
        · rw [if_neg od]
          exact skip (Or.inr (by cases q : sOdds (M 95) i j with
            | false => rfl
            | true => exact absurd q od))
    · rw [if_neg h]
      exact Or.inl ⟨rfl, fun j' a b => by omega⟩
theorem canB_e (gP : gProm (M 95)) (h7 : (0 ≤ M 95 7 ∧ M 95 7 ≤ 24) ∧ M 95 5 ≤ 10) (hv : 0 ≤ v ∧ v < 100) (n : Nat) : ∀ (gone stay more : Int), (0 ≤ gone ∧ gone < 16777216) → (0 ≤ stay ∧ stay < 16777216) → (∀ p, 0 ≤ p → p < 24 → bt gone p = 1 → bt stay p = 0) → 0 ≤ more → more < n → n ≤ 40 → more ≤ 30 → yk (fX12_canBe n M v gone stay more) fun b => b = true ↔ eC (M 95) v gone stay more := by
  induction n with
  | zero => intro gone stay more _ _ _ h0 h1; omega
  | succ n ih =>
    intro gone stay more hg hs hd h0 h1 h40 h30
    have inner : ∀ (m : Nat) (i : Int), 0 ≤ i → i ≤ M 95 7 → M 95 7 - i < m → (∀ a b : Int, 0 ≤ b → b < a → a < i → M 95 (370 + 5 * a) = v → bt gone a = 0 → bt gone b = 0 → sOdds (M 95) a b = false) → yk (fX12_canBe_L3 (fX12_canBe n) m M v gone stay more i) fun x => (x = .inl () ∧ eG (M 95) v gone) ∨ ∃ b, x = .inr b ∧ (b = true ↔ eC (M 95) v gone stay more) := by
      intro m
      induction m with
      | zero => intro i _ _ h; omega
      | succ m ihm =>
        intro i i0 i1 i2 hno
        unfold fX12_canBe_L3
        rw [wr_id (x := i) (by omega) (by omega), wr_id (x := M 95 7) (by omega) (by omega)]
        by_cases h : i < M 95 7
        · have gi := gP.1 i i0 h
          rw [if_pos h, xrd_at (by omega) (by omega) (by omega), wr_id (x := M 95 (370 + 5 * i)) (by omega) (by omega), wr_id (x := v) (by omega) (by omega)]
          have br := bt_rng gone i
          have skip : (∀ b : Int, 0 ≤ b → b < i → M 95 (370 + 5 * i) = v → bt gone i = 0 → bt gone b = 0 → sOdds (M 95) i b = false) → yk (fX12_canBe_L3 (fX12_canBe n) m M v gone stay more (i + 1)) fun x => (x = .inl () ∧ eG (M 95) v gone) ∨ ∃ b, x = .inr b ∧ (b = true ↔ eC (M 95) v gone stay more) := by
            intro hq
            refine ihm (i + 1) (by omega) (by omega) (by omega) ?_
            intro a b b0 ba ai ow ga gb
            by_cases e : a = i
            · rw [e] at ba ow ga ⊢
              exact hq b b0 ba ow ga gb
            · exact hno a b b0 ba (by omega) ow ga gb
          by_cases ow : M 95 (370 + 5 * i) = v
          · rw [if_pos ow, bit_eq hg.1 (by omega) (by omega) (by omega), wr_id (x := bt gone i) (by omega) (by omega), wr_id (x := 1) (by omega) (by omega)]
            by_cases g1 : bt gone i = 1
            · rw [if_pos g1]
              exact skip (fun b _ _ _ g _ => by omega)
            · rw [if_neg g1]
              rcases canB_j (v := v) (rc := fX12_canBe n) gP h7 hg hs ⟨i0, h⟩ ⟨h0, h30⟩ xfuel 0 (by omega) i0 (by unfold xfuel; omega) with ⟨a, b⟩ | ⟨j, j0, j1, j2, j3, j4⟩
              · rw [a]
                exact skip (fun p p0 p1 _ _ g => b p p0 p1 g)
              · rw [j4]
                have hi24 : 0 ≤ i ∧ i < 24 := by omega
                have hj24 : 0 ≤ j ∧ j < 24 := by omega
                -- a set that serves has i or j
                have two : ∀ X, eG (M 95) v X → bt X i = 1 ∨ bt X j = 1 := by
                  intro X hX
                  have a := bt_rng X i
                  have b := bt_rng X j
                  by_cases c : bt X i = 0 ∧ bt X j = 0
                  · have := hX i j j0 j1 h ow c.1 c.2
                    rw [this] at j3
                    exact absurd j3 (by decide)
                  · omega
                have gi0 : bt gone i = 0 := by omega
                by_cases m0 : more = 0
                · rw [if_pos m0]
                  show yk (some (Sum.inr false)) _
                  rw [yk_some]
                  refine Or.inr ⟨false, rfl, ⟨fun w => absurd w (by decide), fun w => ?_⟩⟩
                  obtain ⟨X, x1, x2, x3, x4, x5⟩ := w
                  have eq := cnt_eq 24 (fun p hp => x2 p (by omega) (by omega)) (by omega)
                  have e1 := eq i.toNat (by omega)
                  have e2 := eq j.toNat (by omega)
                  have t1 : ((i.toNat : Nat) : Int) = i := by omega
                  have t2 : ((j.toNat : Nat) : Int) = j := by omega
                  rw [t1] at e1
                  rw [t2] at e2
                  rcases two X x5 with u | u <;> omega
                · rw [if_neg m0]
                  have o1 := or_bit (s := gone) (i := i) (n := 24) (by decide) hg.1 hg.2 i0 (by omega)
                  have o2 := or_bit (s := gone) (i := j) (n := 24) (by decide) hg.1 hg.2 j0 (by omega)
                  have o3 := or_bit (s := stay) (i := i) (n := 24) (by decide) hs.1 hs.2 i0 (by omega)
                  have k1 := cnt_or hg hi24 gi0
                  have k2 := cnt_or hg hj24 j2
                  have p24 : (2 : Int) ^ 24 = 16777216 := by decide
                  rw [p24] at o1 o2 o3
                  have r2 : (bt stay i = 0 → ¬ eC (M 95) v (xor_ gone (xshl 1 i)) stay (more - 1)) → yk (if bt stay j = 0 then (xb (fX12_canBe n M v (xor_ gone (xshl 1 j)) (xor_ stay (xshl 1 i)) (more - 1)) fun r6 => (if r6 = true then some (Sum.inr true) else some (Sum.inr false))) else some (Sum.inr false) : Option (Unit ⊕ Bool)) fun x => ∃ b, x = .inr b ∧ (b = true ↔ eC (M 95) v gone stay more) := by
                    intro hno1
                    have fwd : ∀ X, (0 ≤ X ∧ X < 16777216) → (∀ p, 0 ≤ p → p < 24 → bt gone p = 1 → bt X p = 1) → (∀ p, 0 ≤ p → p < 24 → bt stay p = 1 → bt X p = 0) → cnt X 24 ≤ cnt gone 24 + more → eG (M 95) v X → bt X i = 0 ∧ bt X j = 1 := by
                      intro X x1 x2 x3 x4 x5
                      have ni : bt X i = 0 := by
                        have a := bt_rng X i
                        by_cases c : bt X i = 1
                        · exfalso
                          have si : bt stay i = 0 := by
                            have b := bt_rng stay i
                            by_cases d : bt stay i = 1
                            · have := x3 i i0 (by omega) d; omega
                            · omega
                          refine hno1 si ⟨X, x1, ?_, x3, by omega, x5⟩
                          intro p p0 p1 hp
                          rw [o1.2 p p0] at hp
                          by_cases e : p = i
                          · rw [e]; exact c
                          · rw [if_neg e] at hp; exact x2 p p0 p1 hp
                        · omega
                      rcases two X x5 with u | u
                      · omega
                      · exact ⟨ni, u⟩
                    have bj := bt_rng stay j
                    by_cases sj : bt stay j = 0
                    · rw [if_pos sj, yk_xb]
                      refine yk.mono (ih (xor_ gone (xshl 1 j)) (xor_ stay (xshl 1 i)) (more - 1) o2.1 o3.1 ?_ (by omega) (by omega) (by omega) (by omega)) ?_
                      · intro p p0 p1 hp
                        rw [o2.2 p p0] at hp
                        rw [o3.2 p p0]
                        by_cases e : p = i
                        · rw [e, if_neg (by omega)] at hp; omega
                        · rw [if_neg e]
                          by_cases e2 : p = j
                          · rw [e2]; exact sj
                          · rw [if_neg e2] at hp; exact hd p p0 p1 hp
                      · intro b hb
                        have iff : eC (M 95) v (xor_ gone (xshl 1 j)) (xor_ stay (xshl 1 i)) (more - 1) ↔ eC (M 95) v gone stay more := by
                          constructor
                          · rintro ⟨X, x1, x2, x3, x4, x5⟩
                            refine ⟨X, x1, ?_, ?_, by omega, x5⟩
                            · intro p p0 p1 hp
                              refine x2 p p0 p1 ?_
                              rw [o2.2 p p0, hp]; split <;> rfl
                            · intro p p0 p1 hp
                              refine x3 p p0 p1 ?_
                              rw [o3.2 p p0, hp]; split <;> rfl
                          · rintro ⟨X, x1, x2, x3, x4, x5⟩
                            have f := fwd X x1 x2 x3 x4 x5
                            refine ⟨X, x1, ?_, ?_, by omega, x5⟩
                            · intro p p0 p1 hp
                              rw [o2.2 p p0] at hp
                              by_cases e : p = j
                              · rw [e]; exact f.2
                              · rw [if_neg e] at hp; exact x2 p p0 p1 hp
                            · intro p p0 p1 hp
                              rw [o3.2 p p0] at hp
                              by_cases e : p = i
                              · rw [e]; exact f.1
                              · rw [if_neg e] at hp; exact x3 p p0 p1 hp
                        cases b with
                        | true =>
                          rw [if_pos rfl, yk_some]
                          exact ⟨true, rfl, ⟨fun _ => iff.1 (hb.1 rfl), fun _ => rfl⟩⟩
                        | false =>
                          rw [if_neg (by decide), yk_some]
                          exact ⟨false, rfl, ⟨fun w => absurd w (by decide), fun w => hb.2 (iff.2 w)⟩⟩
                    · rw [if_neg sj, yk_some]
                      refine ⟨false, rfl, ⟨fun w => absurd w (by decide), fun w => ?_⟩⟩
                      obtain ⟨X, x1, x2, x3, x4, x5⟩ := w
                      have f := fwd X x1 x2 x3 x4 x5
                      have := x3 j j0 (by omega) (by omega)
                      omega
                  have out : ∀ o : Option (Unit ⊕ Bool), (yk o fun x => ∃ b, x = .inr b ∧ (b = true ↔ eC (M 95) v gone stay more)) → yk (xs0 o (fX12_canBe_L3 (fX12_canBe n) m M v gone stay more (i + 1)) fun r => some (Sum.inr r)) fun x => (x = .inl () ∧ eG (M 95) v gone) ∨ ∃ b, x = .inr b ∧ (b = true ↔ eC (M 95) v gone stay more) := by
                    intro o ho
                    rw [yk_xs0]
                    refine yk.mono ho ?_
                    rintro x ⟨b, e, hb⟩
                    rw [e]
                    show yk (some (Sum.inr b)) _
                    rw [yk_some]
                    exact Or.inr ⟨b, rfl, hb⟩
                  refine out _ ?_
                  by_cases si : bt stay i = 0
                  · rw [if_pos si, yk_xb]
                    refine yk.mono (ih (xor_ gone (xshl 1 i)) stay (more - 1) o1.1 hs ?_ (by omega) (by omega) (by omega) (by omega)) ?_
                    · intro p p0 p1 hp
                      rw [o1.2 p p0] at hp
                      by_cases e : p = i
                      · rw [e]; exact si
                      · rw [if_neg e] at hp; exact hd p p0 p1 hp
                    · intro b hb
                      cases b with
                      | true =>
                        rw [if_pos rfl, yk_some]
                        obtain ⟨X, x1, x2, x3, x4, x5⟩ := hb.1 rfl
                        refine ⟨true, rfl, ⟨fun _ => ⟨X, x1, ?_, x3, by omega, x5⟩, fun _ => rfl⟩⟩
                        intro p p0 p1 hp
                        refine x2 p p0 p1 ?_
                        rw [o1.2 p p0, hp]; split <;> rfl
                      | false =>
                        rw [if_neg (by decide)]
                        exact r2 (fun _ w => absurd (hb.2 w) (by decide))
                  · rw [if_neg si]
                    exact r2 (fun w => absurd w si)
          · rw [if_neg ow]
            exact skip (fun b _ _ w _ _ => absurd w ow)
        · rw [if_neg h, yk_some]
          refine Or.inl ⟨rfl, ?_⟩
          intro a b b0 ba ai ow ga gb
          exact hno a b b0 ba (by omega) ow ga gb
    unfold fX12_canBe
    rw [yk_xs0]
    refine yk.mono (inner xfuel 0 (by omega) (by omega) (by unfold xfuel; omega) (fun a b _ _ c => by omega)) ?_
    intro x hx
    rcases hx with ⟨e, h⟩ | ⟨b, e, h⟩
    · rw [e]
      show yk (some true) _
      rw [yk_some]
      exact ⟨fun _ => ⟨gone, hg, fun p _ _ w => w, fun p p0 p1 w => by
        have := bt_rng gone p
        by_cases c : bt gone p = 1
        · have := hd p p0 p1 c; omega
        · omega, by omega, h⟩, fun _ => rfl⟩
    · rw [e]
      show yk (some b) _
      rw [yk_some]
      exact h
end FM
