/-! text: the tokens of a tape -/
abbrev Ts : Type := List (Int × Int × Int)
def tBl (c : Int) : Bool := decide (c = 32 ∨ c = 10)
def tLe (c : Int) : Bool := decide ((97 ≤ c ∧ c ≤ 122) ∨ (65 ≤ c ∧ c ≤ 90))
def tDi (c : Int) : Bool := decide (48 ≤ c ∧ c ≤ 57)
def scN (P : Int → Bool) (T : Int → Int) (L : Int) : Nat → Int → Int
  | 0, i => i
  | n + 1, i => if i < L ∧ P (T i) = true then scN P T L n (i + 1) else i
def sc (P : Int → Bool) (T : Int → Int) (L i : Int) : Int := scN P T L (L - i).toNat i
theorem sc_step {P : Int → Bool} {T : Int → Int} {L i : Int} (h : i < L) (hp : P (T i) = true) : sc P T L i = sc P T L (i + 1) := by
  unfold sc
  have e : (L - i).toNat = (L - (i + 1)).toNat + 1 := by omega
  rw [e]
  show (if _ then _ else _) = _
  rw [if_pos ⟨h, hp⟩]
theorem sc_stop {P : Int → Bool} {T : Int → Int} {L i : Int} (h : ¬ (i < L ∧ P (T i) = true)) : sc P T L i = i := by
  unfold sc
  cases (L - i).toNat with
  | zero => rfl
  | succ n =>
    show (if _ then _ else _) = _
    rw [if_neg h]
theorem sc_all {P : Int → Bool} {T : Int → Int} {L : Int} (n : Nat) : ∀ i, i ≤ L → L - i < n → (i ≤ sc P T L i ∧ sc P T L i ≤ L) ∧ ¬ (sc P T L i < L ∧ P (T (sc P T L i)) = true) := by
  induction n with
  | zero => intro i h1 h2; omega
  | succ n ih =>
    intro i h1 h2
    by_cases h : i < L ∧ P (T i) = true
    · rw [sc_step h.1 h.2]
      have := ih (i + 1) (by omega) (by omega)
      exact ⟨⟨by omega, this.1.2⟩, this.2⟩
    · rw [sc_stop h]
      exact ⟨⟨by omega, h1⟩, h⟩
theorem sc_rng {P : Int → Bool} {T : Int → Int} {L i : Int} (h : i ≤ L) : i ≤ sc P T L i ∧ sc P T L i ≤ L := (sc_all ((L - i).toNat + 1) i h (by omega)).1
theorem sc_end {P : Int → Bool} {T : Int → Int} {L i : Int} (h : i ≤ L) : ¬ (sc P T L i < L ∧ P (T (sc P T L i)) = true) := (sc_all ((L - i).toNat + 1) i h (by omega)).2
theorem sc_gt {P : Int → Bool} {T : Int → Int} {L i : Int} (h : i < L) (hp : P (T i) = true) : i + 1 ≤ sc P T L i ∧ sc P T L i ≤ L := by
  rw [sc_step h hp]
  exact sc_rng (by omega)
def nvN (T : Int → Int) (L j : Int) : Nat → Int → Int → Int
  | 0, _, v => v
  | n + 1, i, v => if i < L ∧ tDi (T i) = true then nvN T L j n (i + 1) (if i < j + 4 then v * 10 + (T i - 48) else v) else v
def nvi (T : Int → Int) (L j i v : Int) : Int := nvN T L j (L - i).toNat i v
theorem nvi_step {T : Int → Int} {L j i v : Int} (h : i < L) (hp : tDi (T i) = true) : nvi T L j i v = nvi T L j (i + 1) (if i < j + 4 then v * 10 + (T i - 48) else v) := by
  unfold nvi
  have e : (L - i).toNat = (L - (i + 1)).toNat + 1 := by omega
  rw [e]
  show (if _ then _ else _) = _
  rw [if_pos ⟨h, hp⟩]
theorem nvi_stop {T : Int → Int} {L j i v : Int} (h : ¬ (i < L ∧ tDi (T i) = true)) : nvi T L j i v = v := by
  unfold nvi
  cases (L - i).toNat with
  | zero => rfl
  | succ n =>
    show (if _ then _ else _) = _
    rw [if_neg h]
theorem nvi_all {T : Int → Int} {L j : Int} (n : Nat) : ∀ i v, j ≤ i → i ≤ L → L - i < n → 0 ≤ v → ((i = j → v ≤ 0) ∧ (i = j + 1 → v ≤ 9) ∧ (i = j + 2 → v ≤ 99) ∧ (i = j + 3 → v ≤ 999) ∧ v ≤ 9999) → 0 ≤ nvi T L j i v ∧ nvi T L j i v ≤ 9999 := by
  induction n with
  | zero => intro i v h0 h1 h2; omega
  | succ n ih =>
    intro i v h0 h1 h2 h3 h4
    by_cases h : i < L ∧ tDi (T i) = true
    · rw [nvi_step h.1 h.2]
      have hd := h.2
      unfold tDi at hd
      rw [decide_eq_true_eq] at hd
      by_cases c : i < j + 4
      · rw [if_pos c]
        exact ih _ _ (by omega) (by omega) (by omega) (by omega) (by omega)
      · rw [if_neg c]
        exact ih _ _ (by omega) (by omega) (by omega) (by omega) (by omega)
    · rw [nvi_stop h]
      exact ⟨h3, by omega⟩
def tx (T : Int → Int) : Nat → Int → List Int
  | 0, _ => []
  | n + 1, i => T i :: tx T n (i + 1)
theorem tx_len {T : Int → Int} (n : Nat) : ∀ i, (tx T n i).length = n := by
  induction n with
  | zero => intro i; rfl
  | succ n ih => intro i; show (tx T n (i + 1)).length + 1 = n + 1; rw [ih]
def kwl (l : List Int) : Int :=
  if l = [97, 110, 103, 108, 101] then 0 else if l = [115, 117, 110] then 1 else if l = [119, 105, 110, 100] then 2 else if l = [99, 117, 114, 114, 101, 110, 116] then 3 else if l = [109, 111, 110, 116, 104] then 4 else if l = [100, 97, 121] then 5 else if l = [116, 117, 114, 110, 101, 100] then 6 else if l = [119, 111, 114, 116, 104] then 7 else if l = [119, 104, 101, 110] then 8 else if l = [111, 114] then 9 else if l = [97, 110, 100] then 10 else if l = [110, 111, 116] then 11 else 24
theorem kwl_rng (l : List Int) : 0 ≤ kwl l ∧ (kwl l ≤ 11 ∨ kwl l = 24) := by
  unfold kwl
  repeat' split
  all_goals omega
def sgk (c : Int) : Int :=
  if c = 59 then 13 else if c = 43 then 14 else if c = 45 then 15 else if c = 42 then 16 else if c = 47 then 17 else if c = 40 then 18 else if c = 41 then 19 else if c = 60 then 20 else if c = 61 then 21 else if c = 62 then 22 else 24
theorem sgk_rng (c : Int) : 13 ≤ sgk c ∧ (sgk c ≤ 22 ∨ sgk c = 24) := by
  unfold sgk
  repeat' split
  all_goals omega
def lx (T : Int → Int) (L : Int) : Nat → Int → Int → Ts
  | 0, _, _ => []
  | n + 1, i, v =>
    if L ≤ sc tBl T L i then [(23, L, v)]
    else if tLe (T (sc tBl T L i)) = true then (kwl (tx T (sc tLe T L (sc tBl T L i) - sc tBl T L i).toNat (sc tBl T L i)), sc tBl T L i, v) :: lx T L n (sc tLe T L (sc tBl T L i)) v
    else if tDi (T (sc tBl T L i)) = true then ((if sc tDi T L (sc tBl T L i) - sc tBl T L i < 5 then 12 else 24), sc tBl T L i, nvi T L (sc tBl T L i) (sc tBl T L i) 0) :: lx T L n (sc tDi T L (sc tBl T L i)) (nvi T L (sc tBl T L i) (sc tBl T L i) 0)
    else (sgk (T (sc tBl T L i)), sc tBl T L i, v) :: lx T L n (sc tBl T L i + 1) v
theorem lx_blank {T : Int → Int} {L i v : Int} {n : Nat} (h : i < L) (hp : tBl (T i) = true) : lx T L (n + 1) i v = lx T L (n + 1) (i + 1) v := by
  unfold lx
  rw [sc_step h hp]
theorem lx_end {T : Int → Int} {L v : Int} {n : Nat} : lx T L (n + 1) L v = [(23, L, v)] := by
  unfold lx
  rw [sc_stop (by omega), if_pos (by omega)]
theorem lx_word {T : Int → Int} {L i v : Int} {n : Nat} (h : i < L) (hb : tBl (T i) = false) (hl : tLe (T i) = true) : lx T L (n + 1) i v = (kwl (tx T (sc tLe T L i - i).toNat i), i, v) :: lx T L n (sc tLe T L i) v := by
  rw [lx]
  rw [sc_stop (P := tBl) (i := i) (fun w => by rw [hb] at w; exact absurd w.2 (by decide)), if_neg (by omega), if_pos hl]
theorem lx_num {T : Int → Int} {L i v : Int} {n : Nat} (h : i < L) (hb : tBl (T i) = false) (hl : tLe (T i) = false) (hd : tDi (T i) = true) : lx T L (n + 1) i v = ((if sc tDi T L i - i < 5 then 12 else 24), i, nvi T L i i 0) :: lx T L n (sc tDi T L i) (nvi T L i i 0) := by
  rw [lx]
  rw [sc_stop (P := tBl) (i := i) (fun w => by rw [hb] at w; exact absurd w.2 (by decide)), if_neg (by omega), if_neg (by rw [hl]; decide), if_pos hd]
theorem lx_sign {T : Int → Int} {L i v : Int} {n : Nat} (h : i < L) (hb : tBl (T i) = false) (hl : tLe (T i) = false) (hd : tDi (T i) = false) : lx T L (n + 1) i v = (sgk (T i), i, v) :: lx T L n (i + 1) v := by
  rw [lx]
  rw [sc_stop (P := tBl) (i := i) (fun w => by rw [hb] at w; exact absurd w.2 (by decide)), if_neg (by omega), if_neg (by rw [hl]; decide), if_neg (by rw [hd]; decide)]
theorem lx_sc {T : Int → Int} {L v : Int} {n : Nat} (m : Nat) : ∀ i, i ≤ L → L - i < m → lx T L (n + 1) i v = lx T L (n + 1) (sc tBl T L i) v := by
  induction m with
  | zero => intro i h1 h2; omega
  | succ m ih =>
    intro i h1 h2
    by_cases h : i < L ∧ tBl (T i) = true
    · rw [lx_blank h.1 h.2, sc_step h.1 h.2]
      exact ih _ (by omega) (by omega)
    · rw [sc_stop h]
def okT : Ts → Prop
  | [] => False
  | t :: r => ((0 ≤ t.1 ∧ t.1 ≤ 24) ∧ (0 ≤ t.2.1 ∧ t.2.1 ≤ 400) ∧ (t.1 = 12 → 0 ≤ t.2.2 ∧ t.2.2 ≤ 9999)) ∧ ((t.1 = 23 ∧ r = []) ∨ (t.1 ≠ 23 ∧ okT r))
theorem okT_cons {t : Int × Int × Int} {r : Ts} (h1 : (0 ≤ t.1 ∧ t.1 ≤ 24) ∧ (0 ≤ t.2.1 ∧ t.2.1 ≤ 400) ∧ (t.1 = 12 → 0 ≤ t.2.2 ∧ t.2.2 ≤ 9999)) (h2 : t.1 ≠ 23) (h3 : okT r) : okT (t :: r) := ⟨h1, Or.inr ⟨h2, h3⟩⟩
theorem lx_ok {T : Int → Int} {L : Int} (hL : L ≤ 400) (n : Nat) : ∀ i v, 0 ≤ i → i ≤ L → L - i < n → okT (lx T L n i v) ∧ ((lx T L n i v).length : Int) ≤ L - i + 1 := by
  induction n with
  | zero => intro i v h0 h1 h2; omega
  | succ n ih =>
    intro i v h0 h1 h2
    have s := sc_rng (P := tBl) (T := T) (L := L) h1
    have e := sc_end (P := tBl) (T := T) (L := L) h1
    rw [lx_sc ((L - i).toNat + 1) i h1 (by omega)]
    generalize sc tBl T L i = j at s e ⊢
    by_cases hj : j = L
    · subst hj
      rw [lx_end]
      refine ⟨⟨⟨by dsimp only; omega, by dsimp only; omega, fun w => by dsimp only at w; omega⟩, Or.inl ⟨rfl, rfl⟩⟩, ?_⟩
      show ((0 + 1 : Nat) : Int) ≤ _
      omega
    · have hj2 : j < L := by omega
      have hb : tBl (T j) = false := by
        cases h : tBl (T j) with
        | false => rfl
        | true => exact absurd ⟨hj2, h⟩ e
      cases hl : tLe (T j) with
      | true =>
        rw [lx_word hj2 hb hl]
        have g := sc_gt (P := tLe) hj2 hl
        have q := ih (sc tLe T L j) v (by omega) (by omega) (by omega)
        have k := kwl_rng (tx T (sc tLe T L j - j).toNat j)
        refine ⟨okT_cons ⟨by dsimp only; omega, by dsimp only; omega, fun w => by dsimp only at w; omega⟩ (by dsimp only; omega) q.1, ?_⟩
        rw [List.length_cons]
        omega
      | false =>
        cases hd : tDi (T j) with
        | true =>
          rw [lx_num hj2 hb hl hd]
          have g := sc_gt (P := tDi) hj2 hd
          have q := ih (sc tDi T L j) (nvi T L j j 0) (by omega) (by omega) (by omega)
          have k := nvi_all (T := T) (L := L) (j := j) ((L - j).toNat + 1) j 0 (by omega) (by omega) (by omega) (by omega) (by omega)
          refine ⟨okT_cons ⟨by dsimp only; split <;> omega, by dsimp only; omega, fun w => by dsimp only; omega⟩ (by dsimp only; split <;> omega) q.1, ?_⟩
          rw [List.length_cons]
          omega
        | false =>
          rw [lx_sign hj2 hb hl hd]
          have q := ih (j + 1) v (by omega) (by omega) (by omega)
          have k := sgk_rng (T j)
          refine ⟨okT_cons ⟨by dsimp only; omega, by dsimp only; omega, fun w => by dsimp only at w; omega⟩ (by dsimp only; omega) q.1, ?_⟩
          rw [List.length_cons]
          omega
