/-! text: the reference's tokens -/
def tk (k : Int) : Int :=
  if k = 23 then 0 else if k = 24 then 1 else if k = 12 then 2 else if k = 8 then 3 else if k = 9 then 4 else if k = 10 then 5 else if k = 11 then 6 else if k = 7 then 20 else if k < 7 then 41 + k else if k = 13 then 159 else if k = 14 then 143 else if k = 15 then 145 else if k = 16 then 142 else if k = 17 then 147 else if k = 18 then 140 else if k = 19 then 141 else if k = 20 then 160 else if k = 21 then 161 else 162
theorem leM {c : Int} (h : -1 ≤ c ∧ c ≤ 255) : fX12_isLetter c = tLe c := by
  unfold fX12_isLetter tLe
  rw [isIn_eq (by omega) (by omega) (by omega) (by omega) (by omega) (by omega), isIn_eq (by omega) (by omega) (by omega) (by omega) (by omega) (by omega)]
  rw [Bool.eq_iff_iff]
  simp only [decide_eq_true_eq]
  repeat' split
  all_goals (simp only [Bool.false_eq_true, false_iff, true_iff, eq_self]; omega)
theorem diM {c : Int} (h : -1 ≤ c ∧ c ≤ 255) : fX12_isDigit c = tDi c := by
  unfold fX12_isDigit tDi
  rw [isIn_eq (by omega) (by omega) (by omega) (by omega) (by omega) (by omega)]
def tO (M : xM) : Prop := (0 ≤ M 94 12 ∧ M 94 12 ≤ 400) ∧ ∀ i, 0 ≤ i → i < M 94 12 → 0 ≤ M 100 i ∧ M 100 i ≤ 255
def sY (T : Int → Int) (L i : Int) : Int := if i < L then T i else -1
theorem see_e {M : xM} {T : Int → Int} {L i : Int} (hT : M 100 = T) (h12 : M 94 12 = L) (hL : 0 ≤ L ∧ L ≤ 400) (h0 : 0 ≤ i) (h1 : i ≤ L) : fX12_see M i = some (sY T L i) := by
  unfold fX12_see sY
  rw [h12, wr_id (x := i) (by omega) (by omega), wr_id (x := L) (by omega) (by omega)]
  by_cases h : i < L
  · rw [if_pos h, if_pos h, xrd_at h0 (by omega) (by omega), hT]
  · rw [if_neg h, if_neg h]
theorem sY_rng {T : Int → Int} {L i : Int} (hB : ∀ i, 0 ≤ i → i < L → 0 ≤ T i ∧ T i ≤ 255) (h0 : 0 ≤ i) : -1 ≤ sY T L i ∧ sY T L i ≤ 255 := by
  unfold sY
  split
  · rename_i h
    have := hB i h0 h
    omega
  · omega
theorem sY_p {P : Int → Bool} {T : Int → Int} {L i : Int} (hP : P (-1) = false) : P (sY T L i) = true ↔ i < L ∧ P (T i) = true := by
  unfold sY
  by_cases h : i < L
  · rw [if_pos h]; exact ⟨fun w => ⟨h, w⟩, fun w => w.2⟩
  · rw [if_neg h, hP]; exact ⟨fun w => absurd w (by decide), fun w => absurd w.1 h⟩
theorem nx0_q {T : Int → Int} {L : Int} (hL : 0 ≤ L ∧ L ≤ 400) (hB : ∀ i, 0 ≤ i → i < L → 0 ≤ T i ∧ T i ≤ 255) (n : Nat) : ∀ (M : xM) (i : Int), M 100 = T → M 94 12 = L → M 94 13 = i → 0 ≤ i → i ≤ L → L - i < n → yk (fX12_next0_L0 n M) fun M' => (∀ o, o ≠ 94 → M' o = M o) ∧ (∀ j, j ≠ 13 → M' 94 j = M 94 j) ∧ M' 94 13 = sc tBl T L i := by
  induction n with
  | zero => intro M i _ _ _ _ _ h; omega
  | succ n ih =>
    intro M i hT h12 h13 i0 i1 hn
    have sr := sY_rng (T := T) (L := L) hB i0
    unfold fX12_next0_L0
    rw [h13, see_e hT h12 hL i0 i1, xb_some, yk_xj, xb_some, wr_id (x := sY T L i) (by omega) (by omega), wr_id (x := 32) (by omega) (by omega), wr_id (x := 10) (by omega) (by omega)]
    have go : tBl (sY T L i) = true → yk (xlet (xup M 94 13 (i + 1)) fun M4 => fX12_next0_L0 n M4) fun M' => (∀ o, o ≠ 94 → M' o = M o) ∧ (∀ j, j ≠ 13 → M' 94 j = M 94 j) ∧ M' 94 13 = sc tBl T L i := by
      intro hb
      have h := (sY_p (by decide)).1 hb
      rw [yk_xlet, sc_step h.1 h.2]
      refine yk.mono (ih (xup M 94 13 (i + 1)) (i + 1) (by rw [xup_o (by omega)]; exact hT) (by rw [xup_n (by omega)]; exact h12) (xup_e rfl) (by omega) (by omega) (by omega)) ?_
      intro M' q
      exact ⟨fun o ho => by rw [q.1 o ho, xup_o ho], fun j hj => by rw [q.2.1 j hj, xup_n hj], q.2.2⟩
    by_cases h32 : sY T L i = 32
    · rw [if_pos h32]
      exact go (by unfold tBl; rw [decide_eq_true_eq]; exact Or.inl h32)
    · rw [if_neg h32]
      by_cases h10 : sY T L i = 10
      · rw [if_pos h10]
        exact go (by unfold tBl; rw [decide_eq_true_eq]; exact Or.inr h10)
      · rw [if_neg h10, yk_some, sc_stop]
        · exact ⟨fun _ _ => rfl, fun _ _ => rfl, h13⟩
        · intro w
          have := (sY_p (P := tBl) (by decide)).2 w
          unfold tBl at this
          rw [decide_eq_true_eq] at this
          omega
theorem nx76_q {T : Int → Int} {L : Int} (hL : 0 ≤ L ∧ L ≤ 400) (hB : ∀ i, 0 ≤ i → i < L → 0 ≤ T i ∧ T i ≤ 255) (n : Nat) : ∀ (M : xM) (i : Int), M 100 = T → M 94 12 = L → M 94 13 = i → 0 ≤ i → i ≤ L → L - i < n → yk (fX12_next0_L76 n M) fun M' => (∀ o, o ≠ 94 → M' o = M o) ∧ (∀ j, j ≠ 13 → M' 94 j = M 94 j) ∧ M' 94 13 = sc tLe T L i := by
  induction n with
  | zero => intro M i _ _ _ _ _ h; omega
  | succ n ih =>
    intro M i hT h12 h13 i0 i1 hn
    have sr := sY_rng (T := T) (L := L) hB i0
    unfold fX12_next0_L76
    rw [h13, see_e hT h12 hL i0 i1, xb_some, leM (by omega)]
    by_cases hb : tLe (sY T L i) = true
    · have h := (sY_p (by decide)).1 hb
      rw [if_pos hb, yk_xlet, sc_step h.1 h.2]
      refine yk.mono (ih (xup M 94 13 (i + 1)) (i + 1) (by rw [xup_o (by omega)]; exact hT) (by rw [xup_n (by omega)]; exact h12) (xup_e rfl) (by omega) (by omega) (by omega)) ?_
      intro M' q
      exact ⟨fun o ho => by rw [q.1 o ho, xup_o ho], fun j hj => by rw [q.2.1 j hj, xup_n hj], q.2.2⟩
    · rw [if_neg hb, yk_some, sc_stop (fun w => hb ((sY_p (by decide)).2 w))]
      exact ⟨fun _ _ => rfl, fun _ _ => rfl, h13⟩
theorem nx126_q {T : Int → Int} {L j : Int} (hL : 0 ≤ L ∧ L ≤ 400) (hj : 0 ≤ j) (hB : ∀ i, 0 ≤ i → i < L → 0 ≤ T i ∧ T i ≤ 255) (n : Nat) : ∀ (M : xM) (i v : Int), M 100 = T → M 94 12 = L → M 94 13 = i → M 94 15 = j → M 94 16 = v → j ≤ i → i ≤ L → L - i < n → yk (fX12_next0_L126 n M) fun M' => (∀ o, o ≠ 94 → M' o = M o) ∧ (∀ j, j ≠ 13 → j ≠ 16 → M' 94 j = M 94 j) ∧ M' 94 13 = sc tDi T L i ∧ M' 94 16 = nvi T L j i v := by
  induction n with
  | zero => intro M i v _ _ _ _ _ _ _ h; omega
  | succ n ih =>
    intro M i v hT h12 h13 h15 h16 i0 i1 hn
    have sr := sY_rng (T := T) (L := L) (i := i) hB (by omega)
    unfold fX12_next0_L126
    rw [h13, h15, see_e hT h12 hL (by omega) i1, xb_some, diM (by omega)]
    by_cases hb : tDi (sY T L i) = true
    · have h := (sY_p (by decide)).1 hb
      have es : sY T L i = T i := by unfold sY; rw [if_pos h.1]
      rw [if_pos hb, yk_xj, xb_some, wr_id (x := i) (by omega) (by omega), wr_id (x := j + 4) (by omega) (by omega), sc_step h.1 h.2, nvi_step h.1 h.2, es]
      by_cases c : i < j + 4
      · rw [if_pos c, if_pos c, h16, yk_xlet, yk_xlet]
        have e10 : 10 * v + T i - 48 = v * 10 + (T i - 48) := by omega
        have e13 : xup M 94 16 (10 * v + T i - 48) 94 13 = i := by rw [xup_n (by omega)]; exact h13
        rw [e13, e10]
        refine yk.mono (ih _ (i + 1) (v * 10 + (T i - 48)) (by rw [xup_o (by omega), xup_o (by omega)]; exact hT) (by rw [xup_n (by omega), xup_n (by omega)]; exact h12) (xup_e rfl) (by rw [xup_n (by omega), xup_n (by omega)]; exact h15) (by rw [xup_n (by omega), xup_e rfl]) (by omega) (by omega) (by omega)) ?_
        intro M' q
        exact ⟨fun o ho => by rw [q.1 o ho, xup_o ho, xup_o ho], fun j a b => by rw [q.2.1 j a b, xup_n a, xup_n b], q.2.2⟩
      · rw [if_neg c, if_neg c, yk_xlet, h13]
        refine yk.mono (ih _ (i + 1) v (by rw [xup_o (by omega)]; exact hT) (by rw [xup_n (by omega)]; exact h12) (xup_e rfl) (by rw [xup_n (by omega)]; exact h15) (by rw [xup_n (by omega)]; exact h16) (by omega) (by omega) (by omega)) ?_
        intro M' q
        exact ⟨fun o ho => by rw [q.1 o ho, xup_o ho], fun j a b => by rw [q.2.1 j a b, xup_n a], q.2.2⟩
    · have nh : ¬ (i < L ∧ tDi (T i) = true) := fun w => hb ((sY_p (by decide)).2 w)
      rw [if_neg hb, yk_some, sc_stop nh, nvi_stop nh]
      exact ⟨fun _ _ => rfl, fun _ _ _ => rfl, h13, h16⟩
theorem is0_q {M : xM} {k : Nat} {v3 : Int} (n : Nat) : fX12_is_L24 (n + 1) M k 0 v3 = some 0 := by
  unfold fX12_is_L24
  rw [if_pos wr_0]
  split <;> rfl
theorem is_q {M : xM} {T : Int → Int} {j ln : Int} {k : Nat} (hT : M 100 = T) (h15 : M 94 15 = j) (hj : 0 ≤ j) (hl : fJ0_length_8abf5 k = ln) (hl2 : ln ≤ 20) (hB : ∀ i, j ≤ i → i < j + ln → 0 ≤ T i ∧ T i ≤ 255) (h400 : j + ln ≤ 400) (w : List Int) : ∀ (n : Nat) (v3 : Int), 0 ≤ v3 → v3 + w.length = ln → (∀ t : Nat, t < w.length → fJ0_charAt_5068e k (v3 + t) = some (w.getD t 0) ∧ 0 ≤ w.getD t 0 ∧ w.getD t 0 ≤ 255) → w.length < n → fX12_is_L24 n M k 1 v3 = some (if tx T w.length (j + v3) = w then 1 else 0) := by
  induction w with
  | nil =>
    intro n v3 h0 h1 h2 h3
    obtain ⟨n, rfl⟩ : ∃ m, n = m + 1 := ⟨n - 1, by omega⟩
    rw [List.length_nil] at h1
    unfold fX12_is_L24
    rw [hl, if_neg (by rw [wr_id (by omega) (by omega), wr_id (by omega) (by omega)]; omega)]
    show some (1 : Int) = some (if ([] : List Int) = [] then _ else _)
    rw [if_pos rfl]
  | cons c w ih =>
    intro n v3 h0 h1 h2 h3
    obtain ⟨n, rfl⟩ : ∃ m, n = m + 2 := ⟨n - 2, by rw [List.length_cons] at h3; omega⟩
    rw [List.length_cons] at h1 h3
    have c0 := h2 0 (by rw [List.length_cons]; omega)
    have e0 : v3 + ((0 : Nat) : Int) = v3 := by omega
    rw [e0] at c0
    have cc : (c :: w).getD 0 0 = c := rfl
    rw [cc] at c0
    have t := hB (j + v3) (by omega) (by omega)
    rw [fX12_is_L24]
    rw [hl, if_pos (by rw [wr_id (by omega) (by omega), wr_id (by omega) (by omega)]; omega), if_neg (by decide), h15, xrd_at (by omega) (by omega) (by omega), c0.1, xb_some, hT, wr_id (x := T (j + v3)) (by omega) (by omega), wr_id (x := c) (by omega) (by omega), List.length_cons]
    have e1 : j + (v3 + 1) = j + v3 + 1 := by omega
    have nx := ih (n + 1) (v3 + 1) (by omega) (by omega) (fun t ht => by
      have q := h2 (t + 1) (by rw [List.length_cons]; omega)
      have e2 : v3 + ((t + 1 : Nat) : Int) = v3 + 1 + (t : Int) := by omega
      rw [e2] at q
      exact q) (by omega)
    rw [e1] at nx
    show _ = some (if T (j + v3) :: tx T w.length (j + v3 + 1) = c :: w then _ else _)
    by_cases q : T (j + v3) = c
    · rw [if_pos q, nx]
      by_cases q2 : tx T w.length (j + v3 + 1) = w
      · rw [if_pos q2, if_pos (by rw [q, q2])]
      · rw [if_neg q2, if_neg (fun u => q2 (List.cons.inj u).2)]
    · rw [if_neg q, is0_q, if_neg (fun u => q (List.cons.inj u).1)]
theorem is_e {M : xM} {T : Int → Int} {L j e : Int} (k : Nat) (w : List Int) (hT : M 100 = T) (h15 : M 94 15 = j) (h13 : M 94 13 = e) (hj : 0 ≤ j) (he : j ≤ e) (he2 : e ≤ L) (hL : L ≤ 400) (hB : ∀ i, 0 ≤ i → i < L → 0 ≤ T i ∧ T i ≤ 255) (hl : fJ0_length_8abf5 k = w.length) (hl2 : w.length ≤ 20) (hw : ∀ t : Nat, t < w.length → fJ0_charAt_5068e k (t : Int) = some (w.getD t 0) ∧ 0 ≤ w.getD t 0 ∧ w.getD t 0 ≤ 255) : fX12_is M k = some (decide (tx T (e - j).toNat j = w)) := by
  unfold fX12_is
  rw [xj, h13, h15, hl, wr_id (x := e - j) (by omega) (by omega), wr_id (x := (w.length : Int)) (by omega) (by omega)]
  have e0 : j + (0 : Int) = j := by omega
  by_cases h : e - j = w.length
  · have el : (e - j).toNat = w.length := by omega
    rw [if_pos h]
    dsimp only
    rw [is_q (T := T) (ln := w.length) hT h15 hj hl (by omega) (fun i a b => hB i (by omega) (by omega)) (by omega) w xfuel 0 (by omega) (by omega) (fun t ht => by rw [Int.zero_add]; exact hw t ht) (by unfold xfuel; omega), xb_some, e0, el]
    by_cases q : tx T w.length j = w
    · rw [if_pos q, decide_eq_true q]; rfl
    · rw [if_neg q, decide_eq_false q]; rfl
  · obtain ⟨y, hy⟩ : ∃ y, xfuel = y + 1 := ⟨999999, rfl⟩
    rw [if_neg h, hy]
    dsimp only
    rw [is0_q, xb_some]
    have : decide (tx T (e - j).toNat j = w) = false := by
      rw [decide_eq_false_iff_not]
      intro u
      have z := tx_len (T := T) (e - j).toNat j
      rw [u] at z
      omega
    rw [this]
    rfl
theorem word_e {M : xM} {T : Int → Int} {L j e : Int} (hT : M 100 = T) (h15 : M 94 15 = j) (h13 : M 94 13 = e) (hj : 0 ≤ j) (he : j ≤ e) (he2 : e ≤ L) (hL : L ≤ 400) (hB : ∀ i, 0 ≤ i → i < L → 0 ≤ T i ∧ T i ≤ 255) : fX12_word M = some (tk (kwl (tx T (e - j).toNat j))) := by
  have s0 := is_e 2 [119, 104, 101, 110] hT h15 h13 hj he he2 hL hB (by decide +kernel) (by decide) (by decide +kernel)
  have s1 := is_e 3 [111, 114] hT h15 h13 hj he he2 hL hB (by decide +kernel) (by decide) (by decide +kernel)
  have s2 := is_e 4 [97, 110, 100] hT h15 h13 hj he he2 hL hB (by decide +kernel) (by decide) (by decide +kernel)
  have s3 := is_e 5 [110, 111, 116] hT h15 h13 hj he he2 hL hB (by decide +kernel) (by decide) (by decide +kernel)
  have s4 := is_e 6 [119, 111, 114, 116, 104] hT h15 h13 hj he he2 hL hB (by decide +kernel) (by decide) (by decide +kernel)
  have s5 := is_e 7 [97, 110, 103, 108, 101] hT h15 h13 hj he he2 hL hB (by decide +kernel) (by decide) (by decide +kernel)
  have s6 := is_e 8 [115, 117, 110] hT h15 h13 hj he he2 hL hB (by decide +kernel) (by decide) (by decide +kernel)
  have s7 := is_e 9 [119, 105, 110, 100] hT h15 h13 hj he he2 hL hB (by decide +kernel) (by decide) (by decide +kernel)
  have s8 := is_e 10 [99, 117, 114, 114, 101, 110, 116] hT h15 h13 hj he he2 hL hB (by decide +kernel) (by decide) (by decide +kernel)
  have s9 := is_e 11 [109, 111, 110, 116, 104] hT h15 h13 hj he he2 hL hB (by decide +kernel) (by decide) (by decide +kernel)
  have s10 := is_e 12 [100, 97, 121] hT h15 h13 hj he he2 hL hB (by decide +kernel) (by decide) (by decide +kernel)
  have s11 := is_e 13 [116, 117, 114, 110, 101, 100] hT h15 h13 hj he he2 hL hB (by decide +kernel) (by decide) (by decide +kernel)
  unfold fX12_word fX12_nameWord
  rw [s0, s1, s2, s3, s4, s5, s6, s7, s8, s9, s10, s11]
  generalize tx T (e - j).toNat j = l
  clear s0 s1 s2 s3 s4 s5 s6 s7 s8 s9 s10 s11
  by_cases h0 : l = [97, 110, 103, 108, 101]
  · rw [h0]; decide
  by_cases h1 : l = [115, 117, 110]
  · rw [h1]; decide
  by_cases h2 : l = [119, 105, 110, 100]
  · rw [h2]; decide
  by_cases h3 : l = [99, 117, 114, 114, 101, 110, 116]
  · rw [h3]; decide
  by_cases h4 : l = [109, 111, 110, 116, 104]
  · rw [h4]; decide
  by_cases h5 : l = [100, 97, 121]
  · rw [h5]; decide
  by_cases h6 : l = [116, 117, 114, 110, 101, 100]
  · rw [h6]; decide
  by_cases h7 : l = [119, 111, 114, 116, 104]
  · rw [h7]; decide
  by_cases h8 : l = [119, 104, 101, 110]
  · rw [h8]; decide
  by_cases h9 : l = [111, 114]
  · rw [h9]; decide
  by_cases h10 : l = [97, 110, 100]
  · rw [h10]; decide
  by_cases h11 : l = [110, 111, 116]
  · rw [h11]; decide
  unfold kwl
  rw [if_neg h0, if_neg h1, if_neg h2, if_neg h3, if_neg h4, if_neg h5, if_neg h6, if_neg h7, if_neg h8, if_neg h9, if_neg h10, if_neg h11]
  rw [decide_eq_false h8, decide_eq_false h9, decide_eq_false h10, decide_eq_false h11, decide_eq_false h7, decide_eq_false h0, decide_eq_false h1, decide_eq_false h2, decide_eq_false h3, decide_eq_false h4, decide_eq_false h5, decide_eq_false h6]
  rfl
def rT (M : xM) (ts : Ts) : Prop := ∃ t r, ts = t :: r ∧ (M 94 14 = tk t.1 ∧ M 94 15 = t.2.1 ∧ M 94 16 = t.2.2) ∧ (t.1 ≠ 23 → ∃ k : Nat, r = lx (M 100) (M 94 12) k (M 94 13) (M 94 16) ∧ M 94 12 - M 94 13 < k ∧ 0 ≤ M 94 13 ∧ M 94 13 ≤ M 94 12)
def nF (M M' : xM) : Prop := (∀ o, o ≠ 94 → M' o = M o) ∧ ∀ j, j ≠ 13 → j ≠ 14 → j ≠ 15 → j ≠ 16 → M' 94 j = M 94 j
theorem next0_e {M : xM} {k : Nat} (hO : tO M) (h0 : 0 ≤ M 94 13) (h1 : M 94 13 ≤ M 94 12) (hk : M 94 12 - M 94 13 < k) : yk (fX12_next0 M) fun M' => nF M M' ∧ rT M' (lx (M 100) (M 94 12) k (M 94 13) (M 94 16)) := by
  obtain ⟨hL, hB⟩ := hO
  obtain ⟨k, rfl⟩ : ∃ m, k = m + 1 := ⟨k - 1, by omega⟩
  have s := sc_rng (P := tBl) (T := M 100) (L := M 94 12) h1
  have e := sc_end (P := tBl) (T := M 100) (L := M 94 12) h1
  rw [lx_sc ((M 94 12 - M 94 13).toNat + 1) (M 94 13) h1 (by omega)]
  unfold fX12_next0
  rw [yk_xb]
  refine yk.mono (nx0_q (T := M 100) (L := M 94 12) hL hB xfuel M (M 94 13) rfl rfl rfl h0 h1 (by unfold xfuel; omega)) ?_
  intro M7 q
  obtain ⟨q1, q2, q3⟩ := q
  generalize hi : M 94 13 = i at *
  generalize hj : sc tBl (M 100) (M 94 12) i = j at *
  have r100 := q1 100 (by omega)
  have r12 := q2 12 (by omega)
  have r16 := q2 16 (by omega)
  generalize hT : M 100 = T at *
  generalize hLL : M 94 12 = L at *
  generalize hv : M 94 16 = v at *
  rw [yk_xlet, q3]
  have m13 : xup M7 94 15 j 94 13 = j := by rw [xup_n (by omega)]; exact q3
  have m12 : xup M7 94 15 j 94 12 = L := by rw [xup_n (by omega)]; exact r12
  have m15 : xup M7 94 15 j 94 15 = j := xup_e rfl
  have m16 : xup M7 94 15 j 94 16 = v := by rw [xup_n (by omega)]; exact r16
  have m100 : xup M7 94 15 j 100 = T := by rw [xup_o (by omega)]; exact r100
  have mo : ∀ o, o ≠ 94 → xup M7 94 15 j o = M o := fun o ho => by rw [xup_o ho, q1 o ho]
  have mj : ∀ t, t ≠ 13 → t ≠ 15 → xup M7 94 15 j 94 t = M 94 t := fun t a b => by rw [xup_n b, q2 t a]
  generalize xup M7 94 15 j = M9 at *
  clear q1 q2 q3 r100 r12 r16 hj
  rw [m13, see_e m100 m12 hL (by omega) s.2, xb_some]
  have sr := sY_rng (T := T) (L := L) (i := j) hB (by omega)
  rw [wr_id (x := sY T L j) (by omega) (by omega), wr_id (x := -1) (by omega) (by omega)]
  by_cases hjL : j = L
  · have : sY T L j = -1 := by unfold sY; rw [if_neg (by omega)]
    rw [if_pos this, yk_xlet, yk_some, hjL, lx_end]
    refine ⟨⟨fun o ho => by rw [xup_o ho, mo o ho], fun t a b c d => by rw [xup_n b, mj t a c]⟩, _, _, rfl, ⟨by rw [xup_e rfl]; rfl, by rw [xup_n (by omega), m15]; exact hjL, by rw [xup_n (by omega), m16]⟩, fun w => absurd rfl w⟩
  · have hj2 : j < L := by omega
    have es : sY T L j = T j := by unfold sY; rw [if_pos hj2]
    have tr := hB j (by omega) hj2
    have hb : tBl (T j) = false := by
      cases h : tBl (T j) with
      | false => rfl
      | true => exact absurd ⟨hj2, h⟩ e
    rw [es, if_neg (by omega), leM (by omega), diM (by omega)]
    cases hl : tLe (T j) with
    | true =>
      have g := sc_gt (P := tLe) hj2 hl
      rw [if_pos rfl, yk_xb, lx_word hj2 hb hl]
      refine yk.mono (nx76_q (T := T) (L := L) hL hB xfuel M9 j m100 m12 m13 (by omega) (by omega) (by unfold xfuel; omega)) ?_
      intro N q
      obtain ⟨q1, q2, q3⟩ := q
      have n100 : N 100 = T := by rw [q1 100 (by omega)]; exact m100
      rw [word_e (T := T) (L := L) (j := j) (e := sc tLe T L j) n100 (by rw [q2 15 (by omega)]; exact m15) q3 (by omega) (by omega) g.2 hL.2 hB, xb_some, yk_xlet, yk_some]
      refine ⟨⟨fun o ho => by rw [xup_o ho, q1 o ho, mo o ho], fun t a b c d => by rw [xup_n b, q2 t a, mj t a c]⟩, _, _, rfl, ⟨by rw [xup_e rfl], by rw [xup_n (by omega), q2 15 (by omega), m15], by rw [xup_n (by omega), q2 16 (by omega), m16]⟩, fun _ => ⟨k, ?_, ?_, ?_, ?_⟩⟩
      · rw [xup_o (by omega), n100, xup_n (by omega), xup_n (by omega), xup_n (by omega), q2 12 (by omega), q2 16 (by omega), q3, m12, m16]
      · rw [xup_n (by omega), xup_n (by omega), q2 12 (by omega), q3, m12]; omega
      · rw [xup_n (by omega), q3]; omega
      · rw [xup_n (by omega), xup_n (by omega), q2 12 (by omega), q3, m12]; omega
    | false =>
      rw [if_neg (by decide)]
      cases hd : tDi (T j) with
      | true =>
        have g := sc_gt (P := tDi) hj2 hd
        rw [if_pos rfl, yk_xlet, yk_xb, lx_num hj2 hb hl hd]
        refine yk.mono (nx126_q (T := T) (L := L) (j := j) hL (by omega) hB xfuel (xup M9 94 16 0) j 0 (by rw [xup_o (by omega)]; exact m100) (by rw [xup_n (by omega)]; exact m12) (by rw [xup_n (by omega)]; exact m13) (by rw [xup_n (by omega)]; exact m15) (xup_e rfl) (by omega) (by omega) (by unfold xfuel; omega)) ?_
        intro N q
        obtain ⟨q1, q2, q3, q4⟩ := q
        have n100 : N 100 = T := by rw [q1 100 (by omega), xup_o (by omega)]; exact m100
        have n15 : N 94 15 = j := by rw [q2 15 (by omega) (by omega), xup_n (by omega)]; exact m15
        have n12 : N 94 12 = L := by rw [q2 12 (by omega) (by omega), xup_n (by omega)]; exact m12
        have fin : ∀ x y, y = tk x → yk (xlet (xup N 94 14 y) fun M34 => some M34) fun M' => nF M M' ∧ rT M' ((x, j, nvi T L j j 0) :: lx T L k (sc tDi T L j) (nvi T L j j 0)) := by
          intro x y hy
          rw [yk_xlet, yk_some]
          refine ⟨⟨fun o ho => by rw [xup_o ho, q1 o ho, xup_o ho, mo o ho], fun t a b c d => by rw [xup_n b, q2 t a d, xup_n d, mj t a c]⟩, _, _, rfl, ⟨by rw [xup_e rfl]; exact hy, by rw [xup_n (by omega), n15], by rw [xup_n (by omega), q4]⟩, fun _ => ⟨k, ?_, ?_, ?_, ?_⟩⟩
          · rw [xup_o (by omega), n100, xup_n (by omega), xup_n (by omega), xup_n (by omega), n12, q4, q3]
          · rw [xup_n (by omega), xup_n (by omega), n12, q3]; omega
          · rw [xup_n (by omega), q3]; omega
          · rw [xup_n (by omega), xup_n (by omega), n12, q3]; omega
        rw [yk_xj, n15, q3, wr_id (x := sc tDi T L j - j) (by omega) (by omega), wr_id (x := 5) (by omega) (by omega)]
        by_cases g4 : sc tDi T L j - j < 5
        · rw [if_pos g4, if_pos g4]
          exact fin 12 2 (by decide)
        · rw [if_neg g4, if_neg g4]
          exact fin 24 1 (by decide)
      | false =>
        rw [if_neg (by decide), yk_xlet, lx_sign hj2 hb hl hd]
        have fin : ∀ y, y = tk (sgk (T j)) → yk (xlet (xup (xup M9 94 13 (j + 1)) 94 14 y) fun M40 => some M40) fun M' => nF M M' ∧ rT M' ((sgk (T j), j, v) :: lx T L k (j + 1) v) := by
          intro y hy
          rw [yk_xlet, yk_some]
          refine ⟨⟨fun o ho => by rw [xup_o ho, xup_o ho, mo o ho], fun t a b c d => by rw [xup_n b, xup_n a, mj t a c]⟩, _, _, rfl, ⟨by rw [xup_e rfl]; exact hy, by rw [xup_n (by omega), xup_n (by omega), m15], by rw [xup_n (by omega), xup_n (by omega), m16]⟩, fun _ => ⟨k, ?_, ?_, ?_, ?_⟩⟩
          · rw [xup_o (by omega), xup_o (by omega), m100, xup_n (by omega), xup_n (by omega), m12, xup_n (by omega), xup_e rfl, xup_n (by omega), xup_n (by omega), m16]
          · rw [xup_n (by omega), xup_n (by omega), xup_n (by omega), xup_e rfl, m12]; omega
          · rw [xup_n (by omega), xup_e rfl]; omega
          · rw [xup_n (by omega), xup_e rfl, xup_n (by omega), xup_n (by omega), m12]; omega
        have yes : yk (xj (fun (s38 : Int) => xlet (xup (xup M9 94 13 (j + 1)) 94 14 s38) fun M40 => some M40) fun j39 => (if wr 1 = 0 then j39 1 else j39 (100 + T j))) (fun M' => nF M M' ∧ rT M' ((sgk (T j), j, v) :: lx T L k (j + 1) v)) ↔ yk (xlet (xup (xup M9 94 13 (j + 1)) 94 14 (100 + T j)) fun M40 => some M40) (fun M' => nF M M' ∧ rT M' ((sgk (T j), j, v) :: lx T L k (j + 1) v)) := Iff.rfl
        have no : yk (xj (fun (s38 : Int) => xlet (xup (xup M9 94 13 (j + 1)) 94 14 s38) fun M40 => some M40) fun j39 => (if wr 0 = 0 then j39 1 else j39 (100 + T j))) (fun M' => nF M M' ∧ rT M' ((sgk (T j), j, v) :: lx T L k (j + 1) v)) ↔ yk (xlet (xup (xup M9 94 13 (j + 1)) 94 14 1) fun M40 => some M40) (fun M' => nF M M' ∧ rT M' ((sgk (T j), j, v) :: lx T L k (j + 1) v)) := Iff.rfl
        rw [yk_xj, yk_xj, wr_id (x := 59) (by omega) (by omega), wr_id (x := 43) (by omega) (by omega), wr_id (x := 45) (by omega) (by omega), wr_id (x := 42) (by omega) (by omega), wr_id (x := 47) (by omega) (by omega), wr_id (x := 40) (by omega) (by omega), wr_id (x := 41) (by omega) (by omega), wr_id (x := 60) (by omega) (by omega), wr_id (x := 61) (by omega) (by omega), wr_id (x := 62) (by omega) (by omega)]
        by_cases h0 : T j = 59
        · rw [if_pos h0]
          exact yes.2 (fin _ (by rw [h0]; decide))
        rw [if_neg h0]
        by_cases h1 : T j = 43
        · rw [if_pos h1]
          exact yes.2 (fin _ (by rw [h1]; decide))
        rw [if_neg h1]
        by_cases h2 : T j = 45
        · rw [if_pos h2]
          exact yes.2 (fin _ (by rw [h2]; decide))
        rw [if_neg h2]
        by_cases h3 : T j = 42
        · rw [if_pos h3]
          exact yes.2 (fin _ (by rw [h3]; decide))
        rw [if_neg h3]
        by_cases h4 : T j = 47
        · rw [if_pos h4]
          exact yes.2 (fin _ (by rw [h4]; decide))
        rw [if_neg h4]
        by_cases h5 : T j = 40
        · rw [if_pos h5]
          exact yes.2 (fin _ (by rw [h5]; decide))
        rw [if_neg h5]
        by_cases h6 : T j = 41
        · rw [if_pos h6]
          exact yes.2 (fin _ (by rw [h6]; decide))
        rw [if_neg h6]
        by_cases h7 : T j = 60
        · rw [if_pos h7]
          exact yes.2 (fin _ (by rw [h7]; decide))
        rw [if_neg h7]
        by_cases h8 : T j = 61
        · rw [if_pos h8]
          exact yes.2 (fin _ (by rw [h8]; decide))
        rw [if_neg h8]
        by_cases h9 : T j = 62
        · rw [if_pos h9]
          exact yes.2 (fin _ (by rw [h9]; decide))
        rw [if_neg h9]
        refine no.2 (fin 1 ?_)
        unfold sgk
        rw [if_neg h0, if_neg h1, if_neg h2, if_neg h3, if_neg h4, if_neg h5, if_neg h6, if_neg h7, if_neg h8, if_neg h9]
        decide
