/-! text: the class's tokens -/
theorem leK {c : Int} (h : -1 ≤ c ∧ c ≤ 255) : fX7_isLetter c = tLe c := by
  unfold fX7_isLetter tLe xj
  simp (disch := omega) only [wr_id]
  rw [Bool.eq_iff_iff, decide_eq_true_eq]
  repeat' split
  all_goals (simp only [Bool.false_eq_true, false_iff, true_iff, eq_self]; omega)
theorem diK {c : Int} (h : -1 ≤ c ∧ c ≤ 255) : fX7_isDigit c = tDi c := by
  unfold fX7_isDigit tDi
  simp (disch := omega) only [wr_id]
  rw [Bool.eq_iff_iff, decide_eq_true_eq]
  repeat' split
  all_goals (simp only [Bool.false_eq_true, false_iff, true_iff, eq_self]; omega)
theorem splitWord_q {M : xM} {T : Int → Int} {L v1 : Int} (h36 : M 36 0 = L) (hL : L ≤ 400) (hT : ∀ i, 0 ≤ i → i < L → M 37 i = T i ∧ 0 ≤ T i ∧ T i ≤ 255) (n : Nat) : ∀ i, 0 ≤ i → i ≤ L → L - i < n → fX7_splitWord_L2 n M v1 i = some (sc tLe T L i) := by
  induction n with
  | zero => intro i h0 h1 h2; omega
  | succ n ih =>
    intro i h0 h1 h2
    unfold fX7_splitWord_L2
    rw [h36, wr_id (x := i) (by omega) (by omega), wr_id (x := L) (by omega) (by omega)]
    by_cases h : i < L
    · have t := hT i h0 h
      rw [if_pos h, xrd_at h0 (by omega) (by omega), t.1, leK (by omega)]
      by_cases hp : tLe (T i) = true
      · rw [if_pos hp, ih _ (by omega) (by omega) (by omega), ← sc_step h hp]
      · rw [if_neg hp, sc_stop (fun w => hp w.2)]
    · rw [if_neg h, sc_stop (fun w => h w.1)]
theorem splitNum_q {M : xM} {T : Int → Int} {L j : Int} (h36 : M 36 0 = L) (hL : L ≤ 400) (hj : 0 ≤ j) (hT : ∀ i, 0 ≤ i → i < L → M 37 i = T i ∧ 0 ≤ T i ∧ T i ≤ 255) (n : Nat) : ∀ i v, j ≤ i → i ≤ L → L - i < n → fX7_splitNumber_L4 n M j i v = some (sc tDi T L i, nvi T L j i v) := by
  induction n with
  | zero => intro i v h0 h1 h2; omega
  | succ n ih =>
    intro i v h0 h1 h2
    unfold fX7_splitNumber_L4
    rw [h36, wr_id (x := i) (by omega) (by omega), wr_id (x := L) (by omega) (by omega)]
    by_cases h : i < L
    · have t := hT i (by omega) h
      rw [if_pos h, xrd_at (by omega) (by omega) (by omega), t.1, diK (by omega)]
      by_cases hp : tDi (T i) = true
      · rw [if_pos hp, xrd_at (by omega) (by omega) (by omega), t.1, wr_id (x := i - j) (by omega) (by omega), wr_id (x := 4) (by omega) (by omega), sc_step h hp, nvi_step h hp]
        by_cases c : i < j + 4
        · rw [if_pos (show i - j < 4 by omega), if_pos c, ih _ _ (by omega) (by omega) (by omega)]
        · rw [if_neg (show ¬ i - j < 4 by omega), if_neg c, ih _ _ (by omega) (by omega) (by omega)]
      · rw [if_neg hp, sc_stop (fun w => hp w.2), nvi_stop (fun w => hp w.2)]
    · rw [if_neg h, sc_stop (fun w => h w.1), nvi_stop (fun w => h w.1)]
def kwS : List Int := [97, 110, 103, 108, 101, 32, 115, 117, 110, 32, 119, 105, 110, 100, 32, 99, 117, 114, 114, 101, 110, 116, 32, 109, 111, 110, 116, 104, 32, 100, 97, 121, 32, 116, 117, 114, 110, 101, 100, 32, 119, 111, 114, 116, 104, 32, 119, 104, 101, 110, 32, 111, 114, 32, 97, 110, 100, 32, 110, 111, 116, 32]
theorem kwS_len : fJ0_length_8abf5 0 = 62 := by decide +kernel
theorem chK (k : Nat) (h : k < 62) : fJ0_charAt_5068e 0 (k : Int) = some (kwS.getD k 0) := by
  revert k
  decide +kernel
theorem isKw_q {M : xM} {T : Int → Int} {L f e s : Int} (hL : L ≤ 400) (hf : 0 ≤ f) (he : e ≤ 62) (hs : 0 ≤ s) (hT : ∀ i, 0 ≤ i → i < L → M 37 i = T i ∧ 0 ≤ T i ∧ T i ≤ 255) (w : List Int) : ∀ (n : Nat) (i : Int), f ≤ i → e = i + w.length → (∀ t : Nat, t < w.length → fJ0_charAt_5068e 0 (i + t) = some (w.getD t 0) ∧ 0 ≤ w.getD t 0 ∧ w.getD t 0 ≤ 255) → s + i - f + w.length ≤ L → w.length < n → fX7_isKeyword_L3 n M f e s i = some (if tx T w.length (s + i - f) = w then .inl () else .inr false) := by
  induction w with
  | nil =>
    intro n i h1 h2 h3 h4 h5
    obtain ⟨n, rfl⟩ : ∃ m, n = m + 1 := ⟨n - 1, by omega⟩
    rw [List.length_nil] at h2
    unfold fX7_isKeyword_L3
    rw [if_neg (by rw [wr_id (by omega) (by omega), wr_id (by omega) (by omega)]; omega)]
    show some (Sum.inl ()) = some (if ([] : List Int) = [] then _ else _)
    rw [if_pos rfl]
  | cons c w ih =>
    intro n i h1 h2 h3 h4 h5
    obtain ⟨n, rfl⟩ : ∃ m, n = m + 1 := ⟨n - 1, by omega⟩
    rw [List.length_cons] at h2 h4 h5
    have c0 := h3 0 (by rw [List.length_cons]; omega)
    have e0 : i + ((0 : Nat) : Int) = i := by omega
    rw [e0] at c0
    have cc : (c :: w).getD 0 0 = c := rfl
    rw [cc] at c0
    have t := hT (s + i - f) (by omega) (by omega)
    unfold fX7_isKeyword_L3
    rw [if_pos (by rw [wr_id (by omega) (by omega), wr_id (by omega) (by omega)]; omega), c0.1, xb_some, xrd_at (by omega) (by omega) (by omega), t.1, wr_id (x := c) (by omega) (by omega), wr_id (x := T (s + i - f)) (by omega) (by omega), List.length_cons]
    have e1 : s + (i + 1) - f = s + i - f + 1 := by omega
    have nx := ih n (i + 1) (by omega) (by omega) (fun k hk => by
      have q := h3 (k + 1) (by rw [List.length_cons]; omega)
      have e2 : i + ((k + 1 : Nat) : Int) = i + 1 + (k : Int) := by omega
      rw [e2] at q
      exact q) (by omega) (by omega)
    rw [e1] at nx
    show _ = some (if T (s + i - f) :: tx T w.length (s + i - f + 1) = c :: w then _ else _)
    by_cases q : c = T (s + i - f)
    · rw [if_pos q, nx]
      by_cases q2 : tx T w.length (s + i - f + 1) = w
      · rw [if_pos q2, if_pos (by rw [← q, q2])]
      · rw [if_neg q2, if_neg (fun u => q2 (List.cons.inj u).2)]
    · rw [if_neg q, if_neg (fun u => q (List.cons.inj u).1.symm)]
theorem kwSkip {M : xM} {v1 v2 kw f : Int} (m : Nat) : ∀ (n : Nat) (i : Int), 0 ≤ i → i + m ≤ 61 → (∀ t : Nat, t < m → ∃ c, fJ0_charAt_5068e 0 (i + t) = some c ∧ (0 ≤ c ∧ c ≤ 255) ∧ c ≠ 32) → fX7_keywordOf_L8 (n + m) M v1 v2 kw f i = fX7_keywordOf_L8 n M v1 v2 kw f (i + m) := by
  induction m with
  | zero => intro n i h0 h1 h2; simp
  | succ m ih =>
    intro n i h0 h1 h2
    obtain ⟨c, c1, c2, c3⟩ := h2 0 (by omega)
    have e0 : i + ((0 : Nat) : Int) = i := by omega
    rw [e0] at c1
    have en : n + (m + 1) = (n + m) + 1 := by omega
    rw [en]
    have nx := ih n (i + 1) (by omega) (by omega) (fun t ht => by
      have q := h2 (t + 1) (by omega)
      have e2 : i + ((t + 1 : Nat) : Int) = i + 1 + (t : Int) := by omega
      rw [e2] at q
      exact q)
    have e3 : i + ((m + 1 : Nat) : Int) = i + 1 + (m : Int) := by omega
    rw [e3, ← nx]
    rw [fX7_keywordOf_L8]
    rw [kwS_len, if_pos (by rw [wr_id (by omega) (by omega), wr_id (by omega) (by omega)]; omega), c1, xb_some, if_neg (by rw [wr_id (by omega) (by omega), wr_id (by omega) (by omega)]; exact c3)]
theorem kwSeg {M : xM} {T : Int → Int} {L v1 v2 : Int} (w : List Int) (kw f : Nat) (N n : Nat) (hN : N = n + 1 + w.length) (hL : L ≤ 400) (hv : 0 ≤ v1 ∧ v1 ≤ v2 ∧ v2 ≤ L) (hT : ∀ i, 0 ≤ i → i < L → M 37 i = T i ∧ 0 ≤ T i ∧ T i ≤ 255) (hf : f + w.length ≤ 61) (hw : ∀ t : Nat, t < w.length → kwS.getD (f + t) 0 = w.getD t 0 ∧ (0 ≤ w.getD t 0 ∧ w.getD t 0 ≤ 255) ∧ w.getD t 0 ≠ 32) (hb : kwS.getD (f + w.length) 0 = 32) : fX7_keywordOf_L8 N M v1 v2 (kw : Int) (f : Int) (f : Int) = if tx T (v2 - v1).toNat v1 = w then some (.inr (kw : Int)) else fX7_keywordOf_L8 n M v1 v2 ((kw : Int) + 1) ((f + w.length + 1 : Nat) : Int) ((f + w.length + 1 : Nat) : Int) := by
  have ch : ∀ t : Nat, t < w.length → fJ0_charAt_5068e 0 ((f : Int) + t) = some (w.getD t 0) := by
    intro t ht
    have := chK (f + t) (by omega)
    rw [(hw t ht).1] at this
    rw [← this]
    congr 1
  rw [hN, kwSkip w.length (n + 1) f (by omega) (by omega) (fun t ht => ⟨_, ch t ht, (hw t ht).2.1, (hw t ht).2.2⟩)]
  have c32 := chK (f + w.length) (by omega)
  rw [hb] at c32
  have e1 : (f : Int) + (w.length : Int) = ((f + w.length : Nat) : Int) := by omega
  rw [e1]
  rw [fX7_keywordOf_L8]
  rw [kwS_len, if_pos (by rw [wr_id (by omega) (by omega), wr_id (by omega) (by omega)]; omega), c32, xb_some, if_pos rfl]
  have e2 : ((f + w.length + 1 : Nat) : Int) = ((f + w.length : Nat) : Int) + 1 := by omega
  rw [e2]
  unfold xj
  dsimp only
  rw [wr_id (x := ((f + w.length : Nat) : Int) - f) (by omega) (by omega), wr_id (x := v2 - v1) (by omega) (by omega)]
  by_cases q : ((f + w.length : Nat) : Int) - f = v2 - v1
  · have el : (v2 - v1).toNat = w.length := by omega
    have e3 : v1 + (f : Int) - f = v1 := by omega
    rw [if_pos q]
    unfold fX7_isKeyword
    rw [isKw_q (T := T) (L := L) (by omega) (by omega) (by omega) hv.1 hT w xfuel f (by omega) (by omega) (fun t ht => ⟨ch t ht, (hw t ht).2.1⟩) (by omega) (by unfold xfuel; omega), e3, el]
    by_cases q2 : tx T w.length v1 = w
    · rw [if_pos q2, if_pos q2]; rfl
    · rw [if_neg q2, if_neg q2]; rfl
  · rw [if_neg q, if_neg]
    intro u
    have := tx_len (T := T) (v2 - v1).toNat v1
    rw [u] at this
    omega
theorem keywordOf_e {M : xM} {T : Int → Int} {L v1 v2 : Int} (hL : L ≤ 400) (hv : 0 ≤ v1 ∧ v1 ≤ v2 ∧ v2 ≤ L) (hT : ∀ i, 0 ≤ i → i < L → M 37 i = T i ∧ 0 ≤ T i ∧ T i ≤ 255) : fX7_keywordOf M v1 v2 = some (kwl (tx T (v2 - v1).toNat v1)) := by
  unfold fX7_keywordOf
  have s0 : fX7_keywordOf_L8 xfuel M v1 v2 0 0 0 = if tx T (v2 - v1).toNat v1 = [97, 110, 103, 108, 101] then some (.inr 0) else fX7_keywordOf_L8 999994 M v1 v2 1 6 6 := kwSeg (M := M) [97, 110, 103, 108, 101] 0 0 xfuel 999994 (by unfold xfuel; simp) hL hv hT (by decide) (by decide) (by decide)
  have s1 : fX7_keywordOf_L8 999994 M v1 v2 1 6 6 = if tx T (v2 - v1).toNat v1 = [115, 117, 110] then some (.inr 1) else fX7_keywordOf_L8 999990 M v1 v2 2 10 10 := kwSeg (M := M) [115, 117, 110] 1 6 999994 999990 (by simp) hL hv hT (by decide) (by decide) (by decide)
  have s2 : fX7_keywordOf_L8 999990 M v1 v2 2 10 10 = if tx T (v2 - v1).toNat v1 = [119, 105, 110, 100] then some (.inr 2) else fX7_keywordOf_L8 999985 M v1 v2 3 15 15 := kwSeg (M := M) [119, 105, 110, 100] 2 10 999990 999985 (by simp) hL hv hT (by decide) (by decide) (by decide)
  have s3 : fX7_keywordOf_L8 999985 M v1 v2 3 15 15 = if tx T (v2 - v1).toNat v1 = [99, 117, 114, 114, 101, 110, 116] then some (.inr 3) else fX7_keywordOf_L8 999977 M v1 v2 4 23 23 := kwSeg (M := M) [99, 117, 114, 114, 101, 110, 116] 3 15 999985 999977 (by simp) hL hv hT (by decide) (by decide) (by decide)
  have s4 : fX7_keywordOf_L8 999977 M v1 v2 4 23 23 = if tx T (v2 - v1).toNat v1 = [109, 111, 110, 116, 104] then some (.inr 4) else fX7_keywordOf_L8 999971 M v1 v2 5 29 29 := kwSeg (M := M) [109, 111, 110, 116, 104] 4 23 999977 999971 (by simp) hL hv hT (by decide) (by decide) (by decide)
  have s5 : fX7_keywordOf_L8 999971 M v1 v2 5 29 29 = if tx T (v2 - v1).toNat v1 = [100, 97, 121] then some (.inr 5) else fX7_keywordOf_L8 999967 M v1 v2 6 33 33 := kwSeg (M := M) [100, 97, 121] 5 29 999971 999967 (by simp) hL hv hT (by decide) (by decide) (by decide)
  have s6 : fX7_keywordOf_L8 999967 M v1 v2 6 33 33 = if tx T (v2 - v1).toNat v1 = [116, 117, 114, 110, 101, 100] then some (.inr 6) else fX7_keywordOf_L8 999960 M v1 v2 7 40 40 := kwSeg (M := M) [116, 117, 114, 110, 101, 100] 6 33 999967 999960 (by simp) hL hv hT (by decide) (by decide) (by decide)
  have s7 : fX7_keywordOf_L8 999960 M v1 v2 7 40 40 = if tx T (v2 - v1).toNat v1 = [119, 111, 114, 116, 104] then some (.inr 7) else fX7_keywordOf_L8 999954 M v1 v2 8 46 46 := kwSeg (M := M) [119, 111, 114, 116, 104] 7 40 999960 999954 (by simp) hL hv hT (by decide) (by decide) (by decide)
  have s8 : fX7_keywordOf_L8 999954 M v1 v2 8 46 46 = if tx T (v2 - v1).toNat v1 = [119, 104, 101, 110] then some (.inr 8) else fX7_keywordOf_L8 999949 M v1 v2 9 51 51 := kwSeg (M := M) [119, 104, 101, 110] 8 46 999954 999949 (by simp) hL hv hT (by decide) (by decide) (by decide)
  have s9 : fX7_keywordOf_L8 999949 M v1 v2 9 51 51 = if tx T (v2 - v1).toNat v1 = [111, 114] then some (.inr 9) else fX7_keywordOf_L8 999946 M v1 v2 10 54 54 := kwSeg (M := M) [111, 114] 9 51 999949 999946 (by simp) hL hv hT (by decide) (by decide) (by decide)
  have s10 : fX7_keywordOf_L8 999946 M v1 v2 10 54 54 = if tx T (v2 - v1).toNat v1 = [97, 110, 100] then some (.inr 10) else fX7_keywordOf_L8 999942 M v1 v2 11 58 58 := kwSeg (M := M) [97, 110, 100] 10 54 999946 999942 (by simp) hL hv hT (by decide) (by decide) (by decide)
  have s11 : fX7_keywordOf_L8 999942 M v1 v2 11 58 58 = if tx T (v2 - v1).toNat v1 = [110, 111, 116] then some (.inr 11) else fX7_keywordOf_L8 999938 M v1 v2 12 62 62 := kwSeg (M := M) [110, 111, 116] 11 58 999942 999938 (by simp) hL hv hT (by decide) (by decide) (by decide)
  have last : fX7_keywordOf_L8 999938 M v1 v2 12 62 62 = some (.inl ()) := by
    rw [fX7_keywordOf_L8, kwS_len, if_neg (by decide)]
  generalize tx T (v2 - v1).toNat v1 = l at *
  unfold kwl
  rw [s0]
  by_cases h0 : l = [97, 110, 103, 108, 101]
  · rw [if_pos h0, if_pos h0]; rfl
  rw [if_neg h0, if_neg h0]
  rw [s1]
  by_cases h1 : l = [115, 117, 110]
  · rw [if_pos h1, if_pos h1]; rfl
  rw [if_neg h1, if_neg h1]
  rw [s2]
  by_cases h2 : l = [119, 105, 110, 100]
  · rw [if_pos h2, if_pos h2]; rfl
  rw [if_neg h2, if_neg h2]
  rw [s3]
  by_cases h3 : l = [99, 117, 114, 114, 101, 110, 116]
  · rw [if_pos h3, if_pos h3]; rfl
  rw [if_neg h3, if_neg h3]
  rw [s4]
  by_cases h4 : l = [109, 111, 110, 116, 104]
  · rw [if_pos h4, if_pos h4]; rfl
  rw [if_neg h4, if_neg h4]
  rw [s5]
  by_cases h5 : l = [100, 97, 121]
  · rw [if_pos h5, if_pos h5]; rfl
  rw [if_neg h5, if_neg h5]
  rw [s6]
  by_cases h6 : l = [116, 117, 114, 110, 101, 100]
  · rw [if_pos h6, if_pos h6]; rfl
  rw [if_neg h6, if_neg h6]
  rw [s7]
  by_cases h7 : l = [119, 111, 114, 116, 104]
  · rw [if_pos h7, if_pos h7]; rfl
  rw [if_neg h7, if_neg h7]
  rw [s8]
  by_cases h8 : l = [119, 104, 101, 110]
  · rw [if_pos h8, if_pos h8]; rfl
  rw [if_neg h8, if_neg h8]
  rw [s9]
  by_cases h9 : l = [111, 114]
  · rw [if_pos h9, if_pos h9]; rfl
  rw [if_neg h9, if_neg h9]
  rw [s10]
  by_cases h10 : l = [97, 110, 100]
  · rw [if_pos h10, if_pos h10]; rfl
  rw [if_neg h10, if_neg h10]
  rw [s11]
  by_cases h11 : l = [110, 111, 116]
  · rw [if_pos h11, if_pos h11]; rfl
  rw [if_neg h11, if_neg h11]
  rw [last]
  rfl
def tokM (M : xM) (c k p v : Int) : xM := xup (xup (xup (xup M 38 c k) 39 c p) 40 c v) 36 7 (c + 1)
theorem addTok_e {M : xM} {c k p v : Int} (hc : M 36 7 = c) (h : 0 ≤ c ∧ c < 401) : fX7_addToken M k p v = some (tokM M c k p v) := by
  unfold fX7_addToken
  rw [hc, if_pos (by rw [wr_id (by omega) (by omega), wr_id (by omega) (by omega)]; omega), xwt_at h.1 h.2 (by omega), xup_o (by omega), hc, xwt_at h.1 h.2 (by omega), xup_o (by omega), xup_o (by omega), hc, xwt_at h.1 h.2 (by omega), xup_o (by omega), xup_o (by omega), xup_o (by omega), hc]
  rfl
def sgS : List Int := [59, 43, 45, 42, 47, 40, 41, 60, 61, 62]
theorem sgL7 {M : xM} {b : Int} {n : Nat} (hb : -128 ≤ b ∧ b < 128) (k : Nat) (hk : k < 10) : fJ1_indexOfChar_4cfef_L7 (n + 1) M 1 10 b (k : Int) = if sgS.getD k 0 = b then some (.inr (k : Int)) else fJ1_indexOfChar_4cfef_L7 n M 1 10 b ((k + 1 : Nat) : Int) := by
  have e1 : xbv 1 (k : Int) = sgS.getD k 0 ∧ (0 ≤ sgS.getD k 0 ∧ sgS.getD k 0 ≤ 255) := by
    clear hb
    revert k
    decide +kernel
  have e2 : xln 1 = 10 := by decide
  have e3 : wr (k : Int) = k := wr_id (by omega) (by omega)
  rw [fJ1_indexOfChar_4cfef_L7]
  unfold xby
  rw [e2, e3, e1.1, if_pos (by rw [wr_id (x := 10) (by omega) (by omega)]; omega), if_pos (by omega)]
  dsimp only
  rw [wr_id (x := sgS.getD k 0) (by omega) (by omega), wr_id (x := b) (by omega) (by omega)]
  rfl
theorem sgK {M : xM} {c : Int} (h : 0 ≤ c ∧ c ≤ 255) : fJ0_indexOf_0f7a4 M 1 c = some (if sgk c = 24 then -1 else sgk c - 13) := by
  have l1 : fJ0_isLatin1_aae02 1 = true := by decide
  have l2 : fJ0_length_8abf5 1 = 10 := by decide +kernel
  have l3 : fJ1_canEncode_9a6ad c = true := by
    unfold fJ1_canEncode_9a6ad
    rw [wr_id (x := c) (by omega) (by omega), wr_id (x := 255) (by omega) (by omega), if_neg (by omega), if_neg (by omega)]
  have l4 : xmax 0 0 = 0 := by decide
  have l5 : xmin 10 (xln 1) = 10 := by decide
  have b : -128 ≤ xi2b c ∧ xi2b c < 128 := by unfold xi2b; omega
  unfold fJ0_indexOf_0f7a4 fJ0_indexOf_7cf53
  rw [if_pos l1, l2]
  unfold fJ1_indexOf_4cfef
  rw [if_pos l3, l4, l5, if_pos (by decide)]
  unfold fJ1_indexOfChar_4cfef
  obtain ⟨y, hy⟩ : ∃ y, xfuel = y + 11 := ⟨999989, rfl⟩
  rw [hy]
  have s0 : fJ1_indexOfChar_4cfef_L7 (y + 11) M 1 10 (xi2b c) 0 = if sgS.getD 0 0 = xi2b c then some (.inr 0) else fJ1_indexOfChar_4cfef_L7 (y + 10) M 1 10 (xi2b c) 1 := sgL7 (M := M) (n := y + 10) b 0 (by omega)
  have s1 : fJ1_indexOfChar_4cfef_L7 (y + 10) M 1 10 (xi2b c) 1 = if sgS.getD 1 0 = xi2b c then some (.inr 1) else fJ1_indexOfChar_4cfef_L7 (y + 9) M 1 10 (xi2b c) 2 := sgL7 (M := M) (n := y + 9) b 1 (by omega)
  have s2 : fJ1_indexOfChar_4cfef_L7 (y + 9) M 1 10 (xi2b c) 2 = if sgS.getD 2 0 = xi2b c then some (.inr 2) else fJ1_indexOfChar_4cfef_L7 (y + 8) M 1 10 (xi2b c) 3 := sgL7 (M := M) (n := y + 8) b 2 (by omega)
  have s3 : fJ1_indexOfChar_4cfef_L7 (y + 8) M 1 10 (xi2b c) 3 = if sgS.getD 3 0 = xi2b c then some (.inr 3) else fJ1_indexOfChar_4cfef_L7 (y + 7) M 1 10 (xi2b c) 4 := sgL7 (M := M) (n := y + 7) b 3 (by omega)
  have s4 : fJ1_indexOfChar_4cfef_L7 (y + 7) M 1 10 (xi2b c) 4 = if sgS.getD 4 0 = xi2b c then some (.inr 4) else fJ1_indexOfChar_4cfef_L7 (y + 6) M 1 10 (xi2b c) 5 := sgL7 (M := M) (n := y + 6) b 4 (by omega)
  have s5 : fJ1_indexOfChar_4cfef_L7 (y + 6) M 1 10 (xi2b c) 5 = if sgS.getD 5 0 = xi2b c then some (.inr 5) else fJ1_indexOfChar_4cfef_L7 (y + 5) M 1 10 (xi2b c) 6 := sgL7 (M := M) (n := y + 5) b 5 (by omega)
  have s6 : fJ1_indexOfChar_4cfef_L7 (y + 5) M 1 10 (xi2b c) 6 = if sgS.getD 6 0 = xi2b c then some (.inr 6) else fJ1_indexOfChar_4cfef_L7 (y + 4) M 1 10 (xi2b c) 7 := sgL7 (M := M) (n := y + 4) b 6 (by omega)
  have s7 : fJ1_indexOfChar_4cfef_L7 (y + 4) M 1 10 (xi2b c) 7 = if sgS.getD 7 0 = xi2b c then some (.inr 7) else fJ1_indexOfChar_4cfef_L7 (y + 3) M 1 10 (xi2b c) 8 := sgL7 (M := M) (n := y + 3) b 7 (by omega)
  have s8 : fJ1_indexOfChar_4cfef_L7 (y + 3) M 1 10 (xi2b c) 8 = if sgS.getD 8 0 = xi2b c then some (.inr 8) else fJ1_indexOfChar_4cfef_L7 (y + 2) M 1 10 (xi2b c) 9 := sgL7 (M := M) (n := y + 2) b 8 (by omega)
  have s9 : fJ1_indexOfChar_4cfef_L7 (y + 2) M 1 10 (xi2b c) 9 = if sgS.getD 9 0 = xi2b c then some (.inr 9) else fJ1_indexOfChar_4cfef_L7 (y + 1) M 1 10 (xi2b c) 10 := sgL7 (M := M) (n := y + 1) b 9 (by omega)
  have s10 : fJ1_indexOfChar_4cfef_L7 (y + 1) M 1 10 (xi2b c) 10 = some (.inl ()) := by
    rw [fJ1_indexOfChar_4cfef_L7, if_neg (by decide)]
  rw [s0]
  unfold sgk
  by_cases h0 : c = 59
  · rw [if_pos h0, if_pos (show sgS.getD 0 0 = xi2b c by rw [h0]; decide)]; rfl
  rw [if_neg h0, if_neg (show ¬ sgS.getD 0 0 = xi2b c by show ¬ ((59 : Int) = xi2b c); unfold xi2b; omega)]
  rw [s1]
  by_cases h1 : c = 43
  · rw [if_pos h1, if_pos (show sgS.getD 1 0 = xi2b c by rw [h1]; decide)]; rfl
  rw [if_neg h1, if_neg (show ¬ sgS.getD 1 0 = xi2b c by show ¬ ((43 : Int) = xi2b c); unfold xi2b; omega)]
  rw [s2]
  by_cases h2 : c = 45
  · rw [if_pos h2, if_pos (show sgS.getD 2 0 = xi2b c by rw [h2]; decide)]; rfl
  rw [if_neg h2, if_neg (show ¬ sgS.getD 2 0 = xi2b c by show ¬ ((45 : Int) = xi2b c); unfold xi2b; omega)]
  rw [s3]
  by_cases h3 : c = 42
  · rw [if_pos h3, if_pos (show sgS.getD 3 0 = xi2b c by rw [h3]; decide)]; rfl
  rw [if_neg h3, if_neg (show ¬ sgS.getD 3 0 = xi2b c by show ¬ ((42 : Int) = xi2b c); unfold xi2b; omega)]
  rw [s4]
  by_cases h4 : c = 47
  · rw [if_pos h4, if_pos (show sgS.getD 4 0 = xi2b c by rw [h4]; decide)]; rfl
  rw [if_neg h4, if_neg (show ¬ sgS.getD 4 0 = xi2b c by show ¬ ((47 : Int) = xi2b c); unfold xi2b; omega)]
  rw [s5]
  by_cases h5 : c = 40
  · rw [if_pos h5, if_pos (show sgS.getD 5 0 = xi2b c by rw [h5]; decide)]; rfl
  rw [if_neg h5, if_neg (show ¬ sgS.getD 5 0 = xi2b c by show ¬ ((40 : Int) = xi2b c); unfold xi2b; omega)]
  rw [s6]
  by_cases h6 : c = 41
  · rw [if_pos h6, if_pos (show sgS.getD 6 0 = xi2b c by rw [h6]; decide)]; rfl
  rw [if_neg h6, if_neg (show ¬ sgS.getD 6 0 = xi2b c by show ¬ ((41 : Int) = xi2b c); unfold xi2b; omega)]
  rw [s7]
  by_cases h7 : c = 60
  · rw [if_pos h7, if_pos (show sgS.getD 7 0 = xi2b c by rw [h7]; decide)]; rfl
  rw [if_neg h7, if_neg (show ¬ sgS.getD 7 0 = xi2b c by show ¬ ((60 : Int) = xi2b c); unfold xi2b; omega)]
  rw [s8]
  by_cases h8 : c = 61
  · rw [if_pos h8, if_pos (show sgS.getD 8 0 = xi2b c by rw [h8]; decide)]; rfl
  rw [if_neg h8, if_neg (show ¬ sgS.getD 8 0 = xi2b c by show ¬ ((61 : Int) = xi2b c); unfold xi2b; omega)]
  rw [s9]
  by_cases h9 : c = 62
  · rw [if_pos h9, if_pos (show sgS.getD 9 0 = xi2b c by rw [h9]; decide)]; rfl
  rw [if_neg h9, if_neg (show ¬ sgS.getD 9 0 = xi2b c by show ¬ ((62 : Int) = xi2b c); unfold xi2b; omega)]
  rw [s10]
  rfl
/-- the class's tokens are these -/
def cT (M : xM) : Int → Ts → Prop
  | _, [] => True
  | a, t :: r => (M 38 a = t.1 ∧ M 39 a = t.2.1 ∧ (t.1 = 12 → M 40 a = t.2.2)) ∧ cT M (a + 1) r
theorem cT_fr {M M' : xM} (h1 : M' 38 = M 38) (h2 : M' 39 = M 39) (h3 : M' 40 = M 40) (ts : Ts) : ∀ a, cT M a ts → cT M' a ts := by
  induction ts with
  | nil => intro a _; trivial
  | cons t r ih =>
    intro a h
    refine ⟨?_, ih _ h.2⟩
    rw [h1, h2, h3]
    exact h.1
theorem cT_lo {M M' : xM} {b : Int} (h : ∀ j, j < b → M' 38 j = M 38 j ∧ M' 39 j = M 39 j ∧ M' 40 j = M 40 j) (ts : Ts) : ∀ a, a + ts.length ≤ b → cT M a ts → cT M' a ts := by
  induction ts with
  | nil => intro a _ _; trivial
  | cons t r ih =>
    intro a hb w
    rw [List.length_cons] at hb
    have q := h a (by omega)
    refine ⟨?_, ih _ (by omega) w.2⟩
    rw [q.1, q.2.1, q.2.2]
    exact w.1
theorem cT_app {M : xM} (p r : Ts) : ∀ a, cT M a p → cT M (a + p.length) r → cT M a (p ++ r) := by
  induction p with
  | nil =>
    intro a _ h
    rw [List.length_nil] at h
    have : a + ((0 : Nat) : Int) = a := by omega
    rw [this] at h
    exact h
  | cons t p ih =>
    intro a h1 h2
    refine ⟨h1.1, ih _ h1.2 ?_⟩
    rw [List.length_cons] at h2
    have : a + ((p.length + 1 : Nat) : Int) = a + 1 + (p.length : Int) := by omega
    rw [this] at h2
    exact h2
theorem splitTok_q {T : Int → Int} {L : Int} (hL : 0 ≤ L ∧ L ≤ 400) (n : Nat) : ∀ (M : xM) (i it v c : Int) (k : Nat), M 36 0 = L → (∀ i, 0 ≤ i → i < L → M 37 i = T i ∧ 0 ≤ T i ∧ T i ≤ 255) → M 36 7 = c → 0 ≤ c → 0 ≤ i → i ≤ L → 0 ≤ it → c + (L - i) ≤ 400 → it + (L - i) ≤ 400 → L - i < n → L - i < k → yk (fX7_splitTokens_L9 n M i it) fun M' => (∀ o, o ≠ 36 → o ≠ 38 → o ≠ 39 → o ≠ 40 → M' o = M o) ∧ (∀ j, j ≠ 7 → M' 36 j = M 36 j) ∧ (∀ j, j < c → M' 38 j = M 38 j ∧ M' 39 j = M 39 j ∧ M' 40 j = M 40 j) ∧ ∃ pre v', lx T L k i v = pre ++ [(23, L, v')] ∧ cT M' c pre ∧ M' 36 7 = c + pre.length := by
  induction n with
  | zero => intro M i it v c k _ _ _ _ _ _ _ _ _ h; omega
  | succ n ih =>
    intro M i it v c k h36 hT h7 c0 i0 i1 t0 hc hi hn hk
    obtain ⟨k, rfl⟩ : ∃ m, k = m + 1 := ⟨k - 1, by omega⟩
    unfold fX7_splitTokens_L9
    rw [h36, wr_id (x := i) (by omega) (by omega), wr_id (x := L) (by omega) (by omega), wr_id (x := it) (by omega) (by omega), wr_id (x := 400) (by omega) (by omega)]
    by_cases h : i < L
    · have t := hT i i0 h
      have key : ∀ (kd num v' i' : Int), i + 1 ≤ i' → i' ≤ L → lx T L (k + 1) i v = (kd, i, v') :: lx T L k i' v' → (kd = 12 → num = v') → yk (fX7_splitTokens_L9 n (tokM M c kd i num) i' (it + 1)) fun M' => (∀ o, o ≠ 36 → o ≠ 38 → o ≠ 39 → o ≠ 40 → M' o = M o) ∧ (∀ j, j ≠ 7 → M' 36 j = M 36 j) ∧ (∀ j, j < c → M' 38 j = M 38 j ∧ M' 39 j = M 39 j ∧ M' 40 j = M 40 j) ∧ ∃ pre v', lx T L (k + 1) i v = pre ++ [(23, L, v')] ∧ cT M' c pre ∧ M' 36 7 = c + pre.length := by
        intro kd num v' i' hi1 hi2 hl hnum
        have x38 : ∀ j, tokM M c kd i num 38 j = if j = c then kd else M 38 j := fun j => by unfold tokM; rw [xup_o (by omega), xup_o (by omega), xup_o (by omega), xup_s]
        have x39 : ∀ j, tokM M c kd i num 39 j = if j = c then i else M 39 j := fun j => by unfold tokM; rw [xup_o (by omega), xup_o (by omega), xup_s, xup_o (by omega)]
        have x40 : ∀ j, tokM M c kd i num 40 j = if j = c then num else M 40 j := fun j => by unfold tokM; rw [xup_o (by omega), xup_s, xup_o (by omega), xup_o (by omega)]
        have x36 : ∀ j, tokM M c kd i num 36 j = if j = 7 then c + 1 else M 36 j := fun j => by unfold tokM; rw [xup_s, xup_o (by omega), xup_o (by omega), xup_o (by omega)]
        have xo : ∀ o, o ≠ 36 → o ≠ 38 → o ≠ 39 → o ≠ 40 → tokM M c kd i num o = M o := fun o a b d e => by unfold tokM; rw [xup_o a, xup_o e, xup_o d, xup_o b]
        refine yk.mono (ih (tokM M c kd i num) i' (it + 1) v' (c + 1) k (by rw [x36, if_neg (by omega)]; exact h36) (fun j j0 j1 => by rw [xo 37 (by omega) (by omega) (by omega) (by omega)]; exact hT j j0 j1) (by rw [x36, if_pos rfl]) (by omega) (by omega) hi2 (by omega) (by omega) (by omega) (by omega) (by omega)) ?_
        intro M' q
        obtain ⟨q1, q2, q3, pre, w, q4, q5, q6⟩ := q
        refine ⟨fun o a b d e => by rw [q1 o a b d e, xo o a b d e], fun j hj => by rw [q2 j hj, x36, if_neg hj], fun j hj => ?_, (kd, i, v') :: pre, w, by rw [hl, q4]; rfl, ⟨?_, q5⟩, by rw [q6, List.length_cons]; omega⟩
        · have z := q3 j (by omega)
          rw [z.1, z.2.1, z.2.2, x38, x39, x40, if_neg (by omega), if_neg (by omega), if_neg (by omega)]
          exact ⟨rfl, rfl, rfl⟩
        · have z := q3 c (by omega)
          rw [z.1, z.2.1, z.2.2, x38, x39, x40, if_pos rfl, if_pos rfl, if_pos rfl]
          exact ⟨rfl, rfl, hnum⟩
      rw [if_pos (by omega), if_pos h, xrd_at i0 (by omega) (by omega), t.1, wr_id (x := T i) (by omega) (by omega), wr_id (x := 32) (by omega) (by omega), wr_id (x := 10) (by omega) (by omega), leK (by omega), diK (by omega)]
      have bl : tBl (T i) = true → yk (fX7_splitTokens_L9 n M (i + 1) (it + 1)) fun M' => (∀ o, o ≠ 36 → o ≠ 38 → o ≠ 39 → o ≠ 40 → M' o = M o) ∧ (∀ j, j ≠ 7 → M' 36 j = M 36 j) ∧ (∀ j, j < c → M' 38 j = M 38 j ∧ M' 39 j = M 39 j ∧ M' 40 j = M 40 j) ∧ ∃ pre v', lx T L (k + 1) i v = pre ++ [(23, L, v')] ∧ cT M' c pre ∧ M' 36 7 = c + pre.length := by
        intro hb
        rw [lx_blank h hb]
        exact ih M (i + 1) (it + 1) v c (k + 1) h36 hT h7 c0 (by omega) (by omega) (by omega) (by omega) (by omega) (by omega) (by omega)
      by_cases h32 : T i = 32
      · rw [if_pos h32]
        exact bl (by unfold tBl; rw [decide_eq_true_eq]; exact Or.inl h32)
      · rw [if_neg h32]
        by_cases h10 : T i = 10
        · rw [if_pos h10]
          exact bl (by unfold tBl; rw [decide_eq_true_eq]; exact Or.inr h10)
        · rw [if_neg h10]
          have hb : tBl (T i) = false := by unfold tBl; rw [decide_eq_false_iff_not]; omega
          cases hl : tLe (T i) with
          | true =>
            have g := sc_gt (P := tLe) h hl
            rw [if_pos rfl]
            unfold fX7_splitWord
            rw [splitWord_q (T := T) h36 hL.2 hT xfuel i i0 i1 (by unfold xfuel; omega), xb_some, keywordOf_e (T := T) hL.2 ⟨i0, by omega, g.2⟩ hT, xb_some, addTok_e h7 (by omega), xb_some, yk_xb2, yk_some]
            exact key _ 0 v _ g.1 g.2 (lx_word h hb hl) (fun w => by have := kwl_rng (tx T (sc tLe T L i - i).toNat i); omega)
          | false =>
            rw [if_neg (by decide)]
            cases hd : tDi (T i) with
            | true =>
              have g := sc_gt (P := tDi) h hd
              rw [if_pos rfl]
              unfold fX7_splitNumber
              rw [splitNum_q (T := T) h36 hL.2 i0 hT xfuel i 0 (by omega) i1 (by unfold xfuel; omega), yk_xb2, yk_xb2, yk_some, yk_xj, wr_id (x := 4) (by omega) (by omega), wr_id (x := sc tDi T L i - i) (by omega) (by omega)]
              dsimp only
              have le := lx_num (n := k) (v := v) h hb hl hd
              by_cases g4 : 4 < sc tDi T L i - i
              · rw [if_neg (by omega)] at le
                rw [if_pos g4, addTok_e h7 (by omega), xb_some, yk_some]
                exact key _ _ _ _ g.1 g.2 le (fun _ => rfl)
              · rw [if_pos (by omega)] at le
                rw [if_neg g4, addTok_e h7 (by omega), xb_some, yk_some]
                exact key _ _ _ _ g.1 g.2 le (fun _ => rfl)
            | false =>
              have sr := sgk_rng (T i)
              rw [if_neg (by decide), sgK (by omega), xb_some, yk_xj]
              have le := lx_sign (n := k) (v := v) h hb hl hd
              by_cases s24 : sgk (T i) = 24
              · rw [if_pos s24, if_pos (by decide)]
                dsimp only
                rw [addTok_e h7 (by omega), xb_some]
                rw [s24] at le
                exact key _ _ _ _ (by omega) (by omega) le (fun w => by omega)
              · have e13 : 13 + (sgk (T i) - 13) = sgk (T i) := by omega
                rw [if_neg s24, if_neg (by rw [wr_id (by omega) (by omega)]; omega)]
                dsimp only
                rw [addTok_e h7 (by omega), xb_some, e13]
                exact key _ _ _ _ (by omega) (by omega) le (fun w => by omega)
    · have hiL : i = L := by omega
      have fin : yk (some M) fun M' => (∀ o, o ≠ 36 → o ≠ 38 → o ≠ 39 → o ≠ 40 → M' o = M o) ∧ (∀ j, j ≠ 7 → M' 36 j = M 36 j) ∧ (∀ j, j < c → M' 38 j = M 38 j ∧ M' 39 j = M 39 j ∧ M' 40 j = M 40 j) ∧ ∃ pre v', lx T L (k + 1) i v = pre ++ [(23, L, v')] ∧ cT M' c pre ∧ M' 36 7 = c + pre.length := by
        rw [yk_some]
        refine ⟨fun _ _ _ _ _ => rfl, fun _ _ => rfl, fun _ _ => ⟨rfl, rfl, rfl⟩, [], v, by rw [hiL, lx_end]; rfl, trivial, ?_⟩
        rw [h7, List.length_nil]
        omega
      by_cases h400 : it < 400
      · rw [if_pos h400, if_neg h]
        exact fin
      · rw [if_neg h400]
        exact fin
theorem splitTokens_e {M : xM} {T : Int → Int} {L v : Int} {k : Nat} (hL : 0 ≤ L ∧ L ≤ 400) (h36 : M 36 0 = L) (hT : ∀ i, 0 ≤ i → i < L → M 37 i = T i ∧ 0 ≤ T i ∧ T i ≤ 255) (hk : L < k) : yk (fX7_splitTokens M) fun M' => (∀ o, o ≠ 36 → o ≠ 38 → o ≠ 39 → o ≠ 40 → M' o = M o) ∧ (∀ j, j ≠ 7 → M' 36 j = M 36 j) ∧ cT M' 0 (lx T L k 0 v) := by
  unfold fX7_splitTokens
  rw [yk_xlet, yk_xb]
  refine yk.mono (splitTok_q (T := T) hL xfuel (xup M 36 7 0) 0 0 v 0 k (by rw [xup_n (by omega)]; exact h36) (fun i i0 i1 => by rw [xup_o (by omega)]; exact hT i i0 i1) (xup_e rfl) (by omega) (by omega) (by omega) (by omega) (by omega) (by omega) (by unfold xfuel; omega) (by omega)) ?_
  intro M' q
  obtain ⟨q1, q2, q3, pre, w, q4, q5, q6⟩ := q
  have lo := lx_ok (T := T) hL.2 k 0 v (by omega) (by omega) (by omega)
  have le : ((pre.length + 1 : Nat) : Int) ≤ L - 0 + 1 := by
    have := lo.2
    rw [q4, List.length_append] at this
    exact this
  have q0 : M' 36 0 = L := by rw [q2 0 (by omega), xup_n (by omega)]; exact h36
  rw [addTok_e q6 (by omega), yk_xb, yk_some, yk_some, q0, Int.zero_add]
  have x38 : ∀ j, tokM M' pre.length 23 L 0 38 j = if j = pre.length then 23 else M' 38 j := fun j => by unfold tokM; rw [xup_o (by omega), xup_o (by omega), xup_o (by omega), xup_s]
  have x39 : ∀ j, tokM M' pre.length 23 L 0 39 j = if j = pre.length then L else M' 39 j := fun j => by unfold tokM; rw [xup_o (by omega), xup_o (by omega), xup_s, xup_o (by omega)]
  have x40 : ∀ j, tokM M' pre.length 23 L 0 40 j = if j = pre.length then 0 else M' 40 j := fun j => by unfold tokM; rw [xup_o (by omega), xup_s, xup_o (by omega), xup_o (by omega)]
  refine ⟨fun o a b d e => by unfold tokM; rw [xup_o a, xup_o e, xup_o d, xup_o b, q1 o a b d e, xup_o a], fun j hj => by unfold tokM; rw [xup_n hj, xup_o (by omega), xup_o (by omega), xup_o (by omega), q2 j hj, xup_n hj], ?_⟩
  rw [q4]
  refine cT_app _ _ _ (cT_lo (M := M') (b := pre.length) (fun j hj => by rw [x38, x39, x40, if_neg (by omega), if_neg (by omega), if_neg (by omega)]; exact ⟨rfl, rfl, rfl⟩) _ _ (by omega) q5) ?_
  rw [Int.zero_add]
  refine ⟨?_, trivial⟩
  rw [x38, x39, if_pos rfl, if_pos rfl]
  exact ⟨rfl, rfl, fun w => by dsimp only at w; omega⟩
