/-! an image -/
def xcq (M : xM) (o1 o2 : Nat) (n : Int) : xM := fun a j => if a = o2 ∧ 0 ≤ j ∧ j < n then M o1 j else M a j
theorem xcp_0 {α : Type} {M : xM} {o1 o2 : Nat} {l1 l2 nn : Int} {F : xM → Option α} (h2 : 0 ≤ nn) (h3 : nn ≤ l1) (h4 : nn ≤ l2) (h5 : l1 < 2147483648) (h6 : l2 < 2147483648) : xcp M o1 l1 0 o2 l2 0 nn F = F (xcq M o1 o2 nn) := by
  rw [xcp_at (by omega) (by omega) h2 (by omega) (by omega) h5 h6]
  congr 1
  funext a j
  unfold xcq
  by_cases h : a = o2 ∧ 0 ≤ j ∧ j < nn
  · rw [if_pos (by omega), if_pos h]
    congr 1
    omega
  · rw [if_neg (by omega), if_neg h]
theorem xcq_o {M : xM} {o1 o2 a : Nat} {n : Int} (h : a ≠ o2) : xcq M o1 o2 n a = M a := by
  funext j
  show (if _ then _ else _) = _
  rw [if_neg (fun e => h e.1)]
theorem xcq_e {M : xM} {o1 o2 : Nat} {n j : Int} (h : 0 ≤ j) (h2 : j < n) : xcq M o1 o2 n o2 j = M o1 j := by
  show (if _ then _ else _) = _
  rw [if_pos ⟨rfl, h, h2⟩]
theorem wc1 {M : xM} {o0 o1 : Nat} (h : o0 + 1 < o1 ∨ o1 + 1 < o0) (ha : M o1 2 = 0 ∨ M o1 2 = 1) (hl : 0 ≤ M o1 1 ∧ M o1 1 ≤ 400) : yk (fX9_copyFrom_i2 M o0 o1) fun M' => (M' o0 0 = M o1 0 ∧ M' o0 1 = M o1 1 ∧ M' o0 2 = M o1 2) ∧ (∀ j, 0 ≤ j → j < M o1 1 → M' (o0 + 1) j = M (o1 + 1) j) ∧ ∀ o, o ≠ o0 → o ≠ o0 + 1 → M' o = M o := by
  have eb : ∃ b : Bool, M o1 2 = b2i b := by
    rcases ha with e | e
    · exact ⟨false, e⟩
    · exact ⟨true, e⟩
  obtain ⟨b, eb⟩ := eb
  have ew : ∀ {α : Type} (F : Bool → Option α), xbl (b2i b) F = F b := by
    intro α F
    cases b <;> rfl
  unfold fX9_copyFrom_i2
  simp (disch := omega) only [xlet, xup_o, eb, ew, xup_n, xup_e, xcp_0, yk_some]
  refine ⟨⟨?_, ?_, ?_⟩, ?_, ?_⟩
  · simp (disch := omega) only [xcq_o, xup_n, xup_e]
  · simp (disch := omega) only [xcq_o, xup_n, xup_e]
  · simp (disch := omega) only [xcq_o, xup_n, xup_e]
  · intro j h0 h1
    simp (disch := omega) only [xcq_e, xup_o]
  · intro o h0 h1
    simp (disch := omega) only [xcq_o, xup_o]
theorem wcl_to {M0 : xM} (hs : ∀ k : Nat, k < 4 → (M0 (28 + 2 * k) 2 = 0 ∨ M0 (28 + 2 * k) 2 = 1) ∧ 0 ≤ M0 (28 + 2 * k) 1 ∧ M0 (28 + 2 * k) 1 ≤ 400) (n : Nat) : ∀ (M : xM) (k : Nat), k ≤ 4 → 4 - k < n → (∀ o, ¬ (138 ≤ o ∧ o < 138 + 2 * k) → M o = M0 o) → (∀ j : Nat, j < k → (M (138 + 2 * j) 0 = M0 (28 + 2 * j) 0 ∧ M (138 + 2 * j) 1 = M0 (28 + 2 * j) 1 ∧ M (138 + 2 * j) 2 = M0 (28 + 2 * j) 2) ∧ ∀ i, 0 ≤ i → i < M0 (28 + 2 * j) 1 → M (139 + 2 * j) i = M0 (29 + 2 * j) i) → yk (fX1_copyFrom_i2_L148 n M k) fun M' => (∀ o, ¬ (138 ≤ o ∧ o < 138 + 8) → M' o = M0 o) ∧ ∀ j : Nat, j < 4 → (M' (138 + 2 * j) 0 = M0 (28 + 2 * j) 0 ∧ M' (138 + 2 * j) 1 = M0 (28 + 2 * j) 1 ∧ M' (138 + 2 * j) 2 = M0 (28 + 2 * j) 2) ∧ ∀ i, 0 ≤ i → i < M0 (28 + 2 * j) 1 → M' (139 + 2 * j) i = M0 (29 + 2 * j) i := by
  induction n with
  | zero => intro M k h1 h2; omega
  | succ n ih =>
    intro M k h1 h2 hf hc
    unfold fX1_copyFrom_i2_L148
    by_cases h : k < 4
    · have e0 : wr (k : Int) = k := wr_id (by omega) (by omega)
      have e1 : ((k : Int)).toNat = k := by omega
      have e2 : (k : Int) + 1 = ((k + 1 : Nat) : Int) := by omega
      have a1 := hf (28 + 2 * k) (by omega)
      have a2 := hf (28 + 2 * k + 1) (by omega)
      have a3 := hs k h
      simp (disch := omega) only [xix_at, e0, wr_id (x := 4), if_pos, e1, yk_xb]
      refine yk.mono (wc1 (by omega) (by rw [a1]; exact a3.1) (by rw [a1]; exact a3.2)) ?_
      intro M2 h2
      rw [a1, a2] at h2
      rw [e2]
      refine ih M2 (k + 1) (by omega) (by omega) ?_ ?_
      · intro o ho
        rw [h2.2.2 o (by omega) (by omega)]
        exact hf o (by omega)
      · intro j hj
        by_cases hjk : j = k
        · subst hjk
          have e3 : 138 + 2 * j + 1 = 139 + 2 * j := by omega
          have e4 : 28 + 2 * j + 1 = 29 + 2 * j := by omega
          rw [e3, e4] at h2
          exact ⟨h2.1, h2.2.1⟩
        · rw [h2.2.2 (138 + 2 * j) (by omega) (by omega), h2.2.2 (139 + 2 * j) (by omega) (by omega)]
          exact hc j (by omega)
    · have e : k = 4 := by omega
      subst e
      have e9 : ¬ wr ((4 : Nat) : Int) < wr 4 := by decide
      rw [if_neg e9, yk_some]
      exact ⟨hf, hc⟩
set_option maxHeartbeats 4000000 in
theorem copy_to {M : xM} {W : Int → Int} (i : rI M W) (g : gW W) : yk (fX1_copyFrom_i2 M) fun M' => rI (fun o => M' (o + 110)) W ∧ ∀ o, ¬ (111 ≤ o ∧ o ≤ 145) → M' o = M o := by
  obtain ⟨iB, i2, i3, i4, i5, i6, i7, i8, i9⟩ := i
  have gb := g.1
  have p2 := i7.1
  unfold gB at gb
  unfold rB at iB
  try simp only [Nat.reduceAdd] at iB p2
  have wn := fun k hk => (i9 k hk)
  unfold fX1_copyFrom_i2 fX4_copyFrom_i2 fX6_copyFrom_i2 fX5_copyFrom_i2 fX2_copyFrom_i2
  simp (disch := omega) only [xlet, xcp_0, yk_xb, yk_some, xup_o, xup_n, xup_e, xcq_o, iB]
  have hs : ∀ (Q : xM), (∀ o, 28 ≤ o → o < 28 + 8 → Q o = M o) → ∀ k : Nat, k < 4 → (Q (28 + 2 * k) 2 = 0 ∨ Q (28 + 2 * k) 2 = 1) ∧ 0 ≤ Q (28 + 2 * k) 1 ∧ Q (28 + 2 * k) 1 ≤ 400 := by
    intro Q hQ k hk
    rw [hQ _ (by omega) (by omega)]
    have w := wn k hk
    have e5 : 28 + 2 * k + 0 = 28 + 2 * k := by omega
    unfold rWant at w
    try simp only [e5] at w
    refine ⟨w.2.2.2.2.1, ?_⟩
    rw [w.2.1]
    have := w.2.2.1
    omega
  refine yk.mono (wcl_to (hs _ ?_) xfuel _ 0 (by omega) (by unfold xfuel; omega) (fun o _ => rfl) (fun j hj => by omega)) ?_
  · intro o h1 h2
    simp (disch := omega) only [xup_o, xcq_o]
  · intro M' hM
    obtain ⟨hf, hw⟩ := hM
    refine ⟨⟨?_, ?_, ?_, ?_, ?_, ?_, ?_, ?_, ?_⟩, ?_⟩
    · unfold rB
      try simp only [Nat.reduceAdd]
      simp (disch := omega) only [hf, xup_o, xup_n, xup_e, xcq_o, xcq_e, and_self]
    · intro j h0 h1
      have := i2 j h0 h1
      try simp only [Nat.reduceAdd] at this ⊢
      simp (disch := omega) only [hf, xup_o, xup_n, xup_e, xcq_o, xcq_e]
      exact this
    · intro j h0 h1
      have := i3 j h0 h1
      try simp only [Nat.reduceAdd] at this ⊢
      have md := md_rng (a := W 2 - W 9 + j) (n := 410) (by omega)
      simp (disch := omega) only [hf, xup_o, xup_n, xup_e, xcq_o, xcq_e]
      exact this
    · intro j h0 h1
      have := i4 j h0 h1
      try simp only [Nat.reduceAdd] at this ⊢
      simp (disch := omega) only [hf, xup_o, xup_n, xup_e, xcq_o, xcq_e]
      exact this
    · intro j h0 h1
      have := i5 j h0 h1
      try simp only [Nat.reduceAdd] at this ⊢
      simp (disch := omega) only [hf, xup_o, xup_n, xup_e, xcq_o, xcq_e]
      exact this
    · intro j h0 h1
      have := i6 j h0 h1
      try simp only [Nat.reduceAdd] at this ⊢
      simp (disch := omega) only [hf, xup_o, xup_n, xup_e, xcq_o, xcq_e]
      exact this
    · refine ⟨?_, ?_⟩
      · try simp only [Nat.reduceAdd]
        simp (disch := omega) only [hf, xup_o, xup_n, xup_e, xcq_o, xcq_e]
        exact p2
      · intro j h0 h1
        have := i7.2 j h0 h1
        try simp only [Nat.reduceAdd] at this ⊢
        simp (disch := omega) only [hf, xup_o, xup_n, xup_e, xcq_o, xcq_e]
        exact this
    · intro j h0 h1
      have := i8 j h0 h1
      try simp only [Nat.reduceAdd] at this ⊢
      simp (disch := omega) only [hf, xup_o, xup_n, xup_e, xcq_o, xcq_e]
      exact this
    · intro k hk
      have w := wn k hk
      have q := hw k hk
      simp (disch := omega) only [xup_o, xcq_o] at q
      have e5 : 28 + 2 * k + 0 = 28 + 2 * k := by omega
      have e6 : 29 + 2 * k + 0 = 29 + 2 * k := by omega
      have e7 : 28 + 2 * k + 110 = 138 + 2 * k := by omega
      have e8 : 29 + 2 * k + 110 = 139 + 2 * k := by omega
      unfold rWant at w ⊢
      try simp only [e5, e6] at w
      try simp only [e7, e8]
      obtain ⟨w1, w2, w3, w4, w5, w6⟩ := w
      rw [q.1.1, q.1.2.1, q.1.2.2]
      refine ⟨w1, w2, w3, ?_, w5, w6⟩
      intro j hj
      rw [q.2 j (by omega) (by rw [w2]; omega)]
      exact w4 j hj
    · intro o ho
      rw [hf o (by omega)]
      simp (disch := omega) only [xup_o, xcq_o]
theorem wcl_from {M0 : xM} (hs : ∀ k : Nat, k < 4 → (M0 (138 + 2 * k) 2 = 0 ∨ M0 (138 + 2 * k) 2 = 1) ∧ 0 ≤ M0 (138 + 2 * k) 1 ∧ M0 (138 + 2 * k) 1 ≤ 400) (n : Nat) : ∀ (M : xM) (k : Nat), k ≤ 4 → 4 - k < n → (∀ o, ¬ (28 ≤ o ∧ o < 28 + 2 * k) → M o = M0 o) → (∀ j : Nat, j < k → (M (28 + 2 * j) 0 = M0 (138 + 2 * j) 0 ∧ M (28 + 2 * j) 1 = M0 (138 + 2 * j) 1 ∧ M (28 + 2 * j) 2 = M0 (138 + 2 * j) 2) ∧ ∀ i, 0 ≤ i → i < M0 (138 + 2 * j) 1 → M (29 + 2 * j) i = M0 (139 + 2 * j) i) → yk (fX1_copyFrom_L148 n M k) fun M' => (∀ o, ¬ (28 ≤ o ∧ o < 28 + 8) → M' o = M0 o) ∧ ∀ j : Nat, j < 4 → (M' (28 + 2 * j) 0 = M0 (138 + 2 * j) 0 ∧ M' (28 + 2 * j) 1 = M0 (138 + 2 * j) 1 ∧ M' (28 + 2 * j) 2 = M0 (138 + 2 * j) 2) ∧ ∀ i, 0 ≤ i → i < M0 (138 + 2 * j) 1 → M' (29 + 2 * j) i = M0 (139 + 2 * j) i := by
  induction n with
  | zero => intro M k h1 h2; omega
  | succ n ih =>
    intro M k h1 h2 hf hc
    unfold fX1_copyFrom_L148
    by_cases h : k < 4
    · have e0 : wr (k : Int) = k := wr_id (by omega) (by omega)
      have e1 : ((k : Int)).toNat = k := by omega
      have e2 : (k : Int) + 1 = ((k + 1 : Nat) : Int) := by omega
      have a1 := hf (138 + 2 * k) (by omega)
      have a2 := hf (138 + 2 * k + 1) (by omega)
      have a3 := hs k h
      simp (disch := omega) only [xix_at, e0, wr_id (x := 4), if_pos, e1, yk_xb]
      refine yk.mono (wc1 (by omega) (by rw [a1]; exact a3.1) (by rw [a1]; exact a3.2)) ?_
      intro M2 h2
      rw [a1, a2] at h2
      rw [e2]
      refine ih M2 (k + 1) (by omega) (by omega) ?_ ?_
      · intro o ho
        rw [h2.2.2 o (by omega) (by omega)]
        exact hf o (by omega)
      · intro j hj
        by_cases hjk : j = k
        · subst hjk
          have e3 : 28 + 2 * j + 1 = 29 + 2 * j := by omega
          have e4 : 138 + 2 * j + 1 = 139 + 2 * j := by omega
          rw [e3, e4] at h2
          exact ⟨h2.1, h2.2.1⟩
        · rw [h2.2.2 (28 + 2 * j) (by omega) (by omega), h2.2.2 (29 + 2 * j) (by omega) (by omega)]
          exact hc j (by omega)
    · have e : k = 4 := by omega
      subst e
      have e9 : ¬ wr ((4 : Nat) : Int) < wr 4 := by decide
      rw [if_neg e9, yk_some]
      exact ⟨hf, hc⟩
set_option maxHeartbeats 4000000 in
theorem copy_from {M : xM} {W : Int → Int} (i : rI (fun o => M (o + 110)) W) (g : gW W) : yk (fX1_copyFrom M) fun M' => rI M' W ∧ ∀ o, ¬ (1 ≤ o ∧ o ≤ 35) → M' o = M o := by
  obtain ⟨iB, i2, i3, i4, i5, i6, i7, i8, i9⟩ := i
  have gb := g.1
  have p2 := i7.1
  unfold gB at gb
  unfold rB at iB
  try simp only [Nat.reduceAdd] at iB p2
  have wn := fun k hk => (i9 k hk)
  unfold fX1_copyFrom fX4_copyFrom fX6_copyFrom fX5_copyFrom fX2_copyFrom
  simp (disch := omega) only [xlet, xcp_0, yk_xb, yk_some, xup_o, xup_n, xup_e, xcq_o, iB]
  have hs : ∀ (Q : xM), (∀ o, 138 ≤ o → o < 138 + 8 → Q o = M o) → ∀ k : Nat, k < 4 → (Q (138 + 2 * k) 2 = 0 ∨ Q (138 + 2 * k) 2 = 1) ∧ 0 ≤ Q (138 + 2 * k) 1 ∧ Q (138 + 2 * k) 1 ≤ 400 := by
    intro Q hQ k hk
    rw [hQ _ (by omega) (by omega)]
    have w := wn k hk
    have e5 : 28 + 2 * k + 110 = 138 + 2 * k := by omega
    unfold rWant at w
    try simp only [e5] at w
    refine ⟨w.2.2.2.2.1, ?_⟩
    rw [w.2.1]
    have := w.2.2.1
    omega
  refine yk.mono (wcl_from (hs _ ?_) xfuel _ 0 (by omega) (by unfold xfuel; omega) (fun o _ => rfl) (fun j hj => by omega)) ?_
  · intro o h1 h2
    simp (disch := omega) only [xup_o, xcq_o]
  · intro M' hM
    obtain ⟨hf, hw⟩ := hM
    refine ⟨⟨?_, ?_, ?_, ?_, ?_, ?_, ?_, ?_, ?_⟩, ?_⟩
    · unfold rB
      try simp only [Nat.reduceAdd]
      simp (disch := omega) only [hf, xup_o, xup_n, xup_e, xcq_o, xcq_e, and_self]
    · intro j h0 h1
      have := i2 j h0 h1
      try simp only [Nat.reduceAdd] at this ⊢
      simp (disch := omega) only [hf, xup_o, xup_n, xup_e, xcq_o, xcq_e]
      exact this
    · intro j h0 h1
      have := i3 j h0 h1
      try simp only [Nat.reduceAdd] at this ⊢
      have md := md_rng (a := W 2 - W 9 + j) (n := 410) (by omega)
      simp (disch := omega) only [hf, xup_o, xup_n, xup_e, xcq_o, xcq_e]
      exact this
    · intro j h0 h1
      have := i4 j h0 h1
      try simp only [Nat.reduceAdd] at this ⊢
      simp (disch := omega) only [hf, xup_o, xup_n, xup_e, xcq_o, xcq_e]
      exact this
    · intro j h0 h1
      have := i5 j h0 h1
      try simp only [Nat.reduceAdd] at this ⊢
      simp (disch := omega) only [hf, xup_o, xup_n, xup_e, xcq_o, xcq_e]
      exact this
    · intro j h0 h1
      have := i6 j h0 h1
      try simp only [Nat.reduceAdd] at this ⊢
      simp (disch := omega) only [hf, xup_o, xup_n, xup_e, xcq_o, xcq_e]
      exact this
    · refine ⟨?_, ?_⟩
      · try simp only [Nat.reduceAdd]
        simp (disch := omega) only [hf, xup_o, xup_n, xup_e, xcq_o, xcq_e]
        exact p2
      · intro j h0 h1
        have := i7.2 j h0 h1
        try simp only [Nat.reduceAdd] at this ⊢
        simp (disch := omega) only [hf, xup_o, xup_n, xup_e, xcq_o, xcq_e]
        exact this
    · intro j h0 h1
      have := i8 j h0 h1
      try simp only [Nat.reduceAdd] at this ⊢
      simp (disch := omega) only [hf, xup_o, xup_n, xup_e, xcq_o, xcq_e]
      exact this
    · intro k hk
      have w := wn k hk
      have q := hw k hk
      simp (disch := omega) only [xup_o, xcq_o] at q
      have e5 : 28 + 2 * k + 110 = 138 + 2 * k := by omega
      have e6 : 29 + 2 * k + 110 = 139 + 2 * k := by omega
      have e7 : 28 + 2 * k + 0 = 28 + 2 * k := by omega
      have e8 : 29 + 2 * k + 0 = 29 + 2 * k := by omega
      unfold rWant at w ⊢
      try simp only [e5, e6] at w
      try simp only [e7, e8]
      obtain ⟨w1, w2, w3, w4, w5, w6⟩ := w
      rw [q.1.1, q.1.2.1, q.1.2.2]
      refine ⟨w1, w2, w3, ?_, w5, w6⟩
      intro j hj
      rw [q.2 j (by omega) (by rw [w2]; omega)]
      exact w4 j hj
    · intro o ho
      rw [hf o (by omega)]
      simp (disch := omega) only [xup_o, xcq_o]
