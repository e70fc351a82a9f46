/-! a noon: the reference's votes, gathered -/
theorem votesM_q {M0 : xM} (g : gW (M0 95)) (m : Nat) : ∀ (n : Nat) (M : xM) (p : Nat) (a b c d : Int), (∀ o, o ≠ 101 → o ≠ 102 → M o = M0 o) → (p : Int) + m = M0 95 5 → m < n → (0 ≤ a ∧ a < 1024) → (0 ≤ b ∧ b < 1024) → (0 ≤ c ∧ c < 1024) → (0 ≤ d ∧ d < 1024) → (∀ j : Int, 0 ≤ j → bt a j = if j < p ∧ sVv (M0 95) j = 1 then 1 else 0) → (∀ j : Int, 0 ≤ j → bt b j = if j < p ∧ sVv (M0 95) j = -1 then 1 else 0) → (∀ j : Int, 0 ≤ j → bt c j = b2i (sPb (M0 95) 1 j p)) → (∀ j : Int, 0 ≤ j → bt d j = b2i (sPb (M0 95) (-1) j p)) → yk (fX12_aNoon_L12 n M a b c d p) fun q => (∀ o, o ≠ 101 → o ≠ 102 → q.2.2.2.2 o = M0 o) ∧ ((0 ≤ q.1 ∧ q.1 < 1024) ∧ (0 ≤ q.2.1 ∧ q.2.1 < 1024) ∧ (0 ≤ q.2.2.1 ∧ q.2.2.1 < 1024) ∧ (0 ≤ q.2.2.2.1 ∧ q.2.2.2.1 < 1024)) ∧ (∀ j : Int, 0 ≤ j → bt q.1 j = if j < M0 95 5 ∧ sVv (M0 95) j = 1 then 1 else 0) ∧ (∀ j : Int, 0 ≤ j → bt q.2.1 j = if j < M0 95 5 ∧ sVv (M0 95) j = -1 then 1 else 0) ∧ (∀ j : Int, 0 ≤ j → bt q.2.2.1 j = b2i (sPb (M0 95) 1 j (M0 95 5).toNat)) ∧ ∀ j : Int, 0 ≤ j → bt q.2.2.2.1 j = b2i (sPb (M0 95) (-1) j (M0 95 5).toNat) := by
  have gb := g.1
  unfold gB at gb
  induction m with
  | zero =>
    intro n M p a b c d hM h1 h2 ra rb rc rd ha hb hc hd
    obtain ⟨n', rfl⟩ : ∃ n', n = n' + 1 := ⟨n - 1, by omega⟩
    have ep : (p : Int) = M0 95 5 := by omega
    have ep2 : p = (M0 95 5).toNat := by omega
    unfold fX12_aNoon_L12
    rw [hM 95 (by omega) (by omega), if_neg (by rw [wr_id (by omega) (by omega), wr_id (by omega) (by omega)]; omega), yk_some]
    rw [ep] at ha hb
    rw [ep2] at hc hd
    exact ⟨hM, ⟨ra, rb, rc, rd⟩, ha, hb, hc, hd⟩
  | succ m ih =>
    intro n M p a b c d hM h1 h2 ra rb rc rd ha hb hc hd
    obtain ⟨n', rfl⟩ : ∃ n', n = n' + 1 := ⟨n - 1, by omega⟩
    have w := hM 95 (by omega) (by omega)
    have hr := sHold_rng (W := M0 95) (p := p) (d := M0 95 2) g.2.2.2.2.2.2.1 g.1 (by omega)
    have vr := sVote_rng (W := M0 95) (o := sHold (M0 95) p (M0 95 2)) g
    have e3 : (p : Int) + 1 = ((p + 1 : Nat) : Int) := by omega
    have w1 : wr 1 = 1 := by decide
    have w2 : wr (-1) = -1 := by decide
    have es : ∀ x j, sPb (M0 95) x j (p + 1) = (sPb (M0 95) x j p || decide (sVv (M0 95) p = x ∧ sHold (M0 95) p (M0 95 2) = j)) := fun x j => rfl
    unfold fX12_aNoon_L12
    rw [w, if_pos (by rw [wr_id (by omega) (by omega), wr_id (by omega) (by omega)]; omega), holdOf_e (M := M) (by rw [w]; exact g.2.2.2.2.2.2.1) (by rw [w]; exact g.1) (by omega) (by omega), w, yk_xb, yk_some, yk_xb2]
    refine yk.mono (voteOfM_e (M := M) (by rw [w]; exact g) (by rw [w]; exact hr)) ?_
    intro z hz
    have zv : z.1 = sVv (M0 95) p := by rw [hz.1, w]; rfl
    have vr2 : -1 ≤ sVv (M0 95) p ∧ sVv (M0 95) p ≤ 1 := vr
    have step := ih n' z.2 (p + 1) (xor_ a (if sVv (M0 95) p = 1 then xshl 1 p else 0)) (xor_ b (if sVv (M0 95) p = -1 then xshl 1 p else 0)) (xor_ c (if sVv (M0 95) p = 1 then xshl 1 (sHold (M0 95) p (M0 95 2)) else 0)) (xor_ d (if sVv (M0 95) p = -1 then xshl 1 (sHold (M0 95) p (M0 95 2)) else 0)) (fun o o1 o2 => by rw [hz.2 o o1 o2, hM o o1 o2]) (by omega) (by omega) (or_if ra.1 ra.2 (by omega) (by omega)).1 (or_if rb.1 rb.2 (by omega) (by omega)).1 (or_if rc.1 rc.2 (by omega) (by omega)).1 (or_if rd.1 rd.2 (by omega) (by omega)).1 ?_ ?_ ?_ ?_
    · rw [zv, wr_id (x := sVv (M0 95) p) (by omega) (by omega), w1, w2, e3, yk_xj]
      by_cases v1 : sVv (M0 95) p = 1
      · rw [if_pos v1, if_neg (show ¬ sVv (M0 95) p = -1 by omega), if_pos v1, if_neg (show ¬ sVv (M0 95) p = -1 by omega)] at step
        rw [if_pos v1, yk_xj, if_neg (show ¬ sVv (M0 95) p = -1 by omega), yk_xj, if_pos v1]
        dsimp only
        rw [if_neg (show ¬ sVv (M0 95) p = -1 by omega)]
        exact step
      · by_cases v2 : sVv (M0 95) p = -1
        · rw [if_neg v1, if_pos v2, if_neg v1, if_pos v2] at step
          rw [if_neg v1, yk_xj, if_pos v2, yk_xj, if_neg v1]
          dsimp only
          rw [if_pos v2]
          exact step
        · rw [if_neg v1, if_neg v2, if_neg v1, if_neg v2] at step
          rw [if_neg v1, yk_xj, if_neg v2, yk_xj, if_neg v1]
          dsimp only
          rw [if_neg v2]
          exact step
    · intro j j0
      rw [(or_if ra.1 ra.2 (by omega) (by omega)).2 j j0, ha j j0]
      by_cases e : j = p
      · subst e
        by_cases v1 : sVv (M0 95) p = 1
        · rw [if_pos ⟨v1, rfl⟩, if_pos ⟨by omega, v1⟩]
        · rw [if_neg (fun w => v1 w.1), if_neg (fun w => v1 w.2), if_neg (fun w => v1 w.2)]
      · rw [if_neg (fun w => e w.2)]
        by_cases q : j < p ∧ sVv (M0 95) j = 1
        · rw [if_pos q, if_pos ⟨by omega, q.2⟩]
        · rw [if_neg q, if_neg (fun w => q ⟨by omega, w.2⟩)]
    · intro j j0
      rw [(or_if rb.1 rb.2 (by omega) (by omega)).2 j j0, hb j j0]
      by_cases e : j = p
      · subst e
        by_cases v1 : sVv (M0 95) p = -1
        · rw [if_pos ⟨v1, rfl⟩, if_pos ⟨by omega, v1⟩]
        · rw [if_neg (fun w => v1 w.1), if_neg (fun w => v1 w.2), if_neg (fun w => v1 w.2)]
      · rw [if_neg (fun w => e w.2)]
        by_cases q : j < p ∧ sVv (M0 95) j = -1
        · rw [if_pos q, if_pos ⟨by omega, q.2⟩]
        · rw [if_neg q, if_neg (fun w => q ⟨by omega, w.2⟩)]
    · intro j j0
      rw [(or_if rc.1 rc.2 (by omega) (by omega)).2 j j0, hc j j0, es]
      by_cases q : sVv (M0 95) p = 1 ∧ j = sHold (M0 95) p (M0 95 2)
      · rw [if_pos q, decide_eq_true ⟨q.1, q.2.symm⟩, Bool.or_true]
        rfl
      · rw [if_neg q, decide_eq_false (fun w => q ⟨w.1, w.2.symm⟩), Bool.or_false]
    · intro j j0
      rw [(or_if rd.1 rd.2 (by omega) (by omega)).2 j j0, hd j j0, es]
      by_cases q : sVv (M0 95) p = -1 ∧ j = sHold (M0 95) p (M0 95 2)
      · rw [if_pos q, decide_eq_true ⟨q.1, q.2.symm⟩, Bool.or_true]
        rfl
      · rw [if_neg q, decide_eq_false (fun w => q ⟨w.1, w.2.symm⟩), Bool.or_false]
