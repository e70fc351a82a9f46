/-! text: what the reference writes down -/
theorem t140_q {v1 N : Int} (hv : 0 ≤ v1 ∧ v1 ≤ 3) (hN : 0 ≤ N ∧ N ≤ 16) (n : Nat) : ∀ (M : xM) (i : Int), M 94 10 = N → 0 ≤ i → i ≤ N → N - i < n → yk (fX12_text_L140 n M v1 i) fun M' => (∀ o, o ≠ 95 → M' o = M o) ∧ ∀ j, M' 95 j = if 2330 + 16 * v1 + i ≤ j ∧ j < 2330 + 16 * v1 + N then M 98 (3 * (j - 2330 - 16 * v1)) else if 2400 + 16 * v1 + i ≤ j ∧ j < 2400 + 16 * v1 + N then M 98 (3 * (j - 2400 - 16 * v1) + 1) else if 2470 + 16 * v1 + i ≤ j ∧ j < 2470 + 16 * v1 + N then M 98 (3 * (j - 2470 - 16 * v1) + 2) else M 95 j := by
  induction n with
  | zero => intro M i _ _ _ h; omega
  | succ n ih =>
    intro M i h10 i0 i1 hn
    unfold fX12_text_L140
    rw [h10, wr_id (x := i) (by omega) (by omega), wr_id (x := N) (by omega) (by omega)]
    by_cases h : i < N
    · rw [if_pos h, xrd_at (by omega) (by omega) (by omega), xwt_at (by omega) (by omega) (by omega), xrd_at (by omega) (by omega) (by omega), xwt_at (by omega) (by omega) (by omega), xrd_at (by omega) (by omega) (by omega), xwt_at (by omega) (by omega) (by omega), xup_o (by omega), xup_o (by omega)]
      refine yk.mono (ih _ (i + 1) (by rw [xup_o (by omega), xup_o (by omega), xup_o (by omega)]; exact h10) (by omega) (by omega) (by omega)) ?_
      intro M' q
      refine ⟨fun o ho => by rw [q.1 o ho, xup_o ho, xup_o ho, xup_o ho], ?_⟩
      intro j
      rw [q.2 j, xup_o (by omega), xup_o (by omega), xup_o (by omega), xup_s, xup_s, xup_s]
      by_cases c1 : j = 2330 + 16 * v1 + i
      · subst c1
        have e : 2330 + 16 * v1 + i - 2330 - 16 * v1 = i := by omega
        rw [if_neg (by omega), if_neg (by omega), if_neg (by omega), if_neg (by omega), if_neg (by omega), if_pos rfl, if_pos (by omega), e]
      · by_cases c2 : j = 2400 + 16 * v1 + i
        · subst c2
          have e : 2400 + 16 * v1 + i - 2400 - 16 * v1 = i := by omega
          rw [if_neg (by omega), if_neg (by omega), if_neg (by omega), if_neg (by omega), if_pos rfl, if_neg (by omega), if_pos (by omega), e]
        · by_cases c3 : j = 2470 + 16 * v1 + i
          · subst c3
            have e : 2470 + 16 * v1 + i - 2470 - 16 * v1 = i := by omega
            rw [if_neg (by omega), if_neg (by omega), if_neg (by omega), if_pos rfl, if_neg (by omega), if_neg (by omega), if_pos (by omega), e]
          · rw [if_neg c3, if_neg c2, if_neg c1]
            by_cases d1 : 2330 + 16 * v1 + i ≤ j ∧ j < 2330 + 16 * v1 + N
            · rw [if_pos (by omega), if_pos d1]
            · rw [if_neg (by omega), if_neg d1]
              by_cases d2 : 2400 + 16 * v1 + i ≤ j ∧ j < 2400 + 16 * v1 + N
              · rw [if_pos (by omega), if_pos d2]
              · rw [if_neg (by omega), if_neg d2]
                by_cases d3 : 2470 + 16 * v1 + i ≤ j ∧ j < 2470 + 16 * v1 + N
                · rw [if_pos (by omega), if_pos d3]
                · rw [if_neg (by omega), if_neg d3]
    · rw [if_neg h, yk_some]
      refine ⟨fun _ _ => rfl, fun j => ?_⟩
      rw [if_neg (by omega), if_neg (by omega), if_neg (by omega)]
theorem t229_q {v1 K : Int} (hv : 0 ≤ v1 ∧ v1 ≤ 3) (hK : 0 ≤ K ∧ K ≤ 410) (n : Nat) : ∀ (M : xM) (i : Int), M 94 11 = K → 0 ≤ i → i ≤ 2 * K → 2 * K - i < n → yk (fX12_text_L229 n M v1 i) fun M' => (∀ o, o ≠ 95 → M' o = M o) ∧ ∀ j, M' 95 j = if 2540 + 820 * v1 + i ≤ j ∧ j < 2540 + 820 * v1 + 2 * K then M 99 (j - 2540 - 820 * v1) else M 95 j := by
  induction n with
  | zero => intro M i _ _ _ h; omega
  | succ n ih =>
    intro M i h11 i0 i1 hn
    unfold fX12_text_L229
    rw [h11, wr_id (x := i) (by omega) (by omega), wr_id (x := 2 * K) (by omega) (by omega)]
    by_cases h : i < 2 * K
    · rw [if_pos h, xrd_at (by omega) (by omega) (by omega), xwt_at (by omega) (by omega) (by omega)]
      refine yk.mono (ih _ (i + 1) (by rw [xup_o (by omega)]; exact h11) (by omega) (by omega) (by omega)) ?_
      intro M' q
      refine ⟨fun o ho => by rw [q.1 o ho, xup_o ho], ?_⟩
      intro j
      rw [q.2 j, xup_o (by omega), xup_s]
      by_cases c1 : j = 2540 + 820 * v1 + i
      · subst c1
        have e : 2540 + 820 * v1 + i - 2540 - 820 * v1 = i := by omega
        rw [if_neg (by omega), if_pos rfl, if_pos (by omega), e]
      · rw [if_neg c1]
        by_cases d1 : 2540 + 820 * v1 + i ≤ j ∧ j < 2540 + 820 * v1 + 2 * K
        · rw [if_pos (by omega), if_pos d1]
        · rw [if_neg (by omega), if_neg d1]
    · rw [if_neg h, yk_some]
      refine ⟨fun _ _ => rfl, fun j => ?_⟩
      rw [if_neg (by omega)]
def wE (W W' : Int → Int) (k : Int) : Prop := W' (2320 + k) = W (2320 + k) ∧ (∀ i, 0 ≤ i → i < 16 → W' (2330 + 16 * k + i) = W (2330 + 16 * k + i) ∧ W' (2400 + 16 * k + i) = W (2400 + 16 * k + i) ∧ W' (2470 + 16 * k + i) = W (2470 + 16 * k + i)) ∧ ∀ i, 0 ≤ i → i < 820 → W' (2540 + 820 * k + i) = W (2540 + 820 * k + i)
def wT (W W' : Int → Int) (k : Int) (ls : List (St × St)) : Prop := (W' (2320 + k) = ls.length ∧ ∀ i : Nat, i < ls.length → sFr W' k i = ((gsL (ls.take i)).length : Int) ∧ sMi W' k i = ((gsL (ls.take i) ++ (ls.getD i ([], [])).1).length : Int) ∧ sTo W' k i = ((gsL (ls.take (i + 1))).length : Int)) ∧ (∀ i : Nat, i < (gsL ls).length → W' (2540 + 820 * k + 2 * i) = ((gsL ls).getD i (0, 0)).1 ∧ W' (2540 + 820 * k + 2 * i + 1) = ((gsL ls).getD i (0, 0)).2) ∧ (∀ j, j < 2320 → W' j = W j) ∧ ∀ k', 0 ≤ k' → k' < 4 → k' ≠ k → wE W W' k'
theorem textM_e {M : xM} {a : Int} (ha : 0 ≤ a ∧ a ≤ 3) (hO : tO M) : yk (fX12_text M a) fun q => (∀ o, o ≠ 94 → o ≠ 95 → o ≠ 98 → o ≠ 99 → q.2 o = M o) ∧ (∀ j, j < 10 → q.2 94 j = M 94 j) ∧ q.2 94 12 = 0 ∧ match txt (M 100) (M 94 12) (M 94 16) with
    | .inl f => q.1 = -1 ∧ (q.2 94 19 = f.1 ∧ q.2 94 21 = f.2) ∧ q.2 95 = M 95
    | .inr ls => q.1 = ls.length ∧ (q.2 94 19 = 0 ∧ q.2 94 21 = -1) ∧ wT (M 95) (q.2 95) a ls := by
  have hO1 : 0 ≤ M 94 12 ∧ M 94 12 ≤ 400 := hO.1
  have lo := lx_ok (T := M 100) hO.1.2 401 0 (M 94 16) (by omega) (by omega) (by omega)
  have tg := txt_g (T := M 100) (v := M 94 16) hO.1
  unfold fX12_text
  rw [yk_xlet, isIn_eq (by omega) (by omega) (by omega) (by omega) (by omega) (by omega), if_pos (decide_eq_true (show 0 ≤ a ∧ a ≤ 3 by omega)), yk_xlet, yk_xlet, yk_xlet, yk_xb]
  generalize hM4 : xup (xup (xup (xup M 94 17 0) 94 13 0) 94 10 0) 94 11 0 = M4
  have m11 : M4 94 11 = 0 := by rw [← hM4]; exact xup_e rfl
  have m10 : M4 94 10 = 0 := by rw [← hM4, xup_n (by omega)]; exact xup_e rfl
  have m13 : M4 94 13 = 0 := by rw [← hM4, xup_n (by omega), xup_n (by omega)]; exact xup_e rfl
  have m17 : M4 94 17 = 0 := by rw [← hM4, xup_n (by omega), xup_n (by omega), xup_n (by omega)]; exact xup_e rfl
  have mj : ∀ j, j ≠ 17 → j ≠ 13 → j ≠ 10 → j ≠ 11 → M4 94 j = M 94 j := fun j a b c d => by rw [← hM4, xup_n d, xup_n c, xup_n b, xup_n a]
  have mo : ∀ o, o ≠ 94 → M4 o = M o := fun o ho => by rw [← hM4, xup_o ho, xup_o ho, xup_o ho, xup_o ho]
  clear hM4
  have e12 := mj 12 (by omega) (by omega) (by omega) (by omega)
  have e16 := mj 16 (by omega) (by omega) (by omega) (by omega)
  have e100 := mo 100 (by omega)
  have tO4 : tO M4 := tO_fr hO e100 e12
  refine yk.mono (next0_e (k := 401) tO4 (by omega) (by rw [e12]; omega) (by rw [e12]; omega)) ?_
  intro M6 q6
  obtain ⟨f6, r6⟩ := q6
  rw [e100, e12, m13, e16] at r6
  have s6 : rS M6 (lx (M 100) (M 94 12) 401 0 (M 94 16)) (gsL []) (M6 94 20) := ⟨tO_fr tO4 (f6.1 100 (by omega)) (f6.2 12 (by omega) (by omega) (by omega) (by omega)), r6, lo.1, ⟨by rw [f6.2 11 (by omega) (by omega) (by omega) (by omega)]; exact m11, fun i hi => absurd hi (Nat.not_lt_zero i)⟩, rfl⟩
  have n10 : M6 94 10 = 0 := by rw [f6.2 10 (by omega) (by omega) (by omega) (by omega)]; exact m10
  have n17 : M6 94 17 = 0 := by rw [f6.2 17 (by omega) (by omega) (by omega) (by omega)]; exact m17
  have fr6 : ∀ o, o ≠ 94 → M6 o = M o := fun o ho => by rw [f6.1 o ho, mo o ho]
  have fj6 : ∀ j, j < 10 ∨ j = 12 → M6 94 j = M 94 j := fun j hj => by rw [f6.2 j (by omega) (by omega) (by omega) (by omega), mj j (by omega) (by omega) (by omega) (by omega)]
  rw [yk_xb2]
  refine yk.mono (linesM_q (v1 := a) xfuel M6 _ [] _ 402 s6 (by show 0 + _ ≤ _; omega) n10 (by show 0 ≤ 16; omega) (fun i hi => absurd hi (Nat.not_lt_zero i)) (by unfold xfuel; omega) (by omega)) ?_
  intro q hq
  obtain ⟨z1, z2⟩ := hq
  have fo : ∀ o, o ≠ 94 → o ≠ 98 → o ≠ 99 → q.2 o = M o := fun o a b c => by rw [z1.1 o a b c, fr6 o a]
  have fj : ∀ j, j < 10 → q.2 94 j = M 94 j := fun j hj => by rw [z1.2 j (by omega) (by omega) (by omega) (by omega), fj6 j (by omega)]
  unfold txt at tg ⊢
  rw [yk_xlet, yk_xlet, yk_xj]
  have y19 : xup q.2 94 12 0 94 17 = q.2 94 17 := xup_n (by omega)
  rw [y19]
  rcases tg with ⟨f, ef, hf⟩ | ⟨ls, el, hl1, hl2, hl3⟩
  · rw [ef] at z2 ⊢
    obtain ⟨y1, y2, y3⟩ := z2
    rw [y1, if_pos wr_0, yk_xlet, if_pos wr_0, yk_some]
    have y18 : xup (xup q.2 94 12 0) 94 19 (q.2 94 17) 94 18 = q.2 94 18 := by rw [xup_n (by omega), xup_n (by omega)]
    rw [y18]
    refine ⟨fun o a b c d => by dsimp only; rw [xup_o a, xup_o a, xup_o a, fo o a c d], fun j hj => by dsimp only; rw [xup_n (by omega), xup_n (by omega), xup_n (by omega), fj j hj], by dsimp only; rw [xup_n (by omega), xup_n (by omega), xup_e rfl], rfl, ⟨by dsimp only; rw [xup_n (by omega), xup_e rfl, y2], by dsimp only; rw [xup_e rfl, y3]⟩, by dsimp only; rw [xup_o (by omega), xup_o (by omega), xup_o (by omega), fo 95 (by omega) (by omega) (by omega)]⟩
  · rw [el] at z2 ⊢
    obtain ⟨y1, y2, y3, y4, y5⟩ := z2
    have w1 : ¬ (wr 1 = 0) := by decide
    rw [y1, if_neg w1, yk_xlet, if_neg w1]
    generalize hM20 : xup (xup (xup q.2 94 12 0) 94 19 (q.2 94 17)) 94 21 (-1) = M20
    have b10 : M20 94 10 = ls.length := by rw [← hM20, xup_n (by omega), xup_n (by omega), xup_n (by omega)]; exact y3
    have b11 : M20 94 11 = (gsL ls).length := by rw [← hM20, xup_n (by omega), xup_n (by omega), xup_n (by omega)]; exact y5.1
    have b12 : M20 94 12 = 0 := by rw [← hM20, xup_n (by omega), xup_n (by omega), xup_e rfl]
    have b19 : M20 94 19 = 0 := by rw [← hM20, xup_n (by omega), xup_e rfl, y2]; exact n17
    have b21 : M20 94 21 = -1 := by rw [← hM20, xup_e rfl]
    have bj : ∀ j, j < 10 → M20 94 j = M 94 j := fun j hj => by rw [← hM20, xup_n (by omega), xup_n (by omega), xup_n (by omega), fj j hj]
    have bo : ∀ o, o ≠ 94 → M20 o = q.2 o := fun o ho => by rw [← hM20, xup_o ho, xup_o ho, xup_o ho]
    clear hM20
    have gl := gsL_len ls
    rw [b10, xwt_at (by omega) (by omega) (by omega), yk_xb]
    refine yk.mono (t140_q (N := ls.length) ha (by omega) xfuel (xup M20 95 (2320 + a) ls.length) 0 (by rw [xup_o (by omega)]; exact b10) (by omega) (by omega) (by unfold xfuel; omega)) ?_
    intro M28 p1
    rw [yk_xb]
    refine yk.mono (t229_q (K := (gsL ls).length) ha (by omega) xfuel M28 0 (by rw [p1.1 94 (by omega), xup_o (by omega)]; exact b11) (by omega) (by omega) (by unfold xfuel; omega)) ?_
    intro M32 p2
    rw [yk_some]
    have g94 : M32 94 = M20 94 := by rw [p2.1 94 (by omega), p1.1 94 (by omega), xup_o (by omega)]
    have g98 : ∀ j, xup M20 95 (2320 + a) ls.length 98 j = q.2 98 j := fun j => by rw [xup_o (by omega), bo 98 (by omega)]
    have g99 : ∀ j, M28 99 j = q.2 99 j := fun j => by rw [p1.1 99 (by omega), xup_o (by omega), bo 99 (by omega)]
    have g95 : ∀ j, xup M20 95 (2320 + a) ls.length 95 j = if j = 2320 + a then (ls.length : Int) else M 95 j := fun j => by rw [xup_s, bo 95 (by omega), fo 95 (by omega) (by omega) (by omega)]
    have all : ∀ j, M32 95 j = if 2540 + 820 * a + 0 ≤ j ∧ j < 2540 + 820 * a + 2 * (gsL ls).length then q.2 99 (j - 2540 - 820 * a) else if 2330 + 16 * a + 0 ≤ j ∧ j < 2330 + 16 * a + ls.length then q.2 98 (3 * (j - 2330 - 16 * a)) else if 2400 + 16 * a + 0 ≤ j ∧ j < 2400 + 16 * a + ls.length then q.2 98 (3 * (j - 2400 - 16 * a) + 1) else if 2470 + 16 * a + 0 ≤ j ∧ j < 2470 + 16 * a + ls.length then q.2 98 (3 * (j - 2470 - 16 * a) + 2) else if j = 2320 + a then (ls.length : Int) else M 95 j := fun j => by rw [p2.2 j, g99, p1.2 j, g98, g98, g98, g95]
    refine ⟨fun o a b c d => by dsimp only; rw [p2.1 o b, p1.1 o b, xup_o b, bo o a, fo o a c d], fun j hj => by dsimp only; rw [g94]; exact bj j hj, by dsimp only; rw [g94]; exact b12, by dsimp only; rw [g94]; exact b10, ⟨by dsimp only; rw [g94]; exact b19, by dsimp only; rw [g94]; exact b21⟩, ⟨?_, ?_⟩, ?_, ?_, ?_⟩
    · dsimp only
      rw [all, if_neg (by omega), if_neg (by omega), if_neg (by omega), if_neg (by omega), if_pos rfl]
    · intro i hi
      have h := y4 i hi
      unfold sFr sMi sTo
      dsimp only
      rw [all, all, all]
      have e1 : 2330 + 16 * a + (i : Int) - 2330 - 16 * a = i := by omega
      have e2 : 2400 + 16 * a + (i : Int) - 2400 - 16 * a = i := by omega
      have e3 : 2470 + 16 * a + (i : Int) - 2470 - 16 * a = i := by omega
      rw [if_neg (by omega), if_pos (by omega), e1, if_neg (by omega), if_neg (by omega), if_pos (by omega), e2, if_neg (by omega), if_neg (by omega), if_neg (by omega), if_pos (by omega), e3]
      exact h
    · intro i hi
      have h := y5.2 i hi
      dsimp only
      rw [all, all]
      have e1 : 2540 + 820 * a + 2 * (i : Int) - 2540 - 820 * a = 2 * i := by omega
      have e2 : 2540 + 820 * a + 2 * (i : Int) + 1 - 2540 - 820 * a = 2 * i + 1 := by omega
      rw [if_pos (by omega), if_pos (by omega), e1, e2]
      exact h
    · intro j hj
      dsimp only
      rw [all, if_neg (by omega), if_neg (by omega), if_neg (by omega), if_neg (by omega), if_neg (by omega)]
    · intro k' k0 k1 kn
      have far : ∀ j, (j < 2330 ∧ j ≠ 2320 + a) ∨ (2330 ≤ j ∧ j < 2540 ∧ (j < 2330 + 16 * a ∨ 2346 + 16 * a ≤ j) ∧ (j < 2400 + 16 * a ∨ 2416 + 16 * a ≤ j) ∧ (j < 2470 + 16 * a ∨ 2486 + 16 * a ≤ j)) ∨ (2540 ≤ j ∧ (j < 2540 + 820 * a ∨ 3360 + 820 * a ≤ j)) → M32 95 j = M 95 j := by
        intro j hj
        rw [all, if_neg (by omega), if_neg (by omega), if_neg (by omega), if_neg (by omega), if_neg (by omega)]
      have kc : k' < a ∨ a < k' := by omega
      refine ⟨far _ (by omega), fun i i0 i1 => ⟨far _ (by omega), far _ (by omega), far _ (by omega)⟩, fun i i0 i1 => far _ (by omega)⟩
/-! what is then there -/
theorem gsL_app2 (a b : List (St × St)) : gsL (a ++ b) = gsL a ++ gsL b := by
  induction a with
  | nil => rfl
  | cons x a ih => show (x.1 ++ x.2) ++ gsL (a ++ b) = ((x.1 ++ x.2) ++ gsL a) ++ gsL b; rw [ih, List.append_assoc (x.1 ++ x.2)]
theorem sL_at {W : Int → Int} {k : Int} {G : St} (hS : ∀ i : Nat, i < G.length → W (2540 + 820 * k + 2 * i) = (G.getD i (0, 0)).1 ∧ W (2540 + 820 * k + 2 * i + 1) = (G.getD i (0, 0)).2) (B : St) : ∀ (A C : St), G = A ++ (B ++ C) → sL W k A.length B.length = B := by
  induction B with
  | nil => intro A C _; rfl
  | cons q B ih =>
    intro A C e
    have lt : A.length < G.length := by rw [e, List.length_append, List.length_append, List.length_cons]; omega
    have gq : G.getD A.length (0, 0) = q := by
      rw [e, List.getD_eq_getElem?_getD, List.getElem?_append_right (Nat.le_refl _)]
      simp
    have h := hS A.length lt
    rw [gq] at h
    rw [List.length_cons]
    show (W (2540 + 820 * k + 2 * (A.length : Int)), W (2540 + 820 * k + 2 * (A.length : Int) + 1)) :: sL W k ((A.length : Int) + 1) B.length = q :: B
    have e2 : (A.length : Int) + 1 = (((A ++ [q]).length : Nat) : Int) := by rw [List.length_append]; show _ = ((A.length + 1 : Nat) : Int); omega
    rw [h.1, h.2, e2, ih (A ++ [q]) C (by rw [e, List.append_assoc]; rfl)]
theorem wT_line {W W' : Int → Int} {k : Int} {ls : List (St × St)} (h : wT W W' k ls) {i : Nat} (hi : i < ls.length) : sVa W' k i = (ls.getD i ([], [])).1 ∧ sCo W' k i = (ls.getD i ([], [])).2 ∧ (sTo W' k i = sMi W' k i ↔ (ls.getD i ([], [])).2 = []) ∧ (0 ≤ sFr W' k i ∧ sFr W' k i ≤ sMi W' k i ∧ sMi W' k i ≤ sTo W' k i ∧ sTo W' k i ≤ (gsL ls).length) ∧ ls.take (i + 1) = ls.take i ++ [ls.getD i ([], [])] := by
  obtain ⟨⟨h1, h2⟩, h3, _⟩ := h
  have t1 : ls.take (i + 1) = ls.take i ++ [ls.getD i ([], [])] := by
    rw [List.take_succ, List.getD_eq_getElem?_getD, List.getElem?_eq_getElem hi]
    rfl
  obtain ⟨f1, f2, f3⟩ := h2 i hi
  generalize ls.getD i ([], []) = l at *
  have g1 : gsL (ls.take (i + 1)) = gsL (ls.take i) ++ (l.1 ++ l.2) := by rw [t1, gsL_app]
  have g2 : gsL ls = gsL (ls.take i) ++ ((l.1 ++ l.2) ++ gsL (ls.drop (i + 1))) := by
    have e : ls = ls.take (i + 1) ++ ls.drop (i + 1) := (List.take_append_drop _ _).symm
    have : gsL ls = gsL (ls.take (i + 1)) ++ gsL (ls.drop (i + 1)) := by rw [← gsL_app2, ← e]
    rw [this, g1, List.append_assoc]
  rw [g1, List.length_append, List.length_append] at f3
  rw [List.length_append] at f2
  have l1 : (gsL ls).length = (gsL (ls.take i)).length + (l.1.length + l.2.length + (gsL (ls.drop (i + 1))).length) := by
    have := congrArg List.length g2
    rw [List.length_append, List.length_append, List.length_append] at this
    exact this
  refine ⟨?_, ?_, ?_, by omega, t1⟩
  · unfold sVa
    have e : (sMi W' k i - sFr W' k i).toNat = l.1.length := by omega
    rw [e, f1]
    exact sL_at h3 l.1 _ (l.2 ++ gsL (ls.drop (i + 1))) (by rw [g2, List.append_assoc])
  · unfold sCo
    have e : (sTo W' k i - sMi W' k i).toNat = l.2.length := by omega
    have e2 : sMi W' k i = (((gsL (ls.take i) ++ l.1).length : Nat) : Int) := by rw [f2, List.length_append]
    rw [e, e2]
    exact sL_at h3 l.2 _ (gsL (ls.drop (i + 1))) (by rw [g2, List.append_assoc, List.append_assoc])
  · constructor
    · intro e
      have : l.2.length = 0 := by omega
      exact List.length_eq_zero_iff.1 this
    · intro e
      rw [e, List.length_nil] at f3
      omega
theorem wT_all {W W' : Int → Int} {k : Int} {ls : List (St × St)} (h : wT W W' k ls) (hl : ∀ l ∈ ls, okL l) (hc : (cdL ls).length ≤ 400) (h16 : ls.length ≤ 16) : cOf W' k = cdL ls ∧ gWant W' k ∧ ((∀ q ∈ gsL ls, q.1 ≠ 6) → noDay W' k) := by
  have h1 := h.1.1
  have gl := gsL_len ls
  have mem : ∀ i : Nat, i < ls.length → ls.getD i ([], []) ∈ ls := by
    intro i hi
    rw [List.getD_eq_getElem?_getD, List.getElem?_eq_getElem hi]
    exact List.getElem_mem hi
  have all : ∀ n : Nat, n ≤ ls.length → cAll W' k n = cdL (ls.take n) := by
    intro n
    induction n with
    | zero => intro _; rfl
    | succ n ih =>
      intro hn
      obtain ⟨a, b, c, d, e⟩ := wT_line h (show n < ls.length by omega)
      show cAll W' k n ++ cLine W' k n = _
      rw [ih (by omega), e, cdL_app]
      congr 1
      unfold cLine lc
      rw [a, b]
      by_cases z : (ls.getD n ([], [])).2 = []
      · rw [if_pos (c.2 z), if_pos z]
      · rw [if_neg (fun w => z (c.1 w)), if_neg z]
  refine ⟨?_, ⟨by omega, ?_⟩, ?_⟩
  · unfold cOf
    have e : (W' (2320 + k)).toNat = ls.length := by omega
    rw [e, all _ (Nat.le_refl _), List.take_length]
  · intro i i0 i1
    obtain ⟨n, rfl⟩ := Int.eq_ofNat_of_zero_le i0
    have hn : n < ls.length := by omega
    obtain ⟨a, b, c, d, e⟩ := wT_line h hn
    have ok := hl _ (mem n hn)
    refine ⟨?_, ?_, ?_⟩
    · have d' : (0 ≤ sFr W' k (n : Int) ∧ sFr W' k (n : Int) ≤ sMi W' k (n : Int) ∧ sMi W' k (n : Int) ≤ sTo W' k (n : Int) ∧ sTo W' k (n : Int) ≤ (gsL ls).length) := d
      show 0 ≤ sFr W' k (n : Int) ∧ sFr W' k (n : Int) ≤ sMi W' k (n : Int) ∧ sMi W' k (n : Int) ≤ sTo W' k (n : Int) ∧ sTo W' k (n : Int) ≤ 405
      omega
    · show tyR (sVa W' k (n : Int)) [] = _
      rw [a]
      exact ok.1 [] (by show 0 ≤ 23; omega)
    · rcases ok.2 with z | z
      · exact Or.inl (c.2 z)
      · refine Or.inr ?_
        show tyR (sCo W' k (n : Int)) [] = _
        rw [b]
        exact z
  · intro hd i i0 i1
    obtain ⟨n, rfl⟩ := Int.eq_ofNat_of_zero_le i0
    have hn : n < ls.length := by omega
    obtain ⟨a, b, c, d, e⟩ := wT_line h hn
    have sub : ∀ q, q ∈ (ls.getD n ([], [])).1 ++ (ls.getD n ([], [])).2 → q ∈ gsL ls := by
      intro q hq
      have e2 : ls = ls.take (n + 1) ++ ls.drop (n + 1) := (List.take_append_drop _ _).symm
      rw [e2, gsL_app2, e, gsL_app]
      exact List.mem_append_left _ (List.mem_append_right _ hq)
    refine ⟨fun q hq => hd q (sub q ?_), fun q hq => hd q (sub q ?_)⟩
    · have hq' : q ∈ sVa W' k (n : Int) := hq
      rw [a] at hq'
      exact List.mem_append_left _ hq'
    · have hq' : q ∈ sCo W' k (n : Int) := hq
      rw [b] at hq'
      exact List.mem_append_right _ hq'
