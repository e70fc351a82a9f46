/-! fair: the class goes through all rows -/
theorem sFa_ok {W : Int → Int} {m : Int} (h5 : 0 ≤ W 5 ∧ W 5 ≤ 10) (r : Nat) : ∀ (s : Nat → Int) (an : Int) (path : List Int) (R : fR) (B : Int), (∀ p, -B ≤ s p ∧ s p ≤ B) → B + 9999 * (r : Int) ≤ 100000 → fOk m R → fOk m (sFa W m r s an path R) := by
  induction r with
  | zero =>
    intro s an path R B hs hB ok
    have lr := sLow_rng hs (W 5).toNat
    have sr := sSm_rng (s := s) (B := 100000) (fun p => by have := hs p; omega) (W 5).toNat
    exact fLeaf_ok ok (by omega) (by omega)
  | succ r ih =>
    intro s an path R B hs hB ok
    unfold sFa
    exact ih _ _ _ _ (B + 9999) (fSt_rng hs) (by omega) (ih _ _ _ _ (B + 9999) (fSt_rng hs) (by omega) (ih _ _ _ _ (B + 9999) (fSt_rng hs) (by omega) ok))
theorem had_q {rc : xM → Int → Int → Int → Option xM} {k d : Nat} {rd kk t cell : Int} {s x : Nat → Int} (hk : k ≤ 10) (hd : d < 6) (hc : 0 ≤ cell ∧ cell < 156) (q : Nat) : ∀ (n : Nat) (M : xM) (p : Nat), p + q = k → q < n → (∀ p : Nat, p < k → M (67 + d) p = s p) → (∀ p : Nat, p < k → M (53 + p) cell = x p) → (∀ j : Nat, j < p → M (67 + (d + 1)) j = s j + x j) → yk (fX3_tryTurns_L56 rc n M k d rd kk t cell p) fun M' => (∀ o, o ≠ 67 + (d + 1) → M' o = M o) ∧ ∀ p : Nat, p < k → M' (67 + (d + 1)) p = s p + x p := by
  induction q with
  | zero =>
    intro n M p h1 h2 hs hx hz
    obtain ⟨n', rfl⟩ : ∃ n', n = n' + 1 := ⟨n - 1, by omega⟩
    unfold fX3_tryTurns_L56
    rw [if_neg (by rw [wr_id (by omega) (by omega), wr_id (by omega) (by omega)]; omega)]
    exact ⟨_, rfl, fun _ _ => rfl, fun p hp => hz p (by omega)⟩
  | succ q ih =>
    intro n M p h1 h2 hs hx hz
    obtain ⟨n', rfl⟩ : ∃ n', n = n' + 1 := ⟨n - 1, by omega⟩
    have e1 : (d : Int) + 1 = ((d + 1 : Nat) : Int) := by omega
    have e2 : (wr ((d + 1 : Nat) : Int)).toNat = d + 1 := by rw [wr_id (by omega) (by omega)]; omega
    have e3 : (wr (d : Int)).toNat = d := by rw [wr_id (by omega) (by omega)]; omega
    have e4 : (wr (p : Int)).toNat = p := by rw [wr_id (by omega) (by omega)]; omega
    have e5 : (p : Int) + 1 = ((p + 1 : Nat) : Int) := by omega
    unfold fX3_tryTurns_L56
    rw [if_pos (by rw [wr_id (by omega) (by omega), wr_id (by omega) (by omega)]; omega), e1, xix_at (by omega) (by omega) (by omega), xix_at (by omega) (by omega) (by omega), xrd_at (by omega) (by omega) (by omega), xix_at (by omega) (by omega) (by omega), xrd_at hc.1 hc.2 (by omega), xwt_at (by omega) (by omega) (by omega), e2, e3, e4, hs p (by omega), hx p (by omega), e5]
    refine yk.mono (ih n' _ (p + 1) (by omega) (by omega) ?_ ?_ ?_) ?_
    · intro j hj
      rw [xup_o (by omega)]
      exact hs j hj
    · intro j hj
      rw [xup_o (by omega)]
      exact hx j hj
    · intro j hj
      by_cases e : j = p
      · subst e
        rw [xup_e rfl]
      · rw [xup_n (by omega)]
        exact hz j (by omega)
    · intro M' z
      exact ⟨fun o ho => by rw [z.1 o ho, xup_o ho], z.2⟩
theorem getD_snoc {l : List Int} {t : Int} {j : Nat} : (l ++ [t]).getD j 0 = if j < l.length then l.getD j 0 else if j = l.length then t else 0 := by
  by_cases h : j < l.length
  · rw [if_pos h]
    simp [List.getD_eq_getElem?_getD, List.getElem?_append_left h]
  · rw [if_neg h]
    by_cases e : j = l.length
    · subst e
      simp [List.getD_eq_getElem?_getD]
    · rw [if_neg e]
      have : (l ++ [t]).length ≤ j := by simp; omega
      simp [List.getD_eq_getElem?_getD, List.getElem?_eq_none this]
section TT
variable {W : Int → Int} {m : Int}
theorem tryT_q (gb : gB W) (hm : 1 ≤ m ∧ m ≤ 6) (r : Nat) : ∀ (n : Nat) (M : xM) (d : Nat) (rd : Int) (s : Nat → Int) (path : List Int) (R : fR), (d : Int) + r = m → r < n → -(d : Int) ≤ rd → rd ≤ d → M 50 1 = m → oOk W m M (W 5) → (∀ p : Nat, p < (W 5).toNat → M (67 + d) p = s p) → (∀ p, -(9999 * (d : Int)) ≤ s p ∧ s p ≤ 9999 * (d : Int)) → path.length = d → (∀ j : Nat, j < d → M 65 j = path.getD j 0) → kRel m R M → fOk m R → yk (fX3_tryTurns n M ((W 5).toNat : Int) d rd) fun M' => (∀ o, o ≠ 50 → o ≠ 64 → o ≠ 65 → ¬ (67 + d < o ∧ o ≤ 73) → M' o = M o) ∧ (∀ j, j < 9 → M' 50 j = M 50 j) ∧ (∀ j : Nat, j < d → M' 65 j = M 65 j) ∧ kRel m (sFa W m r s ((W 1 + rd) % W 0) path R) M' := by
  unfold gB at gb
  induction r with
  | zero =>
    intro n M d rd s path R h1 h2 h3 h4 e50 ho hs hb hl hp hR ok
    obtain ⟨n', rfl⟩ : ∃ n', n = n' + 1 := ⟨n - 1, by omega⟩
    have ed : m.toNat = d := by omega
    unfold fX3_tryTurns
    rw [yk_xj, e50, if_neg (by rw [wr_id (by omega) (by omega), wr_id (by omega) (by omega)]; omega), yk_xb]
    refine yk.mono (weigh_e (s := s) (k := (W 5).toNat) (path := path) (R := R) (by omega) hm e50 (fun p => by have := hb p; omega) (by rw [ed]; exact hs) (fun j hj => hp j (by omega)) hR ok) ?_
    intro M1 q1
    rw [yk_some]
    exact ⟨fun o a b _ _ => q1.1 o a b, q1.2.1, fun j hj => by rw [q1.1 65 (by omega) (by omega)], q1.2.2⟩
  | succ r ih =>
    intro n M d rd s path R h1 h2 h3 h4 e50 ho hs hb hl hp hR ok
    obtain ⟨n', rfl⟩ : ∃ n', n = n' + 1 := ⟨n - 1, by omega⟩
    have em : m - ((r : Int) + 1) = d := by omega
    unfold fX3_tryTurns
    rw [yk_xj, e50, if_pos (by rw [wr_id (by omega) (by omega), wr_id (by omega) (by omega)]; omega), if_pos (by rw [wr_id (by omega) (by omega), wr_id (by omega) (by omega)]; omega), yk_xb]
    -- one turn tried
    have one : ∀ (n2 : Nat) (Q : xM) (j t : Int) (R' : fR) (P : xM → Prop), 0 ≤ j → j < 3 → ([0, 1, -1] : List Int).getD j.toNat 0 = t → -1 ≤ t ∧ t ≤ 1 → (∀ o, o ≠ 50 → o ≠ 64 → o ≠ 65 → ¬ (67 + d < o ∧ o ≤ 73) → Q o = M o) → (∀ j, j < 9 → Q 50 j = M 50 j) → (∀ j : Nat, j < d → Q 65 j = M 65 j) → kRel m R' Q → fOk m R' → (∀ Q' : xM, (∀ o, o ≠ 50 → o ≠ 64 → o ≠ 65 → ¬ (67 + d < o ∧ o ≤ 73) → Q' o = M o) → (∀ j, j < 9 → Q' 50 j = M 50 j) → (∀ j : Nat, j < d → Q' 65 j = M 65 j) → kRel m (sFa W m r (fSt W (m - (r + 1)) ((W 1 + rd) % W 0) s t) (((W 1 + rd) % W 0 + t) % W 0) (path ++ [t]) R') Q' → yk (fX3_tryTurns_L23 (fX3_tryTurns n') n2 Q' ((W 5).toNat : Int) d rd (j + 1)) P) → yk (fX3_tryTurns_L23 (fX3_tryTurns n') (n2 + 1) Q ((W 5).toNat : Int) d rd j) P := by
      intro n2 Q j t R' P j0 j1 ht ht2 f1 f2 f3 hR' ok' nx
      have eQ : Q 50 1 = m := by rw [f2 1 (by omega)]; exact e50
      have gt : gix m d (rd + t) t = gix m d (rd + t) (sTo1 t) := by
        unfold gix sTo1
        by_cases h : t = 0
        · rw [if_pos h, if_pos rfl]
        · rw [if_neg h, if_neg (by omega)]
      have st : 0 ≤ sTo1 t ∧ sTo1 t ≤ 1 ∧ (t = 0 → sTo1 t = 0) ∧ (t ≠ 0 → sTo1 t = 1) := by
        unfold sTo1
        split <;> omega
      have gr : 0 ≤ gix m d (rd + t) t ∧ gix m d (rd + t) t < 156 := by
        have a1 : 0 ≤ (d : Int) * (2 * m + 1) := Int.mul_nonneg (by omega) (by omega)
        have a2 : ((d : Int) + 1) * (2 * m + 1) ≤ 78 := by
          have := Int.mul_le_mul (show (d : Int) + 1 ≤ 6 by omega) (show 2 * m + 1 ≤ 13 by omega) (by omega) (by omega)
          omega
        rw [Int.add_mul, Int.one_mul] at a2
        unfold gix
        generalize (d : Int) * (2 * m + 1) = X at *
        split <;> omega
      have ean : ((W 1 + rd) % W 0 + t) % W 0 = (W 1 + (rd + t)) % W 0 := by rw [Int.emod_add_emod, Int.add_assoc]
      have e1 : (d : Int) + 1 = ((d + 1 : Nat) : Int) := by omega
      unfold fX3_tryTurns_L23
      rw [if_pos (by rw [wr_id (by omega) (by omega), wr_id (by omega) (by omega)]; omega), xtb_at (by omega) (by omega) (by omega), ht, cellOf_e eQ ht2, yk_xb]
      refine yk.mono (had_q (s := s) (x := fun p => sWorth W p (W 2 + d) ((W 1 + (rd + t)) % W 0) (sTo1 t)) (by omega) (by omega) gr (W 5).toNat xfuel Q 0 (by omega) (by unfold xfuel; omega) ?_ ?_ (fun j hj => by omega)) ?_
      · intro p hp'
        rw [f1 (67 + d) (by omega) (by omega) (by omega) (by omega)]
        exact hs p hp'
      · intro p hp'
        rw [f1 (53 + p) (by omega) (by omega) (by omega) (by omega), gt]
        exact ho p d (sTo1 t) (rd + t) (by omega) (by omega) (by omega) st.1 st.2.1 (by omega) (by omega)
      · intro M1 q1
        rw [xwt_at (by omega) (by omega) (by omega), yk_xb, e1]
        refine yk.mono (ih n' (xup M1 65 d t) (d + 1) (rd + t) (fSt W (m - (r + 1)) ((W 1 + rd) % W 0) s t) (path ++ [t]) R' (by omega) (by omega) (by omega) (by omega) ?_ ?_ ?_ ?_ ?_ ?_ ?_ ok') ?_
        · rw [xup_o (by omega), q1.1 50 (by omega)]
          exact eQ
        · intro p d' t' r' a b c e f g' h'
          rw [xup_o (by omega), q1.1 (53 + p) (by omega), f1 (53 + p) (by omega) (by omega) (by omega) (by omega)]
          exact ho p d' t' r' a b c e f g' h'
        · intro p hp'
          rw [xup_o (by omega), q1.2 p hp']
          unfold fSt
          rw [em, ean]
        · intro p
          have a := hb p
          have b := sWorth_rng W p (W 2 + (m - (r + 1))) (((W 1 + rd) % W 0 + t) % W 0) (sTo1 t)
          unfold fSt
          omega
        · rw [List.length_append, hl]
          rfl
        · intro j' hj'
          rw [getD_snoc, hl]
          by_cases e : j' < d
          · rw [if_pos e, xup_n (by omega), q1.1 65 (by omega), f3 j' e]
            exact hp j' e
          · have e2 : j' = d := by omega
            subst e2
            rw [if_neg (by omega), if_pos rfl, xup_e rfl]
        · refine ⟨?_, ?_⟩
          · rw [xup_o (by omega), q1.1 50 (by omega)]
            exact hR'.1
          · intro hb'
            have q := hR'.2 hb'
            rw [xup_o (by omega), xup_o (by omega), q1.1 50 (by omega), q1.1 64 (by omega)]
            exact q
        · intro M2 q2
          rw [← ean] at q2
          refine nx M2 ?_ ?_ ?_ q2.2.2.2
          · intro o o1 o2 o3 o4
            rw [q2.1 o o1 o2 o3 (by omega), xup_o o3, q1.1 o (by omega)]
            exact f1 o o1 o2 o3 o4
          · intro j hj
            rw [q2.2.1 j hj, xup_o (by omega), q1.1 50 (by omega)]
            exact f2 j hj
          · intro j hj
            rw [q2.2.2.1 j (by omega), xup_n (by omega), q1.1 65 (by omega)]
            exact f3 j hj
    have hx : ∃ y, xfuel = y + 1 + 1 + 1 + 1 := ⟨999996, by unfold xfuel; omega⟩
    obtain ⟨y, hy⟩ := hx
    have z1 : (0 : Int) + 1 = 1 := by omega
    have z2 : (1 : Int) + 1 = 2 := by omega
    have okr : ∀ t R', fOk m R' → fOk m (sFa W m r (fSt W (m - (r + 1)) ((W 1 + rd) % W 0) s t) (((W 1 + rd) % W 0 + t) % W 0) (path ++ [t]) R') := fun t R' ok' => sFa_ok (by omega) r _ _ _ _ (9999 * (d : Int) + 9999) (fSt_rng hb) (by omega) ok'
    rw [hy]
    refine one _ M 0 0 R _ (by omega) (by omega) rfl (by omega) (fun _ _ _ _ _ => rfl) (fun _ _ => rfl) (fun _ _ => rfl) hR ok ?_
    intro Q1 a1 a2 a3 a4
    rw [z1]
    refine one _ Q1 1 1 _ _ (by omega) (by omega) rfl (by omega) a1 a2 a3 a4 (okr 0 R ok) ?_
    intro Q2 b1 b2 b3 b4
    rw [z2]
    refine one _ Q2 2 (-1) _ _ (by omega) (by omega) rfl (by omega) b1 b2 b3 b4 (okr 1 _ (okr 0 R ok)) ?_
    intro Q3 c1 c2 c3 c4
    unfold fX3_tryTurns_L23
    rw [if_neg (by decide), yk_some, yk_some]
    exact ⟨c1, c2, c3, c4⟩
end TT
