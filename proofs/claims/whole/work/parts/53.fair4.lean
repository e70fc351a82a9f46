/-! fair: the reference goes through all rows; fair, both -/
section FN
variable {W : Int → Int} {m : Int}
theorem leafM_e {rc : xM → Int → Int → Int → Option xM} {M : xM} {s : Nat → Int} {path : List Int} {R : fR} (gb : gB W) (hM : M 95 = W) (hm : 1 ≤ m ∧ m ≤ 6) (hs : ∀ p, -100000 ≤ s p ∧ s p ≤ 100000) (hr : ∀ p : Nat, (p : Int) < W 5 → M 108 p = s p) (hp : ∀ j : Nat, (j : Int) < m → M 106 j = path.getD j 0) (hR : mRel m R M) (ok : fOk m R) : yk (xb2 (fX12_triesFair_L166 rc xfuel M m 0 0 0) fun y28 y29 => xj (fun (_ : Unit) => xlet (xup M 94 30 1) fun M32 => xlet (xup M32 94 28 y28) fun M33 => xlet (xup M33 94 29 y29) fun M34 => xb (fX12_triesFair_L281 rc xfuel M34 m 0) fun M37 => some M37) fun j31 => (if wr (M 94 30) = 0 then j31 () else (if wr y28 < wr (M 94 28) then some M else (if wr y28 = wr (M 94 28) then (if wr (M 94 29) < wr y29 then j31 () else some M) else j31 ())))) fun M' => (∀ o, o ≠ 94 → o ≠ 107 → M' o = M o) ∧ (∀ j, j ≠ 28 → j ≠ 29 → j ≠ 30 → M' 94 j = M 94 j) ∧ mRel m (fLeaf (sLow s (W 5).toNat) (sSm s (W 5).toNat) path R) M' := by
  unfold gB at gb
  obtain ⟨r1, r2⟩ := hR
  obtain ⟨ok1, ok2⟩ := ok
  have lr := sLow_rng (B := 100000) hs (W 5).toNat
  have sr := sSm_rng (B := 100000) hs (W 5).toNat
  have l := lowM_q (rc := rc) (M := M) (v2 := m) (s := s) (k := (W 5).toNat) (by omega) (by rw [hM]; omega) hs (fun p hp => hr p (by omega)) (W 5).toNat xfuel 0 (by omega) (by unfold xfuel; omega)
  have l0 : fX12_triesFair_L166 rc xfuel M m 0 0 0 = some (sLow s (W 5).toNat, sSm s (W 5).toNat) := l
  rw [l0, yk_xb2, yk_some, yk_xj]
  dsimp only
  generalize sLow s (W 5).toNat = lo at *
  generalize sSm s (W 5).toNat = su at *
  have take : (R.1 = false ∨ R.2.1 < lo ∨ (lo = R.2.1 ∧ R.2.2.1 < su)) → yk (xlet (xup M 94 30 1) fun M32 => xlet (xup M32 94 28 lo) fun M33 => xlet (xup M33 94 29 su) fun M34 => xb (fX12_triesFair_L281 rc xfuel M34 m 0) fun M37 => some M37) fun M' => (∀ o, o ≠ 94 → o ≠ 107 → M' o = M o) ∧ (∀ j, j ≠ 28 → j ≠ 29 → j ≠ 30 → M' 94 j = M 94 j) ∧ mRel m (fLeaf lo su path R) M' := by
    intro hc
    rw [yk_xlet, yk_xlet, yk_xlet, yk_xb]
    refine yk.mono (copyM_q (rc := rc) hm xfuel _ 0 (by omega) (by omega) (by unfold xfuel; omega) (fun j j0 j1 => by omega)) ?_
    intro M1 q1
    rw [yk_some]
    refine ⟨?_, ?_, ?_⟩
    · intro o o1 o2
      rw [q1.1 o o2, xup_o o1, xup_o o1, xup_o o1]
    · intro j j1 j2 j3
      rw [q1.1 94 (by omega), xup_n j2, xup_n j1, xup_n j3]
    · unfold fLeaf
      rw [if_pos hc]
      refine ⟨?_, fun _ => ⟨?_, ?_, ?_⟩⟩
      · rw [q1.1 94 (by omega), xup_n (by omega), xup_n (by omega), xup_e rfl]
        rfl
      · rw [q1.1 94 (by omega), xup_n (by omega), xup_e rfl]
      · rw [q1.1 94 (by omega), xup_e rfl]
      · intro j hj
        rw [q1.2 j (by omega) hj, xup_o (by omega), xup_o (by omega), xup_o (by omega)]
        exact hp j hj
  have leave : ¬ (R.1 = false ∨ R.2.1 < lo ∨ (lo = R.2.1 ∧ R.2.2.1 < su)) → yk (some M) fun M' => (∀ o, o ≠ 94 → o ≠ 107 → M' o = M o) ∧ (∀ j, j ≠ 28 → j ≠ 29 → j ≠ 30 → M' 94 j = M 94 j) ∧ mRel m (fLeaf lo su path R) M' := by
    intro hc
    rw [yk_some]
    unfold fLeaf
    rw [if_neg hc]
    exact ⟨fun _ _ _ => rfl, fun _ _ _ _ => rfl, r1, r2⟩
  rw [r1]
  cases hb : R.1 with
  | false =>
    rw [if_pos (by decide)]
    exact take (Or.inl hb)
  | true =>
    rw [if_neg (by decide)]
    have q := r2 hb
    rw [q.1, q.2.1, wr_id (x := R.2.1) (by omega) (by omega), wr_id (x := lo) (by omega) (by omega), wr_id (x := R.2.2.1) (by omega) (by omega), wr_id (x := su) (by omega) (by omega)]
    by_cases c1 : lo < R.2.1
    · rw [if_pos c1]
      refine leave ?_
      rintro (w | w | w)
      · rw [hb] at w; cases w
      · omega
      · omega
    · rw [if_neg c1]
      by_cases c2 : lo = R.2.1
      · rw [if_pos c2]
        by_cases c3 : R.2.2.1 < su
        · rw [if_pos c3]
          exact take (Or.inr (Or.inr ⟨c2, c3⟩))
        · rw [if_neg c3]
          refine leave ?_
          rintro (w | w | w)
          · rw [hb] at w; cases w
          · omega
          · exact c3 w.2
      · rw [if_neg c2]
        exact take (Or.inr (Or.inl (by omega)))
theorem triesM_q (gw : gW W) (hm : 1 ≤ m ∧ m ≤ 6) (r : Nat) : ∀ (n : Nat) (M : xM) (d : Nat) (an : Int) (s : Nat → Int) (path : List Int) (R : fR), (d : Int) + r = m → r < n → M 95 = W → 0 ≤ an ∧ an < W 0 → (∀ p : Nat, (p : Int) < W 5 → M 108 p = s p) → (∀ p, -(9999 * (d : Int)) ≤ s p ∧ s p ≤ 9999 * (d : Int)) → path.length = d → (∀ j : Nat, j < d → M 106 j = path.getD j 0) → mRel m R M → fOk m R → yk (fX12_triesFair n M d m an) fun M' => (∀ o, o ≠ 94 → o ≠ 101 → o ≠ 102 → (o < 106 ∨ 108 < o) → M' o = M o) ∧ (∀ j, j ≠ 28 → j ≠ 29 → j ≠ 30 → M' 94 j = M 94 j) ∧ (∀ j : Nat, j < d → M' 106 j = M 106 j) ∧ M' 108 = M 108 ∧ mRel m (sFa W m r s an path R) M' := by
  have gb := gw.1
  unfold gB at gb
  induction r with
  | zero =>
    intro n M d an s path R h1 h2 hM han hs hb hl hp hR ok
    obtain ⟨n', rfl⟩ : ∃ n', n = n' + 1 := ⟨n - 1, by omega⟩
    unfold fX12_triesFair
    rw [if_neg (by rw [wr_id (by omega) (by omega), wr_id (by omega) (by omega)]; omega)]
    refine yk.mono (leafM_e (rc := fX12_triesFair n') (s := s) (path := path) (R := R) gw.1 hM hm (fun p => by have := hb p; omega) hs (fun j hj => hp j (by omega)) hR ok) ?_
    intro M1 q1
    exact ⟨fun o a b c e => q1.1 o a (by omega), q1.2.1, fun j hj => by rw [q1.1 106 (by omega) (by omega)], q1.1 108 (by omega) (by omega), q1.2.2⟩
  | succ r ih =>
    intro n M d an s path R h1 h2 hM han hs hb hl hp hR ok
    obtain ⟨n', rfl⟩ : ∃ n', n = n' + 1 := ⟨n - 1, by omega⟩
    have em : m - ((r : Int) + 1) = d := by omega
    unfold fX12_triesFair
    rw [if_pos (by rw [wr_id (by omega) (by omega), wr_id (by omega) (by omega)]; omega), yk_xb]
    have one : ∀ (n2 : Nat) (Q : xM) (j t : Int) (R' : fR) (P : xM → Prop), 0 ≤ j → j < 3 → fX12_turnOf j = t → -1 ≤ t ∧ t ≤ 1 → (∀ o, o ≠ 94 → o ≠ 101 → o ≠ 102 → (o < 106 ∨ 108 < o) → Q o = M o) → (∀ j, j ≠ 28 → j ≠ 29 → j ≠ 30 → Q 94 j = M 94 j) → (∀ j : Nat, j < d → Q 106 j = M 106 j) → Q 108 = M 108 → mRel m R' Q → fOk m R' → (∀ Q' : xM, (∀ o, o ≠ 94 → o ≠ 101 → o ≠ 102 → (o < 106 ∨ 108 < o) → Q' o = M o) → (∀ j, j ≠ 28 → j ≠ 29 → j ≠ 30 → Q' 94 j = M 94 j) → (∀ j : Nat, j < d → Q' 106 j = M 106 j) → Q' 108 = M 108 → mRel m (sFa W m r (fSt W (m - (r + 1)) an s t) ((an + t) % W 0) (path ++ [t]) R') Q' → yk (fX12_triesFair_L8 (fX12_triesFair n') n2 Q' d m an (j + 1)) P) → yk (fX12_triesFair_L8 (fX12_triesFair n') (n2 + 1) Q d m an j) P := by
      intro n2 Q j t R' P j0 j1 ht ht2 f1 f2 f3 f4 hR' ok' nx
      have wQ : Q 95 = W := by rw [f1 95 (by omega) (by omega) (by omega) (by omega)]; exact hM
      have md := md_rng (a := an + t) (n := W 0) (by omega)
      have e1 : (d : Int) + 1 = ((d + 1 : Nat) : Int) := by omega
      unfold fX12_triesFair_L8
      rw [if_pos (by rw [wr_id (by omega) (by omega), wr_id (by omega) (by omega)]; omega), ht, modulo_eq (by rw [wQ]; omega) (by rw [wQ]; omega) (by omega) (by omega), wQ, xb_some, yk_xb]
      refine yk.mono (addM_q (rc := fX12_triesFair n') (v2 := m) (v3 := an) (x := fun p => sWorth W p (W 2 + d) ((an + t) % W 0) (sTo1 t)) gw ht ht2 (by omega) md (fun p => rfl) xfuel Q 0 wQ (by omega) (by omega) (by unfold xfuel; omega)) ?_
      intro M1 q1
      rw [xwt_at (by omega) (by omega) (by omega), yk_xb, e1]
      refine yk.mono (ih n' (xup M1 106 d t) (d + 1) ((an + t) % W 0) (fSt W (m - (r + 1)) an s t) (path ++ [t]) R' (by omega) (by omega) ?_ md ?_ ?_ ?_ ?_ ?_ ok') ?_
      · rw [xup_o (by omega), q1.1 95 (by omega) (by omega) (by omega)]
        exact wQ
      · intro p hp'
        rw [xup_o (by omega), q1.2 p, if_pos (by omega), f4, hs p hp']
        unfold fSt
        rw [em]
      · intro p
        have a := hb p
        have b := sWorth_rng W p (W 2 + (m - (r + 1))) ((an + t) % W 0) (sTo1 t)
        unfold fSt
        omega
      · rw [List.length_append, hl]
        rfl
      · intro j' hj'
        rw [getD_snoc, hl]
        by_cases e : j' < d
        · rw [if_pos e, xup_n (by omega), q1.1 106 (by omega) (by omega) (by omega), f3 j' e]
          exact hp j' e
        · have e2 : j' = d := by omega
          subst e2
          rw [if_neg (by omega), if_pos rfl, xup_e rfl]
      · refine ⟨?_, ?_⟩
        · rw [xup_o (by omega), q1.1 94 (by omega) (by omega) (by omega)]
          exact hR'.1
        · intro hb'
          have q := hR'.2 hb'
          rw [xup_o (by omega), xup_o (by omega), q1.1 94 (by omega) (by omega) (by omega), q1.1 107 (by omega) (by omega) (by omega)]
          exact q
      · intro M2 q2
        have w2 : M2 95 = W := by rw [q2.1 95 (by omega) (by omega) (by omega) (by omega), xup_o (by omega), q1.1 95 (by omega) (by omega) (by omega)]; exact wQ
        rw [yk_xb]
        refine yk.mono (subM_q (rc := fX12_triesFair n') (v2 := m) (v3 := an) (x := fun p => sWorth W p (W 2 + d) ((an + t) % W 0) (sTo1 t)) gw ht ht2 (by omega) md (fun p => rfl) xfuel M2 0 w2 (by omega) (by omega) (by unfold xfuel; omega)) ?_
        intro M3 q3
        refine nx M3 ?_ ?_ ?_ ?_ ?_
        · intro o o1 o2 o3 o4
          rw [q3.1 o o2 o3 (by omega), q2.1 o o1 o2 o3 o4, xup_o (by omega), q1.1 o o2 o3 (by omega)]
          exact f1 o o1 o2 o3 o4
        · intro j j1 j2 j3
          rw [q3.1 94 (by omega) (by omega) (by omega), q2.2.1 j j1 j2 j3, xup_o (by omega), q1.1 94 (by omega) (by omega) (by omega)]
          exact f2 j j1 j2 j3
        · intro j hj
          rw [q3.1 106 (by omega) (by omega) (by omega), q2.2.2.1 j (by omega), xup_n (by omega), q1.1 106 (by omega) (by omega) (by omega)]
          exact f3 j hj
        · funext j
          rw [q3.2 j, q2.2.2.2.1, xup_o (by omega), q1.2 j, f4]
          by_cases h5 : 0 ≤ j ∧ j < W 5
          · rw [if_pos h5, if_pos h5]
            omega
          · rw [if_neg h5, if_neg h5]
        · refine ⟨?_, ?_⟩
          · rw [q3.1 94 (by omega) (by omega) (by omega)]
            exact q2.2.2.2.2.1
          · intro hb'
            rw [q3.1 94 (by omega) (by omega) (by omega), q3.1 107 (by omega) (by omega) (by omega)]
            exact q2.2.2.2.2.2 hb'
    have hx : ∃ y, xfuel = y + 1 + 1 + 1 + 1 := ⟨999996, by unfold xfuel; omega⟩
    obtain ⟨y, hy⟩ := hx
    have z1 : (0 : Int) + 1 = 1 := by omega
    have z2 : (1 : Int) + 1 = 2 := by omega
    have okr : ∀ t R', fOk m R' → fOk m (sFa W m r (fSt W (m - (r + 1)) an s t) ((an + t) % W 0) (path ++ [t]) R') := fun t R' ok' => sFa_ok (by omega) r _ _ _ _ (9999 * (d : Int) + 9999) (fSt_rng hb) (by omega) ok'
    rw [hy]
    refine one _ M 0 0 R _ (by omega) (by omega) (by decide) (by omega) (fun _ _ _ _ _ => rfl) (fun _ _ _ _ => rfl) (fun _ _ => rfl) rfl hR ok ?_
    intro Q1 a1 a2 a3 a4 a5
    rw [z1]
    refine one _ Q1 1 1 _ _ (by omega) (by omega) (by decide) (by omega) a1 a2 a3 a4 a5 (okr 0 R ok) ?_
    intro Q2 b1 b2 b3 b4 b5
    rw [z2]
    refine one _ Q2 2 (-1) _ _ (by omega) (by omega) (by decide) (by omega) b1 b2 b3 b4 b5 (okr 1 _ (okr 0 R ok)) ?_
    intro Q3 c1 c2 c3 c4 c5
    unfold fX12_triesFair_L8
    rw [if_neg (by decide), yk_some, yk_some]
    exact ⟨c1, c2, c3, c4, c5⟩
end FN
