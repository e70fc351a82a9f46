/-! a noon: those who pull -/
def sPb (W : Int → Int) (t p : Int) : Nat → Bool
  | 0 => false
  | n + 1 => sPb W t p n || decide (sVv W n = t ∧ sHold W n (W 2) = p)
theorem pull_q {W : Int → Int} {M : xM} {t : Int} (iS : rSale M W) (g : gW W) (i5 : M 5 0 = W 5) (i6 : M 12 0 = W 6) (e12 : M 1 2 = W 2) (ht : -1 ≤ t ∧ t ≤ 1) (hv : ∀ p, 0 ≤ p → p < W 5 → M 11 p = sVv W p) (m : Nat) : ∀ (n q : Nat) (S : Int), (q : Int) + m = W 5 → m < n → 0 ≤ S → S < 1024 → (∀ p, 0 ≤ p → bt S p = b2i (sPb W t p q)) → yk (fX1_makeTurn_L31 n M t S q) fun R => (0 ≤ R ∧ R < 1024) ∧ ∀ p, 0 ≤ p → bt R p = b2i (sPb W t p (W 5).toNat) := by
  have gb := g.1
  unfold gB at gb
  induction m with
  | zero =>
    intro n q S h1 h2 s0 s1 hb
    obtain ⟨n', rfl⟩ : ∃ n', n = n' + 1 := ⟨n - 1, by omega⟩
    have e : q = (W 5).toNat := by omega
    unfold fX1_makeTurn_L31
    rw [i5, if_neg (by rw [wr_id (by omega) (by omega), wr_id (by omega) (by omega)]; omega), yk_some, ← e]
    exact ⟨⟨s0, s1⟩, hb⟩
  | succ m ih =>
    intro n q S h1 h2 s0 s1 hb
    obtain ⟨n', rfl⟩ : ∃ n', n = n' + 1 := ⟨n - 1, by omega⟩
    have e3 : (q : Int) + 1 = ((q + 1 : Nat) : Int) := by omega
    have vr := sVote_rng (W := W) (o := sHold W q (W 2)) g
    have ev : M 11 q = sVv W q := hv q (by omega) (by omega)
    have hr := sHold_rng (W := W) (p := q) (d := W 2) g.2.2.2.2.2.2.1 g.1 (by omega)
    have ws : wr (sVv W q) = sVv W q := wr_id (by unfold sVv; omega) (by unfold sVv; omega)
    have es : ∀ p, sPb W t p (q + 1) = (sPb W t p q || decide (sVv W q = t ∧ sHold W q (W 2) = p)) := fun p => rfl
    unfold fX1_makeTurn_L31
    rw [if_pos (by rw [i5, wr_id (by omega) (by omega), wr_id (by omega) (by omega)]; omega), xrd_at (by omega) (by omega) (by omega), ev, ws, wr_id (x := t) (by omega) (by omega), e12, holdOn_e (W := W) iS g.2.2.2.2.2.2.1 g.1 i6 (by omega) (by omega), xb_some, e3]
    by_cases h : sVv W q = t
    · have ob := or_bit (s := S) (i := sHold W q (W 2)) (n := 10) (by decide) s0 s1 (by omega) (by omega)
      rw [if_pos h]
      refine ih n' (q + 1) _ (by omega) (by omega) ob.1.1 ob.1.2 ?_
      intro p p0
      rw [ob.2 p p0, es p, hb p p0]
      by_cases hp : p = sHold W q (W 2)
      · rw [if_pos hp, decide_eq_true ⟨h, hp.symm⟩, Bool.or_true]
        rfl
      · rw [if_neg hp, decide_eq_false (fun w => hp w.2.symm), Bool.or_false]
    · rw [if_neg h]
      refine ih n' (q + 1) S (by omega) (by omega) s0 s1 ?_
      intro p p0
      rw [es p, hb p p0, decide_eq_false (fun w => h w.1), Bool.or_false]
theorem pay_q {N P S : Int} (hN : 0 ≤ N ∧ N ≤ 10) (hS : 0 ≤ S ∧ S < 1024) (n : Nat) : ∀ (M : xM) (v : Int), M 5 0 = N → M 1 4 = P → 0 ≤ v → v ≤ N → N - v < n → yk (fX1_makeTurn_L77 n M S v) fun M' => (∀ o, o ≠ 9 → M' o = M o) ∧ ∀ j, M' 9 j = if (v ≤ j ∧ j < N) ∧ bt S j ≠ 0 then M 9 j - P else M 9 j := by
  induction n with
  | zero => intro M v h5 h4 h0 h1 h2; omega
  | succ n ih =>
    intro M v h5 h4 h0 h1 h2
    unfold fX1_makeTurn_L77
    by_cases h : v < N
    · have b := bt_rng S v
      rw [if_pos (by rw [h5, wr_id (by omega) (by omega), wr_id (by omega) (by omega)]; exact h), bit_eq hS.1 (by omega) (by omega) (by omega), wr_id (x := bt S v) (by omega) (by omega)]
      by_cases hb : bt S v = 0
      · rw [if_pos hb]
        refine yk.mono (ih M (v + 1) h5 h4 (by omega) (by omega) (by omega)) ?_
        intro M' q
        refine ⟨q.1, ?_⟩
        intro j
        rw [q.2 j]
        by_cases e : j = v
        · subst e
          rw [if_neg (by omega), if_neg (fun w => w.2 hb)]
        · by_cases h5' : (v ≤ j ∧ j < N) ∧ bt S j ≠ 0
          · rw [if_pos ⟨by omega, h5'.2⟩, if_pos h5']
          · rw [if_neg (fun w => h5' ⟨by omega, w.2⟩), if_neg h5']
      · rw [if_neg hb, xrd_at (by omega) (by omega) (by omega), xwt_at (by omega) (by omega) (by omega), h4]
        refine yk.mono (ih _ (v + 1) (by rw [xup_o (by omega)]; exact h5) (by rw [xup_o (by omega)]; exact h4) (by omega) (by omega) (by omega)) ?_
        intro M' q
        refine ⟨fun o ho => by rw [q.1 o ho, xup_o ho], ?_⟩
        intro j
        rw [q.2 j]
        by_cases e : j = v
        · subst e
          rw [if_neg (by omega), xup_e rfl, if_pos ⟨by omega, hb⟩]
        · rw [xup_n e]
          by_cases h5' : (v ≤ j ∧ j < N) ∧ bt S j ≠ 0
          · rw [if_pos ⟨by omega, h5'.2⟩, if_pos h5']
          · rw [if_neg (fun w => h5' ⟨by omega, w.2⟩), if_neg h5']
    · rw [if_neg (by rw [h5, wr_id (by omega) (by omega), wr_id (by omega) (by omega)]; exact h)]
      exact ⟨_, rfl, fun _ _ => rfl, fun j => by rw [if_neg (by omega)]⟩
def sNa (W : Int → Int) : Int := (W 1 + sTurn W) % W 0
def sPull (W : Int → Int) (p : Int) : Int := if sTurn W ≠ 0 ∧ sPb W (sTurn W) p (W 5).toNat = true then W 4 else 0
theorem makeTurn_e {W : Int → Int} {M : xM} (i : rI M W) (g : gW W) (hv : ∀ p, 0 ≤ p → p < W 5 → M 11 p = sVv W p) (ht : sTurn W ≠ 0) : yk (fX1_makeTurn M (sTurn W)) fun M' => (∀ o, o ≠ 1 → o ≠ 9 → M' o = M o) ∧ (∀ j, M' 1 j = if j = 1 then sNa W else if j = 3 then W 3 - 1 else M 1 j) ∧ ∀ j, 0 ≤ j → j < W 5 → M' 9 j = M 9 j - sPull W j := by
  have gb := g.1
  have iB := i.1
  unfold gB at gb
  unfold rB at iB
  have tr := sTurn_rng W
  unfold fX1_makeTurn
  rw [iB.1.1, iB.1.2.1, wrap_eq (by omega) (by omega) (by omega) (by omega), xb_some, yk_xlet, yk_xlet, yk_xb]
  have f1 : ∀ o, o ≠ 1 → xup (xup M 1 1 ((W 1 + sTurn W) % W 0)) 1 3 (xup M 1 1 ((W 1 + sTurn W) % W 0) 1 3 - 1) o = M o := fun o ho => by rw [xup_o ho, xup_o ho]
  have f2 : ∀ j, xup (xup M 1 1 ((W 1 + sTurn W) % W 0)) 1 3 (xup M 1 1 ((W 1 + sTurn W) % W 0) 1 3 - 1) 1 j = if j = 1 then sNa W else if j = 3 then W 3 - 1 else M 1 j := by
    intro j
    rw [xup_s, xup_s, xup_s]
    by_cases h3 : j = 3
    · subst h3
      rw [if_pos rfl, if_neg (by omega), if_neg (by omega), if_pos rfl, iB.1.2.2.2.1]
    · rw [if_neg h3]
      by_cases h1 : j = 1
      · rw [if_pos h1, if_pos h1]
        rfl
      · rw [if_neg h1, if_neg h1, if_neg h3]
  generalize xup (xup M 1 1 ((W 1 + sTurn W) % W 0)) 1 3 (xup M 1 1 ((W 1 + sTurn W) % W 0) 1 3 - 1) = K at *
  have e12 : K 1 2 = W 2 := by rw [f2 2, if_neg (by omega), if_neg (by omega)]; exact iB.1.2.2.1
  have e14 : K 1 4 = W 4 := by rw [f2 4, if_neg (by omega), if_neg (by omega)]; exact iB.1.2.2.2.2.1
  have iS : rSale K W := rSale_fr i.2.2.2.2.2.1 g.1 ⟨f1 _ (by omega), f1 _ (by omega), f1 _ (by omega), f1 _ (by omega)⟩ rfl (fun _ _ _ => rfl)
  refine yk.mono (pull_q (t := sTurn W) iS g (by rw [f1 5 (by omega)]; exact iB.2.1) (by rw [f1 12 (by omega)]; exact iB.2.2.1) e12 tr (fun p p0 p1 => by rw [f1 11 (by omega)]; exact hv p p0 p1) (W 5).toNat xfuel 0 0 (by omega) (by unfold xfuel; omega) (by omega) (by omega) ?_) ?_
  · intro p p0
    have e : sPb W (sTurn W) p 0 = false := rfl
    rw [e]
    unfold bt
    rw [Int.zero_ediv]
    rfl
  · intro S hS
    rw [yk_xb]
    refine yk.mono (pay_q (N := W 5) (P := W 4) (by omega) hS.1 xfuel K 0 (by rw [f1 5 (by omega)]; exact iB.2.1) e14 (by omega) (by omega) (by unfold xfuel; omega)) ?_
    intro M' q
    rw [yk_some]
    refine ⟨fun o o1 o2 => by rw [q.1 o o2, f1 o o1], fun j => by rw [q.1 1 (by omega), f2 j], ?_⟩
    intro j j0 j1
    rw [q.2 j, f1 9 (by omega), hS.2 j j0]
    unfold sPull
    cases hp : sPb W (sTurn W) j (W 5).toNat with
    | true =>
      rw [if_pos ⟨by omega, by decide⟩, if_pos ⟨ht, rfl⟩]
    | false =>
      rw [if_neg (fun w => w.2 rfl), if_neg (fun w => by cases w.2)]
      omega
