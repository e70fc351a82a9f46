/-! the greatest or least by any turns -/
def sOpt (g : Bool) (a b c : Int) : Int := if g = true then max a (max b c) else min a (min b c)
def sTo1 (t : Int) : Int := if t = 0 then 0 else 1
def sBf (N : Int) (C : Int → Int → Int → Int) (g : Bool) (m : Int) : Nat → Int → Int
  | 0, _ => 0
  | r + 1, an => sOpt g (C (m - (r + 1)) ((an + 0) % N) 0 + sBf N C g m r ((an + 0) % N)) (C (m - (r + 1)) ((an + 1) % N) 1 + sBf N C g m r ((an + 1) % N)) (C (m - (r + 1)) ((an + -1) % N) 1 + sBf N C g m r ((an + -1) % N))
theorem sBf_rng {N : Int} {C : Int → Int → Int → Int} {g : Bool} {m : Int} (hC : ∀ d an t, -99990 ≤ C d an t ∧ C d an t ≤ 99990) (r : Nat) : ∀ an, -99990 * (r : Int) ≤ sBf N C g m r an ∧ sBf N C g m r an ≤ 99990 * (r : Int) := by
  induction r with
  | zero => intro an; exact ⟨Int.le_refl _, Int.le_refl _⟩
  | succ r ih =>
    intro an
    have a0 := ih ((an + 0) % N)
    have a1 := ih ((an + 1) % N)
    have a2 := ih ((an + -1) % N)
    have c0 := hC (m - (r + 1)) ((an + 0) % N) 0
    have c1 := hC (m - (r + 1)) ((an + 1) % N) 1
    have c2 := hC (m - (r + 1)) ((an + -1) % N) 1
    unfold sBf sOpt
    split <;> omega
def aix (m d r : Int) : Int := d * (2 * m + 1) + m + r
theorem aheadOf_e {M : xM} {m d r : Int} (hm : M 50 1 = m) : fX3_aheadOf M d r = aix m d r := by
  unfold fX3_aheadOf aix
  rw [hm]
theorem aix_inj {m d r d' r' : Int} (hr : -m ≤ r ∧ r ≤ m) (hr' : -m ≤ r' ∧ r' ≤ m) (h : aix m d r = aix m d' r') : d = d' ∧ r = r' := by
  unfold aix at h
  obtain ⟨e1, e2⟩ := dm_inj (D := 2 * m + 1) (d := d) (d' := d') (x := m + r) (x' := m + r') (by omega) (by omega) (by omega)
  exact ⟨e1, by omega⟩
theorem mm_rng {m d : Int} (hm : 1 ≤ m ∧ m ≤ 30) (hd : 0 ≤ d ∧ d ≤ m) : 0 ≤ d * (2 * m + 1) ∧ d * (2 * m + 1) ≤ 1830 := by
  refine ⟨Int.mul_nonneg hd.1 (by omega), ?_⟩
  have := Int.mul_le_mul (show d ≤ 30 by omega) (show 2 * m + 1 ≤ 61 by omega) (by omega) (by omega)
  omega
theorem aix_rng {m d r : Int} (hm : 1 ≤ m ∧ m ≤ 30) (hd : 0 ≤ d ∧ d ≤ m) (hr : -m ≤ r ∧ r ≤ m) : 0 ≤ aix m d r ∧ aix m d r < 1891 := by
  have := mm_rng hm hd
  unfold aix
  generalize d * (2 * m + 1) = X at *
  omega
theorem gix_rng {m d r t : Int} (hm : 1 ≤ m ∧ m ≤ 30) (hd : 0 ≤ d ∧ d < m) (hr : -m ≤ r ∧ r ≤ m) : 0 ≤ gix m d r t ∧ gix m d r t < 3660 := by
  have h1 := mm_rng hm ⟨hd.1, by omega⟩
  have h2 : d * (2 * m + 1) + (2 * m + 1) ≤ 1830 := by
    have := mm_rng hm (d := d + 1) (by omega)
    rw [Int.add_mul, Int.one_mul] at this
    exact this.2
  unfold gix
  generalize d * (2 * m + 1) = X at *
  split <;> omega
section RK
variable {N A m : Int} {C : Int → Int → Int → Int} {g : Bool}
theorem rek1_q {v1 : Int} (hm : 1 ≤ m ∧ m ≤ 30) (n : Nat) : ∀ (M : xM) (v : Int), M 50 1 = m → -m ≤ v → v ≤ m + 1 → m + 1 - v < n → yk (fX3_reckon_L6 n M v1 v) fun M' => (∀ o, o ≠ 63 → M' o = M o) ∧ (∀ r, v ≤ r → r ≤ m → M' 63 (aix m m r) = 0) ∧ ∀ j, (∀ r, v ≤ r → r ≤ m → j ≠ aix m m r) → M' 63 j = M 63 j := by
  induction n with
  | zero => intro M v e50 h0 h1 h2; omega
  | succ n ih =>
    intro M v e50 h0 h1 h2
    unfold fX3_reckon_L6
    rw [e50]
    by_cases h : m < v
    · rw [if_pos (by rw [wr_id (by omega) (by omega), wr_id (by omega) (by omega)]; exact h)]
      exact ⟨_, rfl, fun _ _ => rfl, fun r r0 r1 => by omega, fun j hj => rfl⟩
    · have ar := aix_rng (d := m) (r := v) hm (by omega) (by omega)
      rw [if_neg (by rw [wr_id (by omega) (by omega), wr_id (by omega) (by omega)]; exact h), aheadOf_e e50, xwt_at ar.1 ar.2 (by omega)]
      refine yk.mono (ih _ (v + 1) (by rw [xup_o (by omega)]; exact e50) (by omega) (by omega) (by omega)) ?_
      intro M' z
      refine ⟨fun o ho => by rw [z.1 o ho, xup_o ho], ?_, ?_⟩
      · intro r r0 r1
        by_cases e : r = v
        · subst e
          rw [z.2.2 _ (fun r' a b c => by have := (aix_inj (by omega) (by omega) c).2; omega), xup_e rfl]
        · exact z.2.1 r (by omega) r1
      · intro j hj
        rw [z.2.2 j (fun r' a b => hj r' (by omega) b), xup_n (hj v (by omega) (by omega))]
/-- the cells hold C, behind day d ahead holds what is best -/
def aOk (N A m : Int) (C : Int → Int → Int → Int) (g : Bool) (M : xM) (d : Int) : Prop := ∀ e r, d < e → e ≤ m → -e ≤ r → r ≤ e → M 63 (aix m e r) = sBf N C g m (m - e).toNat ((A + r) % N)
def cOk (N A m : Int) (C : Int → Int → Int → Int) (M : xM) : Prop := ∀ d t r, 0 ≤ d → d < m → 0 ≤ t → t ≤ 1 → -d - t ≤ r → r ≤ d + t → M 51 (gix m d r t) = C d ((A + r) % N) t
theorem withT_e {M : xM} {d r t : Int} {k : Nat} (hm : 1 ≤ m ∧ m ≤ 30) (e50 : M 50 1 = m) (hc : cOk N A m C M) (ha : ∀ r, -(d + 1) ≤ r → r ≤ d + 1 → M 63 (aix m (d + 1) r) = sBf N C g m k ((A + r) % N)) (hd : 0 ≤ d ∧ d < m) (hr : -d ≤ r ∧ r ≤ d) (ht : -1 ≤ t ∧ t ≤ 1) : fX3_withTurn M d r t = some (C d (((A + r) % N + t) % N) (sTo1 t) + sBf N C g m k (((A + r) % N + t) % N)) := by
  have e1 : ((A + r) % N + t) % N = (A + (r + t)) % N := by rw [Int.emod_add_emod, Int.add_assoc]
  have gr := gix_rng (d := d) (r := r + t) (t := t) hm hd (by omega)
  have ar := aix_rng (d := d + 1) (r := r + t) hm (by omega) (by omega)
  have gt : gix m d (r + t) t = gix m d (r + t) (sTo1 t) := by
    unfold gix sTo1
    by_cases h : t = 0
    · rw [if_pos h, if_pos rfl]
    · rw [if_neg h, if_neg (by omega)]
  have st : 0 ≤ sTo1 t ∧ sTo1 t ≤ 1 ∧ (t = 0 → sTo1 t = 0) ∧ (t ≠ 0 → sTo1 t = 1) := by
    unfold sTo1
    split <;> omega
  unfold fX3_withTurn
  rw [cellOf_e e50 ht, xrd_at gr.1 gr.2 (by omega), aheadOf_e e50, xrd_at ar.1 ar.2 (by omega), gt, hc d (sTo1 t) (r + t) hd.1 hd.2 st.1 st.2.1 (by omega) (by omega), ha (r + t) (by omega) (by omega), e1]
theorem rek2_q {v1 d : Int} {k : Nat} (hC : ∀ d an t, -99990 ≤ C d an t ∧ C d an t ≤ 99990) (hm : 1 ≤ m ∧ m ≤ 30) (hv : v1 = b2i g) (hd : 0 ≤ d ∧ d < m) (hk : (k : Int) = m - (d + 1)) (n : Nat) : ∀ (M : xM) (v : Int), M 50 1 = m → cOk N A m C M → (∀ r, -(d + 1) ≤ r → r ≤ d + 1 → M 63 (aix m (d + 1) r) = sBf N C g m k ((A + r) % N)) → -d ≤ v → v ≤ d + 1 → d + 1 - v < n → yk (fX3_reckon_L49 n M v1 d v) fun M' => (∀ o, o ≠ 63 → M' o = M o) ∧ (∀ r, v ≤ r → r ≤ d → M' 63 (aix m d r) = sBf N C g m (k + 1) ((A + r) % N)) ∧ ∀ j, (∀ r, v ≤ r → r ≤ d → j ≠ aix m d r) → M' 63 j = M 63 j := by
  induction n with
  | zero => intro M v e50 hc ha h0 h1 h2; omega
  | succ n ih =>
    intro M v e50 hc ha h0 h1 h2
    unfold fX3_reckon_L49
    by_cases h : d < v
    · rw [if_pos (by rw [wr_id (by omega) (by omega), wr_id (by omega) (by omega)]; exact h)]
      exact ⟨_, rfl, fun _ _ => rfl, fun r r0 r1 => by omega, fun j hj => rfl⟩
    · have ar := aix_rng (d := d) (r := v) hm (by omega) (by omega)
      have w0 := withT_e (g := g) (k := k) (t := 0) hm e50 hc ha hd (r := v) (by omega) (by omega)
      have w1 := withT_e (g := g) (k := k) (t := 1) hm e50 hc ha hd (r := v) (by omega) (by omega)
      have w2 := withT_e (g := g) (k := k) (t := -1) hm e50 hc ha hd (r := v) (by omega) (by omega)
      have s0 : sTo1 0 = 0 := rfl
      have s1 : sTo1 1 = 1 := rfl
      have s2 : sTo1 (-1) = 1 := rfl
      rw [s0] at w0
      rw [s1] at w1
      rw [s2] at w2
      have es : sBf N C g m (k + 1) ((A + v) % N) = sOpt g (C d (((A + v) % N + 0) % N) 0 + sBf N C g m k (((A + v) % N + 0) % N)) (C d (((A + v) % N + 1) % N) 1 + sBf N C g m k (((A + v) % N + 1) % N)) (C d (((A + v) % N + -1) % N) 1 + sBf N C g m k (((A + v) % N + -1) % N)) := by
        have : m - ((k : Int) + 1) = d := by omega
        show sOpt g (C (m - (k + 1)) _ 0 + _) _ _ = _
        rw [this]
      have b0 := sBf_rng (N := N) (g := g) (m := m) hC k (((A + v) % N + 0) % N)
      have b1 := sBf_rng (N := N) (g := g) (m := m) hC k (((A + v) % N + 1) % N)
      have b2 := sBf_rng (N := N) (g := g) (m := m) hC k (((A + v) % N + -1) % N)
      have c0 := hC d (((A + v) % N + 0) % N) 0
      have c1 := hC d (((A + v) % N + 1) % N) 1
      have c2 := hC d (((A + v) % N + -1) % N) 1
      have y0 : -3100000 ≤ C d (((A + v) % N + 0) % N) 0 + sBf N C g m k (((A + v) % N + 0) % N) ∧ C d (((A + v) % N + 0) % N) 0 + sBf N C g m k (((A + v) % N + 0) % N) ≤ 3100000 := by omega
      have y1 : -3100000 ≤ C d (((A + v) % N + 1) % N) 1 + sBf N C g m k (((A + v) % N + 1) % N) ∧ C d (((A + v) % N + 1) % N) 1 + sBf N C g m k (((A + v) % N + 1) % N) ≤ 3100000 := by omega
      have y2 : -3100000 ≤ C d (((A + v) % N + -1) % N) 1 + sBf N C g m k (((A + v) % N + -1) % N) ∧ C d (((A + v) % N + -1) % N) 1 + sBf N C g m k (((A + v) % N + -1) % N) ≤ 3100000 := by omega
      rw [if_neg (by rw [wr_id (by omega) (by omega), wr_id (by omega) (by omega)]; exact h), w0, xb_some, w1, xb_some, w2, xb_some, yk_xj, aheadOf_e e50]
      generalize C d (((A + v) % N + 0) % N) 0 + sBf N C g m k (((A + v) % N + 0) % N) = x0 at *
      generalize C d (((A + v) % N + 1) % N) 1 + sBf N C g m k (((A + v) % N + 1) % N) = x1 at *
      generalize C d (((A + v) % N + -1) % N) 1 + sBf N C g m k (((A + v) % N + -1) % N) = x2 at *
      have fin : ∀ x, x = sBf N C g m (k + 1) ((A + v) % N) → yk (xwt M 63 1891 (aix m d v) x fun M12 => fX3_reckon_L49 n M12 v1 d (v + 1)) fun M' => (∀ o, o ≠ 63 → M' o = M o) ∧ (∀ r, v ≤ r → r ≤ d → M' 63 (aix m d r) = sBf N C g m (k + 1) ((A + r) % N)) ∧ ∀ j, (∀ r, v ≤ r → r ≤ d → j ≠ aix m d r) → M' 63 j = M 63 j := by
        intro x hx
        rw [xwt_at ar.1 ar.2 (by omega)]
        refine yk.mono (ih _ (v + 1) (by rw [xup_o (by omega)]; exact e50) (fun d t r a b c e f g => by rw [xup_o (by omega)]; exact hc d t r a b c e f g) ?_ (by omega) (by omega) (by omega)) ?_
        · intro r r0 r1
          rw [xup_n (fun c => by have := (aix_inj (by omega) (by omega) c).1; omega)]
          exact ha r r0 r1
        · intro M' z
          refine ⟨fun o ho => by rw [z.1 o ho, xup_o ho], ?_, ?_⟩
          · intro r r0 r1
            by_cases e : r = v
            · subst e
              rw [z.2.2 _ (fun r' a b c => by have := (aix_inj (by omega) (by omega) c).2; omega), xup_e rfl, hx]
            · exact z.2.1 r (by omega) r1
          · intro j hj
            rw [z.2.2 j (fun r' a b => hj r' (by omega) b), xup_n (hj v (by omega) (by omega))]
      subst hv
      unfold sOpt at es
      cases g with
      | false =>
        rw [if_pos (by decide)]
        refine fin _ ?_
        rw [es, if_neg (by decide)]
        unfold xmin
        simp (disch := omega) only [wr_id]
        by_cases q : x2 < x1
        · rw [if_pos q]
          split <;> omega
        · rw [if_neg q]
          split <;> omega
      | true =>
        rw [if_neg (by decide)]
        refine fin _ ?_
        rw [es, if_pos rfl]
        unfold xmax
        simp (disch := omega) only [wr_id]
        by_cases q : x1 < x2
        · rw [if_pos q]
          split <;> omega
        · rw [if_neg q]
          split <;> omega
theorem rek3_q {v1 : Int} (hC : ∀ d an t, -99990 ≤ C d an t ∧ C d an t ≤ 99990) (hm : 1 ≤ m ∧ m ≤ 30) (hv : v1 = b2i g) (n : Nat) : ∀ (M : xM) (d : Int), M 50 1 = m → cOk N A m C M → aOk N A m C g M d → -1 ≤ d → d < m → d + 1 < n → yk (fX3_reckon_L42 n M v1 d) fun M' => (∀ o, o ≠ 63 → M' o = M o) ∧ aOk N A m C g M' (-1) := by
  induction n with
  | zero => intro M d e50 hc ha h0 h1 h2; omega
  | succ n ih =>
    intro M d e50 hc ha h0 h1 h2
    unfold fX3_reckon_L42
    by_cases h : d < 0
    · rw [if_pos (by rw [wr_id (by omega) (by omega)]; exact h)]
      exact ⟨_, rfl, fun _ _ => rfl, fun e r a b c f => ha e r (by omega) b c f⟩
    · have ek : ((m - (d + 1)).toNat : Int) = m - (d + 1) := by omega
      rw [if_neg (by rw [wr_id (by omega) (by omega)]; exact h), yk_xb]
      refine yk.mono (rek2_q (g := g) (k := (m - (d + 1)).toNat) hC hm hv (by omega) ek xfuel M (-d) e50 hc (fun r r0 r1 => ha (d + 1) r (by omega) (by omega) r0 r1) (by omega) (by omega) (by unfold xfuel; omega)) ?_
      intro M1 q1
      have e4 : d + -1 = d - 1 := by omega
      rw [e4]
      refine yk.mono (ih M1 (d - 1) (by rw [q1.1 50 (by omega)]; exact e50) (fun d t r a b c e f g => by rw [q1.1 51 (by omega)]; exact hc d t r a b c e f g) ?_ (by omega) (by omega) (by omega)) ?_
      · intro e r a b c f
        by_cases e5 : e = d
        · subst e5
          have e6 : (m - e).toNat = (m - (e + 1)).toNat + 1 := by omega
          rw [q1.2.1 r c f, e6]
        · rw [q1.2.2 _ (fun r' a b c => by have := (aix_inj (by omega) (by omega) c).1; omega)]
          exact ha e r (by omega) b c f
      · intro M2 q2
        exact ⟨fun o ho => by rw [q2.1 o ho, q1.1 o ho], q2.2⟩
theorem reckon_e {M : xM} {v1 : Int} (hC : ∀ d an t, -99990 ≤ C d an t ∧ C d an t ≤ 99990) (hm : 1 ≤ m ∧ m ≤ 30) (hv : v1 = b2i g) (hA : 0 ≤ A ∧ A < N) (e50 : M 50 1 = m) (hc : cOk N A m C M) : yk (fX3_reckon M v1) fun q => q.1 = sBf N C g m m.toNat A ∧ (∀ o, o ≠ 63 → q.2 o = M o) ∧ aOk N A m C g q.2 (-1) := by
  unfold fX3_reckon
  rw [e50, yk_xb]
  refine yk.mono (rek1_q (v1 := v1) hm xfuel M (-m) e50 (by omega) (by omega) (by unfold xfuel; omega)) ?_
  intro M1 q1
  have e501 : M1 50 1 = m := by rw [q1.1 50 (by omega)]; exact e50
  rw [e501, yk_xb]
  refine yk.mono (rek3_q (N := N) (A := A) (g := g) hC hm hv xfuel M1 (m - 1) e501 (fun d t r a b c e f g => by rw [q1.1 51 (by omega)]; exact hc d t r a b c e f g) ?_ (by omega) (by omega) (by unfold xfuel; omega)) ?_
  · intro e r a b c f
    have e5 : e = m := by omega
    subst e5
    have e6 : (e - e).toNat = 0 := by omega
    rw [q1.2.1 r c f, e6]
    rfl
  · intro M2 q2
    have e502 : M2 50 1 = m := by rw [q2.1 50 (by omega)]; exact e501
    have ar := aix_rng (d := 0) (r := 0) hm (by omega) (by omega)
    rw [aheadOf_e e502, xrd_at ar.1 ar.2 (by omega), yk_some]
    refine ⟨?_, fun o ho => (q2.1 o ho).trans (q1.1 o ho), q2.2⟩
    show M2 63 (aix m 0 0) = _
    rw [q2.2 0 0 (by omega) (by omega) (by omega) (by omega), Int.add_zero, Int.emod_eq_of_lt hA.1 hA.2, Int.sub_zero]
end RK
