/-! text: lines and the whole, the class -/
def lc (l : St × St) : List Int := trL l.1 ++ (trL l.2 ++ [if l.2 = [] then -14 else -9])
def cdL : List (St × St) → List Int
  | [] => []
  | l :: r => lc l ++ cdL r
def gsL : List (St × St) → St
  | [] => []
  | l :: r => (l.1 ++ l.2) ++ gsL r
theorem cdL_app (a : List (St × St)) (l : St × St) : cdL (a ++ [l]) = cdL a ++ lc l := by
  induction a with
  | nil => show lc l ++ [] = [] ++ lc l; rw [List.append_nil, List.nil_append]
  | cons x a ih => show lc x ++ cdL (a ++ [l]) = (lc x ++ cdL a) ++ lc l; rw [ih, List.append_assoc]
theorem gsL_app (a : List (St × St)) (l : St × St) : gsL (a ++ [l]) = gsL a ++ (l.1 ++ l.2) := by
  induction a with
  | nil => show (l.1 ++ l.2) ++ [] = [] ++ (l.1 ++ l.2); rw [List.append_nil, List.nil_append]
  | cons x a ih => show (x.1 ++ x.2) ++ gsL (a ++ [l]) = ((x.1 ++ x.2) ++ gsL a) ++ (l.1 ++ l.2); rw [ih, List.append_assoc (x.1 ++ x.2)]
def okL (l : St × St) : Prop := tyE l.1 ∧ (l.2 = [] ∨ tyR l.2 [] = some [true])
theorem lc_len (l : St × St) : (lc l).length = (trL l.1).length + (trL l.2).length + 1 := by
  unfold lc
  rw [List.length_append, List.length_append]
  show _ + (_ + 1) = _
  omega
theorem pH_g {ts : Ts} (h : okT ts) : (∃ f, pH ts = .inl f ∧ 1 ≤ f.1 ∧ f.1 ≤ 3) ∨ ∃ q, pH ts = .inr q ∧ okT q.2 ∧ q.2.length ≤ ts.length ∧ (trL q.1).length + q.2.length ≤ ts.length ∧ (q.1 = [] ∨ tyR q.1 [] = some [true]) ∧ ∀ t r, ts = t :: r → (t.1 = 8 → q.1 ≠ [] ∧ pB (pC 8) r [] = .inr q) ∧ (t.1 ≠ 8 → q = ([], ts)) := by
  cases ts with
  | nil => exact h.elim
  | cons t r =>
    rw [pH_c]
    by_cases c : t.1 = 8
    · rw [if_pos c]
      have gx := pB_g (pC_g 8) (ts := r) (S := []) (okT_tail h (by omega))
      cases hx : pB (pC 8) r [] with
      | inl f => rw [hx] at gx; exact Or.inl ⟨f, rfl, gx⟩
      | inr p =>
        rw [hx] at gx
        obtain ⟨o1, l1, s, e1, c1, t1⟩ := gx
        rw [List.nil_append] at e1
        have ty := t1 [] (by rw [List.length_nil]; omega)
        rw [← e1] at ty c1
        refine Or.inr ⟨p, rfl, o1, by rw [List.length_cons]; omega, by rw [List.length_cons]; omega, Or.inr ty, ?_⟩
        intro t' r' e
        obtain ⟨e1', e2'⟩ := List.cons.inj e
        subst e1' e2'
        refine ⟨fun _ => ⟨?_, hx⟩, fun w => absurd c w⟩
        intro w
        rw [w] at ty
        exact absurd ty (by decide)
    · rw [if_neg c]
      refine Or.inr ⟨_, rfl, h, Nat.le_refl _, ?_, Or.inl rfl, ?_⟩
      · show 0 + (t :: r).length ≤ _; omega
      · intro t' r' e
        obtain ⟨e1', e2'⟩ := List.cons.inj e
        subst e1' e2'
        exact ⟨fun w => absurd w c, fun _ => rfl⟩
theorem pL_g {ts : Ts} {nl : Int} (h : okT ts) : (∃ f, pL ts nl = .inl f ∧ 1 ≤ f.1 ∧ f.1 ≤ 3) ∨ ∃ q, pL ts nl = .inr q ∧ okT q.2.2 ∧ q.2.2.length < ts.length ∧ (lc (q.1, q.2.1)).length + q.2.2.length ≤ ts.length ∧ okL (q.1, q.2.1) ∧ nl < 16 := by
  cases ts with
  | nil => exact h.elim
  | cons t r =>
    unfold pL
    dsimp only
    by_cases c : t.1 = 7
    · rw [if_pos c]
      by_cases c16 : 16 ≤ nl
      · rw [if_pos c16]; exact Or.inl ⟨_, rfl, by dsimp only; omega, by dsimp only; omega⟩
      · rw [if_neg c16]
        have gx := pE_g (ts := r) (S := []) (okT_tail h (by omega))
        cases hx : pE r [] with
        | inl f => rw [hx] at gx; exact Or.inl ⟨f, rfl, gx⟩
        | inr a =>
          rw [hx] at gx
          obtain ⟨o1, l1, s, e1, c1, t1⟩ := gx
          rw [List.nil_append] at e1
          rw [← e1] at c1 t1
          dsimp only
          rcases pH_g (ts := a.2) o1 with ⟨f, ef, hf⟩ | ⟨b, eb, ob, lb, cb, tb, _⟩
          · rw [ef]; exact Or.inl ⟨f, rfl, hf⟩
          · rw [eb]
            dsimp only
            have gy := pX_g (k := 13) (S := []) (by decide) ob
            cases hy : pX 13 b.2 [] with
            | inl f => rw [hy] at gy; exact Or.inl ⟨f, rfl, gy⟩
            | inr d =>
              rw [hy] at gy
              obtain ⟨o2, l2, _⟩ := gy
              refine Or.inr ⟨_, rfl, o2, ?_, ?_, ⟨t1, tb⟩, by omega⟩
              · rw [List.length_cons]; dsimp only; omega
              · rw [lc_len, List.length_cons]; dsimp only; omega
    · rw [if_neg c]; exact Or.inl ⟨_, rfl, by dsimp only; omega, by dsimp only; omega⟩
def lF (M M' : xM) : Prop := (∀ o, o ≠ 36 → o ≠ 41 → o ≠ 42 → M' o = M o) ∧ (∀ j, j ≠ 1 → j ≠ 2 → j ≠ 8 → M' 36 j = M 36 j)
theorem lF_tr {M M1 M2 : xM} (h : lF M M1) (k : lF M1 M2) : lF M M2 := ⟨fun o a b c => by rw [k.1 o a b c, h.1 o a b c], fun j a b c => by rw [k.2 j a b c, h.2 j a b c]⟩
theorem cF_lF {M M' : xM} (h : cF M M') : lF M M' := ⟨h.1, h.2.1⟩
def lX (M M' : xM) (f : Int × Int) : Prop := lF M M' ∧ (M' 36 1 = f.1 ∧ M' 36 2 = f.2) ∧ (0 ≤ M' 36 8 ∧ M' 36 8 ≤ 400)
def lG (M M' : xM) (ts : Ts) (D : List Int) (G : St) : Prop := lF M M' ∧ (M' 36 1 = M 36 1 ∧ M' 36 2 = M 36 2) ∧ M' 41 0 = M 41 0 + 1 ∧ cS M' ts D G
theorem cS_nil {M : xM} {ts : Ts} {D : List Int} {G : St} (h : cS M ts D G) : cS M ts (D ++ trL []) (G ++ []) := by
  show cS M ts (D ++ []) (G ++ [])
  rw [List.append_nil, List.append_nil]
  exact h
theorem len_nil {D : List Int} : (D ++ trL []).length = D.length := by show (D ++ []).length = _; rw [List.append_nil]
theorem endK_e {M : xM} {ts : Ts} {D : List Int} {G : St} {u : Int} (hu : 0 ≤ u ∧ u ≤ 24) (h : cS M ts D G) (hp : D.length + ts.length ≤ 400) : yk (xb (fX9_add M (xxor u ((-1)))) fun M14 => xlet (xup M14 41 0 ((M14 41 0) + 1)) fun M15 => xb2 (fX7_expect M15 13) fun r17 M18 => some (r17, M18)) fun q => match pX 13 ts [] with
    | .inl f => q.1 = false ∧ lX M q.2 f
    | .inr p => q.1 = true ∧ lG M q.2 p.2 (D ++ [-u - 1]) G := by
  have lp := okT_pos h.1.2.2
  have a1 := h.2.1.1
  rw [xnot_k (by omega), addK_e (by omega), xb_some, yk_xlet, yk_xb2]
  have g1 := cG_ad (v := -u - 1) h (by omega)
  have e0 : ad M (-u - 1) 41 0 = M 41 0 := ad_j (by omega)
  rw [e0]
  have s2 : cS (xup (ad M (-u - 1)) 41 0 (M 41 0 + 1)) ts (D ++ [-u - 1]) G := by
    obtain ⟨⟨a, c, o⟩, d, f⟩ := g1.2.2
    refine ⟨⟨by rw [xup_o (by omega)]; exact a, ?_, o⟩, cD_fr d (xup_n (by omega)) (xup_o (by omega)), by rw [xup_n (by omega)]; exact f⟩
    rw [xup_o (by omega)]
    exact cT_fr (xup_o (by omega)) (xup_o (by omega)) (xup_o (by omega)) ts _ c
  have f2 : lF M (xup (ad M (-u - 1)) 41 0 (M 41 0 + 1)) := ⟨fun o a b c => by rw [xup_o b, ad_o b c], fun j _ _ _ => by rw [xup_o (by omega), ad_o (by omega) (by omega)]⟩
  have m1 : ∀ j, xup (ad M (-u - 1)) 41 0 (M 41 0 + 1) 36 j = M 36 j := fun j => by rw [xup_o (by omega), ad_o (by omega) (by omega)]
  refine yk.mono (expect_e (k := 13) (by omega) (cS_nil s2) (by rw [len_nil, List.length_append]; show D.length + 1 ≤ 400; omega)) ?_
  intro q hq
  rw [yk_some]
  cases hx : pX 13 ts [] with
  | inl f =>
    rw [hx] at hq
    have q2 : cX _ q.2 f := hq.2
    exact ⟨hq.1, lF_tr f2 (cF_lF q2.1), q2.2.1, q2.2.2.2⟩
  | inr p =>
    rw [hx] at hq
    have q2 : cG _ q.2 p.2 ((D ++ [-u - 1]) ++ trL p.1) (G ++ p.1) := hq.2
    have pn : p.1 = [] := by
      have gx := pX_g (k := 13) (S := []) (by decide) h.1.2.2
      rw [hx] at gx
      obtain ⟨_, _, s, e1, _, t1⟩ := gx
      rw [e1, t1]; rfl
    rw [pn] at q2
    refine ⟨hq.1, lF_tr f2 (cF_lF q2.1), ⟨by rw [q2.2.1.1, m1], by rw [q2.2.1.2, m1]⟩, by rw [q2.1.2.2, xup_e rfl], ?_⟩
    have := q2.2.2
    show cS q.2 p.2 (D ++ [-u - 1]) G
    have e1 : (D ++ [-u - 1]) ++ trL [] = D ++ [-u - 1] := List.append_nil _
    have e2 : G ++ ([] : St) = G := List.append_nil _
    rw [e1, e2] at this
    exact this
theorem lineK_e {M : xM} {ts : Ts} {D : List Int} {G : St} (h : cS M ts D G) (hp : D.length + ts.length ≤ 401) (h0 : 0 ≤ M 41 0 ∧ M 41 0 ≤ 16) : yk (fX7_readLine M) fun q => match pL ts (M 41 0) with
    | .inl f => lX M q.2 f
    | .inr p => lG M q.2 p.2.2 (D ++ lc (p.1, p.2.1)) (G ++ (p.1 ++ p.2.1)) := by
  cases ts with
  | nil => exact h.1.2.2.elim
  | cons t r =>
    have a := cS_at h
    have hp' := hp
    rw [List.length_cons] at hp'
    unfold fX7_readLine
    rw [xrd_at a.1.1 a.1.2 (by omega), a.2.1.1]
    simp only [xj, xlet]
    rw [wr_id (x := M 41 0) (by omega) (by omega), wr_id (x := 16) (by omega) (by omega)]
    unfold pL
    dsimp only
    by_cases c : t.1 = 7
    · rw [if_pos (by rw [c]), if_pos c]
      by_cases c16 : M 41 0 < 16
      · rw [if_pos c16, if_neg (by omega)]
        have okt := okT_tail h.1.2.2 (show t.1 ≠ 23 by omega)
        have g9 := cG_nx h (show t.1 ≠ 23 by omega)
        have ex : fX7_expect M 7 = some (true, xup M 36 8 (M 36 8 + 1)) := by
          unfold fX7_expect
          rw [xrd_at a.1.1 a.1.2 (by omega), a.2.1.1, if_pos (by rw [c])]
          rfl
        rw [ex, yk_xb2, yk_some]
        dsimp only
        rw [if_pos rfl, yk_xb2]
        refine yk.mono (esumK_e (D0 := D) (G0 := G) (S := []) (cS_nil g9.2.2) (by rw [len_nil]; omega)) ?_
        intro q hq
        have gx := pE_g (ts := r) (S := []) okt
        cases hx : pE r [] with
        | inl f =>
          rw [hx] at hq
          have q1 : q.1 = false := hq.1
          have q2 : cX _ q.2 f := hq.2
          rw [q1, if_neg (by decide), yk_some]
          exact ⟨lF_tr (cF_lF g9.1) (cF_lF q2.1), q2.2.1, q2.2.2.2⟩
        | inr va =>
          rw [hx] at hq gx
          have q1 : q.1 = true := hq.1
          have q2 : cG _ q.2 va.2 (D ++ trL va.1) (G ++ va.1) := hq.2
          obtain ⟨o1, l1, s, e1, c1, t1⟩ := gx
          rw [List.nil_append] at e1
          rw [← e1] at c1
          have g10 := cG_tr g9 q2
          clear q2 hx hq e1 t1
          rw [q1, if_pos rfl]
          obtain ⟨va1, va2⟩ := va
          dsimp only at *
          have dl : (D ++ trL va1).length = D.length + (trL va1).length := List.length_append
          cases va2 with
          | nil => exact o1.elim
          | cons u y =>
            rw [List.length_cons] at c1 l1
            have b := cS_at g10.2.2
            rw [xrd_at b.1.1 b.1.2 (by omega), b.2.1.1]
            have up : ∀ (M2 : xM) (ts2 : Ts) (D2 : List Int) (G2 : St) (v : Int) (q : Bool × xM) (cc : St) (e : D2 ++ [-v - 1] = D ++ lc (va1, cc)) (e2 : G2 = G ++ (va1 ++ cc)), cG M M2 ts2 D2 G2 → (match pX 13 ts2 [] with
                | .inl f => q.1 = false ∧ lX M2 q.2 f
                | .inr p => q.1 = true ∧ lG M2 q.2 p.2 (D2 ++ [-v - 1]) G2) → (match (match pX 13 ts2 [] with
                  | .inl f => .inl f
                  | .inr c => .inr (va1, cc, c.2) : (Int × Int) ⊕ (St × St × Ts)) with
                | .inl f => lX M q.2 f
                | .inr p => lG M q.2 p.2.2 (D ++ lc (p.1, p.2.1)) (G ++ (p.1 ++ p.2.1))) := by
              intro M2 ts2 D2 G2 v q cc e e2 g hm
              cases hz : pX 13 ts2 [] with
              | inl f =>
                rw [hz] at hm
                exact ⟨lF_tr (cF_lF g.1) hm.2.1, hm.2.2⟩
              | inr p =>
                rw [hz] at hm
                have k := hm.2
                rw [e, e2] at k
                exact ⟨lF_tr (cF_lF g.1) k.1, ⟨by rw [k.2.1.1, g.2.1.1], by rw [k.2.1.2, g.2.1.2]⟩, by rw [k.2.2.1, g.1.2.2], k.2.2.2⟩
            by_cases c8 : u.1 = 8
            · have oky := okT_tail o1 (show u.1 ≠ 23 by omega)
              have g11 := cG_nx g10.2.2 (show u.1 ≠ 23 by omega)
              rw [if_pos (by rw [c8]), yk_xb2]
              have A := condK_e (D0 := D ++ trL va1) (G0 := G ++ va1) 8 (by omega)
              refine yk.mono (eitherK_e (d := 8) (by omega) A 40 _ y [] (by omega) (cS_nil g11.2.2) (by rw [len_nil]; omega)) ?_
              intro z hz
              have gy := pB_g (pC_g 8) (ts := y) (S := []) oky
              have ph : pH (u :: y) = pB (pC 8) y [] := by rw [pH_c, if_pos c8]
              have pg := pH_g o1
              rw [ph] at pg ⊢
              cases hy : pB (pC 8) y [] with
              | inl f =>
                rw [hy] at hz
                have z1 : z.1 = false := hz.1
                have z2 : cX _ z.2 f := hz.2
                rw [z1, if_neg (by decide), yk_some]
                have z3 := cX_tr g10.1 (cX_tr g11.1 z2)
                exact ⟨cF_lF z3.1, z3.2.1, z3.2.2.2⟩
              | inr co =>
                rw [hy] at hz gy pg
                have z1 : z.1 = true := hz.1
                have z2 : cG _ z.2 co.2 (D ++ trL va1 ++ trL co.1) (G ++ va1 ++ co.1) := hz.2
                obtain ⟨o3, l3, s3, e3, c3, t3⟩ := gy
                rw [List.nil_append] at e3
                rw [← e3] at c3
                have cn : co.1 ≠ [] := by
                  rcases pg with ⟨f, ef, _⟩ | ⟨w, ew, _, _, _, _, hw⟩
                  · exact absurd ef (by simp)
                  · have := ((hw u y rfl).1 c8).1
                    rw [← Sum.inr.inj ew] at this
                    exact this
                rw [z1, if_pos rfl]
                have g12 := cG_tr g10 (cG_tr g11 z2)
                refine yk.mono (endK_e (u := 8) (by omega) g12.2.2 ?_) ?_
                · rw [List.length_append]; omega
                · intro x hx
                  refine up z.2 co.2 _ _ 8 x co.1 ?_ ?_ g12 hx
                  · unfold lc
                    dsimp only
                    rw [if_neg cn, List.append_assoc, List.append_assoc]
                    rfl
                  · rw [List.append_assoc]
            · have ph : pH (u :: y) = .inr ([], u :: y) := by rw [pH_c, if_neg c8]
              rw [if_neg (by rw [wr_id (by omega) (by omega), wr_id (by omega) (by omega)]; exact c8), ph]
              refine yk.mono (endK_e (u := 13) (by omega) g10.2.2 ?_) ?_
              · rw [List.length_cons]; omega
              · intro x hx
                refine up q.2 (u :: y) _ _ 13 x [] ?_ ?_ g10 hx
                · unfold lc
                  dsimp only
                  rw [if_pos rfl, List.append_assoc]
                  rfl
                · rw [List.append_nil]
      · rw [if_neg c16, if_pos (by omega), fail_e a.1, yk_xb2, yk_some, yk_some]
        have z := cX_fl (v := 3) a.1 a.2.1.2.1 (by omega)
        exact ⟨cF_lF z.1, z.2.1, z.2.2.2⟩
    · rw [if_neg (by rw [wr_id (by omega) (by omega), wr_id (by omega) (by omega)]; exact c), if_neg c]
      have ex : fX7_expect M 7 = some (false, fl M 1) := by
        unfold fX7_expect
        rw [xrd_at a.1.1 a.1.2 (by omega), a.2.1.1, if_neg (by rw [wr_id (by omega) (by omega), wr_id (by omega) (by omega)]; exact c), fail_e a.1]
        rfl
      rw [ex, yk_xb2, yk_some]
      dsimp only
      rw [if_neg (by decide), yk_some]
      have z := cX_fl (v := 1) a.1 a.2.1.2.1 (by omega)
      exact ⟨cF_lF z.1, z.2.1, z.2.2.2⟩
