/-! text: sums and conditions, the class -/
theorem wr10 : (wr 1 = 0) = False := eq_false (by decide)
theorem wr00 : (wr 0 = 0) = True := eq_true (by decide)
theorem dl_app {D0 : List Int} {S s : St} : (D0 ++ trL (S ++ s)).length = (D0 ++ trL S).length + (trL s).length := by
  rw [trL_app, List.length_append, List.length_append, List.length_append]
  omega
theorem cG_lay {M M1 : xM} {ts : Ts} {D0 : List Int} {G0 S : St} {q0 : Int × Int} {v : Int} (h : cG M M1 ts (D0 ++ trL S) (G0 ++ S)) (hl : (D0 ++ trL S).length < 400) (hq : q0.1 ≠ 6) (hv : trS q0 = [v]) : cG M (ad M1 v) ts (D0 ++ trL (S ++ [q0])) (G0 ++ (S ++ [q0])) := by
  have g := cG_ad (v := v) h.2.2 hl
  have e : D0 ++ trL S ++ [v] = D0 ++ trL (S ++ [q0]) := by rw [trL_app, trL_one, hv, List.append_assoc]
  rw [e] at g
  refine cG_tr h ⟨g.1, g.2.1, cS_g g.2.2 ?_⟩
  intro q h1 h6
  rw [← List.append_assoc, List.mem_append] at h1
  rcases h1 with u | u
  · exact u
  · rw [List.mem_singleton] at u
    rw [u] at h6
    exact absurd h6 hq
def sP (M : xM) (D0 : List Int) (G0 : St) (x : PR) (q : Int × Int × xM) : Prop := match x with
  | .inl f => q.2.1 = 0 ∧ (-1 ≤ q.1 ∧ q.1 ≤ 30) ∧ cX M q.2.2 f
  | .inr p => q.2.1 = 1 ∧ (q.1 = -1 ∨ q.1 = 14 ∨ q.1 = 15) ∧ ∃ S', p.1 = S' ++ pw q.1 ∧ (D0 ++ trL S').length + wN q.1 + p.2.length ≤ 401 ∧ cG M q.2.2 p.2 (D0 ++ trL S') (G0 ++ S')
theorem sP_tr {M M1 : xM} {ts1 : Ts} {D1 D0 : List Int} {G1 G0 : St} {x : PR} {q : Int × Int × xM} (h : cG M M1 ts1 D1 G1) (k : sP M1 D0 G0 x q) : sP M D0 G0 x q := by
  cases x with
  | inl f => exact ⟨k.1, k.2.1, cX_tr h.1 k.2.2⟩
  | inr p =>
    obtain ⟨a, b, S', c, d, e⟩ := k
    exact ⟨a, b, S', c, d, cG_tr h e⟩
theorem esumK_q {D0 : List Int} {G0 : St} (n : Nat) : ∀ (M : xM) (ts : Ts) (S : St) (w v3 : Int) (k : Nat), cS M ts (D0 ++ trL S) (G0 ++ S) → (D0 ++ trL S).length + wN w + ts.length ≤ 401 → (w = -1 ∨ w = 14 ∨ w = 15) → 0 ≤ v3 → v3 + ts.length ≤ 401 → ts.length < n → ts.length < k → yk (fX7_readSum_L9 n M w 1 v3) (sP M D0 G0 (pS k ts S w)) := by
  induction n with
  | zero => intro M ts S w v3 k _ _ _ _ _ h; omega
  | succ n ih =>
    intro M ts S w v3 k h hp hw h0 h3 hn hk
    obtain ⟨k, rfl⟩ : ∃ m, k = m + 1 := ⟨k - 1, by omega⟩
    cases ts with
    | nil => exact h.1.2.2.elim
    | cons t r =>
      have a := cS_at h
      rw [List.length_cons] at hp h3 hn hk
      have okr : t.1 ≠ 23 → 1 ≤ r.length := fun hn => okT_pos (okT_tail h.1.2.2 hn)
      have fin : ¬ (14 ≤ t.1 ∧ t.1 ≤ 17) → yk (some (w, 1, M)) (sP M D0 G0 (pS (k + 1) (t :: r) S w)) := by
        intro hn
        unfold pS
        rw [if_neg (by omega), if_neg (by omega), if_neg (by omega), yk_some]
        exact ⟨rfl, hw, S, rfl, by rw [List.length_cons]; omega, cG_rfl h⟩
      unfold fX7_readSum_L9
      rw [wr_id (x := v3) (by omega) (by omega), wr_id (x := 400) (by omega) (by omega)]
      by_cases c3 : v3 < 400
      · rw [if_pos c3, if_neg (by decide), xrd_at a.1.1 a.1.2 (by omega), a.2.1.1, wr_id (x := t.1) (by omega) (by omega), wr_id (x := 14) (by omega) (by omega)]
        by_cases c14 : t.1 < 14
        · rw [if_pos c14]
          exact fin (by omega)
        · rw [if_neg c14, xrd_at a.1.1 a.1.2 (by omega), a.2.1.1, wr_id (x := t.1) (by omega) (by omega), wr_id (x := 17) (by omega) (by omega)]
          by_cases c17 : 17 < t.1
          · rw [if_pos c17]
            exact fin (by omega)
          · rw [if_neg c17, xrd_at a.1.1 a.1.2 (by omega), a.2.1.1]
            have lr := okr (by omega)
            have okt := okT_tail h.1.2.2 (show t.1 ≠ 23 by omega)
            have g9 := cG_nx h (by omega)
            obtain ⟨n, rfl⟩ : ∃ m, n = m + 1 := ⟨n - 1, by omega⟩
            simp only [xj, xlet]
            by_cases h16 : t.1 = 16
            · have cA : (wr t.1 = wr 16) = True := eq_true (by rw [h16])
              have cB : (t.1 = 17) = False := eq_false (by omega)
              have cA' : (t.1 = wr 16) = True := eq_true (by rw [h16]; decide)
              have cB' : (wr t.1 = 17) = False := eq_false (by rw [h16]; decide)
              have cB'' : (wr t.1 = wr 17) = False := eq_false (by rw [h16]; decide)
              simp only [cA, cB, cA', cB', cB'', wr10, ↓reduceIte]
              rw [yk_xb2]
              unfold pS
              rw [if_pos h16]
              refine yk.mono (unitK_e g9.2.2 (by omega)) ?_
              intro q hq
              have gx := pU_g (ts := r) (S := S) okt
              cases hx : pU r S with
              | inl f =>
                rw [hx] at hq
                have q1 : q.1 = false := hq.1
                have q2 : cX _ q.2 f := hq.2
                rw [q1, xnot_k (by omega), addK_e q2.2.2.1, xb_some, pbd_inl]
                show yk (fX7_readSum_L9 (n + 1) _ w 0 _) _
                rw [esumK_0, yk_some]
                exact ⟨rfl, by omega, cX_tr g9.1 (cX_ad q2)⟩
              | inr p =>
                rw [hx] at hq gx
                have q1 : q.1 = true := hq.1
                have q2 : cG _ q.2 p.2 (D0 ++ trL p.1) (G0 ++ p.1) := hq.2
                obtain ⟨o1, l1, s, e1, c1, t1, _⟩ := gx
                have lp1 := okT_pos o1
                have dl := dl_app (D0 := D0) (S := S) (s := s)
                rw [← e1] at dl
                have a2 := q2.2.2.2.1.1
                rw [q1, xnot_k (by omega), addK_e (by omega), xb_some, pbd_inr]
                have g3 := cG_lay (q0 := (15, 0)) (v := -t.1 - 1) q2 (by omega) (by decide) (by rw [h16]; decide)
                have dl2 := dl_app (D0 := D0) (S := p.1) (s := [(15, 0)])
                have l15 : (trL [((15 : Int), (0 : Int))]).length = 1 := by decide
                refine yk.mono (ih _ p.2 (p.1 ++ [(15, 0)]) w (v3 + 1) k g3.2.2 (by omega) hw (by omega) (by omega) (by omega) (by omega)) ?_
                intro z hz
                exact sP_tr (cG_tr g9 g3) hz
            · by_cases h17 : t.1 = 17
              · have cA : (wr t.1 = wr 16) = False := eq_false (by rw [h17]; decide)
                have cA' : (t.1 = wr 16) = False := eq_false (by rw [h17]; decide)
                have cB : (t.1 = 17) = True := eq_true h17
                have cB' : (wr t.1 = 17) = True := eq_true (by rw [h17]; decide)
                have cB'' : (wr t.1 = wr 17) = True := eq_true (by rw [h17])
                simp only [cA, cB, cA', cB', cB'', wr10, ↓reduceIte]
                rw [yk_xb2]
                unfold pS
                rw [if_neg h16, if_pos h17]
                refine yk.mono (divK_e g9.2.2 (by omega)) ?_
                intro q hq
                have gx := pD_g (ts := r) (S := S) okt
                cases hx : pD r S with
                | inl f =>
                  rw [hx] at hq
                  have q1 : q.1 = false := hq.1
                  have q2 : cX _ q.2 f := hq.2
                  rw [q1, xnot_k (by omega), addK_e q2.2.2.1, xb_some, pbd_inl]
                  show yk (fX7_readSum_L9 (n + 1) _ w 0 _) _
                  rw [esumK_0, yk_some]
                  exact ⟨rfl, by omega, cX_tr g9.1 (cX_ad q2)⟩
                | inr p =>
                  rw [hx] at hq gx
                  have q1 : q.1 = true := hq.1
                  obtain ⟨v, ev, q2⟩ := hq.2
                  obtain ⟨o1, l1, s, e1, c1, t1, _⟩ := gx
                  have lp1 := okT_pos o1
                  have dl := dl_app (D0 := D0) (S := S) (s := s)
                  rw [← e1] at dl
                  have a2 := q2.2.2.2.1.1
                  rw [List.length_append] at a2
                  have a3 : ((D0 ++ trL S).length + [v].length : Nat) = (D0 ++ trL S).length + 1 := rfl
                  rw [a3] at a2
                  rw [q1, xnot_k (by omega), addK_e (by omega), xb_some, pbd_inr]
                  have g3 := cG_ad (v := -t.1 - 1) q2.2.2 (by rw [List.length_append]; show (D0 ++ trL S).length + 1 < 400; omega)
                  have e3 : D0 ++ trL S ++ [v] ++ [-t.1 - 1] = D0 ++ trL p.1 := by
                    rw [ev, trL_app, trL_one, h17, List.append_assoc, List.append_assoc]
                    rfl
                  rw [e3] at g3
                  have g4 : cG _ _ p.2 (D0 ++ trL p.1) (G0 ++ p.1) := ⟨g3.1, g3.2.1, cS_g g3.2.2 (by
                    intro y hy h6
                    rw [ev, ← List.append_assoc, List.mem_append] at hy
                    rcases hy with u | u
                    · exact u
                    · rw [List.mem_singleton] at u
                      rw [u] at h6
                      dsimp only at h6
                      omega)⟩
                  refine yk.mono (ih _ p.2 p.1 w (v3 + 1) k g4.2.2 (by omega) hw (by omega) (by omega) (by omega) (by omega)) ?_
                  intro z hz
                  exact sP_tr (cG_tr g9 (cG_tr q2 g4)) hz
              · have h14 : t.1 = 14 ∨ t.1 = 15 := by omega
                have cA : (wr t.1 = wr 16) = False := eq_false (by rw [wr_id (by omega) (by omega), wr_id (by omega) (by omega)]; exact h16)
                have cA' : (t.1 = wr 16) = False := eq_false (by rw [wr_id (by omega) (by omega)]; exact h16)
                have cB : (t.1 = 17) = False := eq_false h17
                have cB' : (wr t.1 = 17) = False := eq_false (by rw [wr_id (by omega) (by omega)]; exact h17)
                have cB'' : (wr t.1 = wr 17) = False := eq_false (by rw [wr_id (by omega) (by omega), wr_id (by omega) (by omega)]; exact h17)
                simp only [cA, cB, cA', cB', cB'', wr00, ↓reduceIte]
                have wn : wN t.1 = 1 := by unfold wN; rw [if_neg (by omega)]
                have key : ∀ M10, cG M M10 r (D0 ++ trL (S ++ pw w)) (G0 ++ (S ++ pw w)) → yk (xb2 (fX7_readUnit M10) fun r21 M22 => fX7_readSum_L9 (n + 1) M22 t.1 (b2i r21) (v3 + 1)) (sP M D0 G0 (pS (k + 1) (t :: r) S w)) := by
                  intro M10 g10
                  have pg := pw_g hw
                  have dl0 := dl_app (D0 := D0) (S := S) (s := pw w)
                  rw [yk_xb2]
                  unfold pS
                  rw [if_neg h16, if_neg h17, if_pos h14]
                  refine yk.mono (unitK_e g10.2.2 (by omega)) ?_
                  intro q hq
                  have gx := pU_g (ts := r) (S := S ++ pw w) okt
                  cases hx : pU r (S ++ pw w) with
                  | inl f =>
                    rw [hx] at hq
                    have q1 : q.1 = false := hq.1
                    have q2 : cX _ q.2 f := hq.2
                    rw [q1, pbd_inl]
                    show yk (fX7_readSum_L9 (n + 1) _ _ 0 _) _
                    rw [esumK_0, yk_some]
                    exact ⟨rfl, by dsimp only; omega, cX_tr g10.1 q2⟩
                  | inr p =>
                    rw [hx] at hq gx
                    have q1 : q.1 = true := hq.1
                    have q2 : cG _ q.2 p.2 (D0 ++ trL p.1) (G0 ++ p.1) := hq.2
                    obtain ⟨o1, l1, s, e1, c1, t1, _⟩ := gx
                    have lp1 := okT_pos o1
                    have dl := dl_app (D0 := D0) (S := S ++ pw w) (s := s)
                    rw [← e1] at dl
                    rw [q1, pbd_inr]
                    refine yk.mono (ih _ p.2 p.1 t.1 (v3 + 1) k q2.2.2 (by omega) (by omega) (by omega) (by omega) (by omega) (by omega)) ?_
                    intro z hz
                    exact sP_tr (cG_tr g10 q2) hz
                by_cases w1 : w = -1
                · have cW : (wr w = wr (-1)) = True := eq_true (by rw [w1])
                  simp only [cW, ↓reduceIte]
                  refine key _ ?_
                  have : S ++ pw w = S := by rw [w1]; exact List.append_nil S
                  rw [this]
                  exact g9
                · have cW : (wr w = wr (-1)) = False := eq_false (by rw [wr_id (by omega) (by omega), wr_id (by omega) (by omega)]; exact w1)
                  have wn2 : wN w = 1 := by unfold wN; rw [if_neg w1]
                  simp only [cW, ↓reduceIte]
                  have a9 := g9.2.2.2.1.1
                  rw [xnot_k (by omega), addK_e (by omega), xb_some]
                  refine key _ ?_
                  have ep : pw w = [(w - 1, 0)] := by unfold pw; rw [if_neg w1]
                  rw [ep]
                  exact cG_lay g9 (by omega) (by dsimp only; omega) (by
                    rcases hw with u | u | u
                    · exact absurd u w1
                    · subst u; decide
                    · subst u; decide)
      · rw [if_neg c3]
        have : t.1 = 23 := by
          by_cases e : t.1 = 23
          · exact e
          · have := okr e; omega
        exact fin (by omega)
theorem esumK_e {M : xM} {ts : Ts} {D0 : List Int} {G0 S : St} (h : cS M ts (D0 ++ trL S) (G0 ++ S)) (hp : (D0 ++ trL S).length + ts.length ≤ 401) : yk (fX7_readSum M) (cO M D0 G0 (pE ts S)) := by
  unfold fX7_readSum pE
  rw [yk_xb2]
  refine yk.mono (unitK_e h hp) ?_
  intro q hq
  have gx := pU_g (ts := ts) (S := S) h.1.2.2
  have tl : ts.length ≤ 401 := by have := h.1.1; omega
  rw [yk_xb3]
  cases hx : pU ts S with
  | inl f =>
    rw [hx] at hq
    have q1 : q.1 = false := hq.1
    have q2 : cX _ q.2 f := hq.2
    obtain ⟨y, hy⟩ : ∃ y, xfuel = y + 1 := ⟨999999, rfl⟩
    rw [q1, hy]
    show yk (fX7_readSum_L9 (y + 1) _ _ 0 _) _
    rw [esumK_0, yk_some, if_pos rfl]
    exact ⟨_, rfl, rfl, q2⟩
  | inr p =>
    rw [hx] at hq gx
    have q1 : q.1 = true := hq.1
    have q2 : cG _ q.2 p.2 (D0 ++ trL p.1) (G0 ++ p.1) := hq.2
    obtain ⟨o1, l1, s, e1, c1, t1, _⟩ := gx
    have lp1 := okT_pos o1
    have dl := dl_app (D0 := D0) (S := S) (s := s)
    rw [← e1] at dl
    rw [q1, pbd_inr]
    have wn : wN (-1) = 0 := rfl
    refine yk.mono (esumK_q (D0 := D0) (G0 := G0) xfuel q.2 p.2 p.1 (-1) 0 (p.2.length + 1) q2.2.2 (by omega) (Or.inl rfl) (by omega) (by omega) (by unfold xfuel; omega) (by omega)) ?_
    intro z hz
    have hz := sP_tr q2 hz
    have w0 : wr 0 = 0 := by decide
    cases hy : pS (p.2.length + 1) p.2 p.1 (-1) with
    | inl f =>
      rw [hy] at hz
      obtain ⟨z1, z2, z3⟩ := hz
      rw [z1]
      by_cases c : wr z.1 = wr (-1)
      · rw [if_pos c]
        exact ⟨_, rfl, rfl, z3⟩
      · rw [if_neg c]
        have zz : 0 ≤ z.1 := by
          by_cases e : z.1 = -1
          · rw [e] at c; exact absurd rfl c
          · omega
        rw [xnot_k (by omega), addK_e z3.2.2.1, xb_some]
        exact ⟨_, rfl, rfl, cX_ad z3⟩
    | inr p2 =>
      rw [hy] at hz
      obtain ⟨z1, z2, S', z3, z4, z5⟩ := hz
      rw [z1]
      by_cases c : z.1 = -1
      · rw [if_pos (by rw [c])]
        have : p2.1 = S' := by rw [z3, c]; exact List.append_nil S'
        refine ⟨_, rfl, rfl, ?_⟩
        rw [this]
        exact z5
      · have wn2 : wN z.1 = 1 := by unfold wN; rw [if_neg c]
        have a9 := z5.2.2.2.1.1
        have lp := okT_pos z5.2.2.1.2.2
        rw [if_neg (by rw [wr_id (by omega) (by omega), wr_id (by omega) (by omega)]; exact c), xnot_k (by omega), addK_e (by omega), xb_some]
        refine ⟨_, rfl, rfl, ?_⟩
        have ep : pw z.1 = [(z.1 - 1, 0)] := by unfold pw; rw [if_neg c]
        rw [z3, ep]
        exact cG_lay z5 (by omega) (by dsimp only; omega) (by
          rcases z2 with u | u | u
          · exact absurd u c
          · rw [u]; decide
          · rw [u]; decide)
