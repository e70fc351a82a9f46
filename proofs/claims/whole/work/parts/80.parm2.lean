/-! text: products and sums, the reference -/
theorem prodM_q {G0 : St} {d : Int} (n : Nat) : ∀ (M : xM) (ts : Ts) (S : St), rS M ts (G0 ++ S) d → (G0 ++ S).length + ts.length ≤ 403 → ts.length < n → yk (fX12_product_L9 n M) fun x => (∃ M' S' ts', x = .inl M' ∧ rH M M' ts' (G0 ++ S') d ∧ ts'.length ≤ ts.length ∧ (G0 ++ S').length + ts'.length ≤ (G0 ++ S).length + ts.length ∧ noM ts' ∧ ∀ w, pZ ts S w = pZ ts' S' w) ∨ (∃ M' f, x = .inr (false, M') ∧ rX M M' f ∧ ∀ w, pZ ts S w = .inl f) := by
  induction n with
  | zero => intro M ts S _ _ h; omega
  | succ n ih =>
    intro M ts S h hp hn
    cases ts with
    | nil => exact h.2.2.1.elim
    | cons t r =>
      have a := rS_at h
      rw [List.length_cons] at hp hn ⊢
      have t14 := a.1.1
      unfold fX12_product_L9
      simp only [xj, tkis t14 a.2.1 16 142 (by decide) (by omega), tkis t14 a.2.1 17 147 (by decide) (by omega)]
      by_cases c16 : t.1 = 16
      · have c17 : (t.1 = 17) = False := eq_false (by omega)
        have c16' : (t.1 = 16) = True := eq_true c16
        simp only [c16', c17, ↓reduceIte, wr00]
        have okt := okT_tail h.2.2.1 (show t.1 ≠ 23 by omega)
        rw [yk_xb]
        refine yk.mono (rH_nx h (by omega)) ?_
        intro M8 g8
        rw [yk_xb2]
        refine yk.mono (unitM_e g8.2.2 (by omega)) ?_
        intro q hq
        have gx := pU_g (ts := r) (S := S) okt
        have pz : ∀ w, pZ (t :: r) S w = pbd (pU r S) fun S1 r1 => pZ r1 (S1 ++ [(15, 0)]) w := fun w => by rw [pZ_c, if_pos c16]
        cases hx : pU r S with
        | inl f =>
          rw [hx] at hq
          have q1 : q.1 = false := hq.1
          have q2 : rX _ q.2 f := hq.2
          rw [q1, if_neg (by decide), yk_some]
          exact Or.inr ⟨_, f, rfl, rX_tr g8.1 q2, fun w => by rw [pz, hx]; rfl⟩
        | inr p =>
          rw [hx] at hq gx
          have q1 : q.1 = true := hq.1
          have q2 : rH _ q.2 p.2 (G0 ++ p.1) d := hq.2
          obtain ⟨o1, l1, s, e1, c1, t1, _⟩ := gx
          have sl := trL_len s
          have gl := gl_app (G0 := G0) (S := S) (s := s)
          rw [← e1] at gl
          have a2 := q2.2.2.2.2.2.1.1
          rw [q1, if_pos rfl, lay_e (by omega), xb_some]
          have g3 := rH_ly (k := 15) (v := 0) q2.2.2
          rw [List.append_assoc] at g3
          have gl2 := gl_app (G0 := G0) (S := p.1) (s := [(15, 0)])
          have l15 : [((15 : Int), (0 : Int))].length = 1 := rfl
          refine yk.mono (ih _ p.2 (p.1 ++ [(15, 0)]) g3.2.2 (by omega) (by omega)) ?_
          intro x hx2
          have G := rH_tr g8 (rH_tr q2 g3)
          rcases hx2 with ⟨M', S', ts', u1, u2, u3, u4, u5, u6⟩ | ⟨M', f, u1, u2, u3⟩
          · exact Or.inl ⟨M', S', ts', u1, rH_tr G u2, by omega, by omega, u5, fun w => by rw [pz, hx]; exact u6 w⟩
          · exact Or.inr ⟨M', f, u1, rX_tr G.1 u2, fun w => by rw [pz, hx]; exact u3 w⟩
      · by_cases c17 : t.1 = 17
        · have c16' : (t.1 = 16) = False := eq_false c16
          have c17' : (t.1 = 17) = True := eq_true c17
          simp only [c16', c17', ↓reduceIte, wr10]
          have okt := okT_tail h.2.2.1 (show t.1 ≠ 23 by omega)
          rw [yk_xb]
          refine yk.mono (rH_nx h (by omega)) ?_
          intro M8 g8
          have pz : ∀ w, pZ (t :: r) S w = pbd (pD r S) fun S1 r1 => pZ r1 S1 w := fun w => by rw [pZ_c, if_neg c16, if_pos c17]
          cases r with
          | nil => exact okt.elim
          | cons u y =>
            have b := rS_at g8.2.2
            rw [List.length_cons] at hp hn ⊢
            simp only [tkis b.1.1 b.2.1 12 2 (by decide) (by omega)]
            have pd := pD_c (t := u) (r := y) (S := S)
            by_cases c12 : u.1 = 12
            · rw [if_pos c12] at pd ⊢
              have v := b.2.2.1 c12
              rw [b.1.2.2, wr_id (x := u.2.2) (by omega) (by omega)]
              by_cases z : u.2.2 = 0
              · rw [if_pos z] at pd ⊢
                rw [bad_e, yk_xb2, yk_some, yk_some]
                exact Or.inr ⟨_, (2, u.2.1), rfl, rX_tr g8.1 (rX_bad b.1.2.1), fun w => by rw [pz, pd]; rfl⟩
              · rw [if_neg z] at pd ⊢
                rw [yk_xb]
                refine yk.mono (rH_nx g8.2.2 (by omega)) ?_
                intro M18 g18
                have a2 := g18.2.2.2.2.2.1.1
                rw [lay_e (by omega), xb_some]
                have g3 := rH_ly (k := 16) (v := u.2.2) g18.2.2
                rw [List.append_assoc] at g3
                have gl2 := gl_app (G0 := G0) (S := S) (s := [(16, u.2.2)])
                have l15 : [((16 : Int), (u.2.2 : Int))].length = 1 := rfl
                refine yk.mono (ih _ y (S ++ [(16, u.2.2)]) g3.2.2 (by omega) (by omega)) ?_
                intro x hx2
                have G := rH_tr g8 (rH_tr g18 g3)
                rcases hx2 with ⟨M', S', ts', u1, u2, u3, u4, u5, u6⟩ | ⟨M', f, u1, u2, u3⟩
                · exact Or.inl ⟨M', S', ts', u1, rH_tr G u2, by omega, by omega, u5, fun w => by rw [pz, pd]; exact u6 w⟩
                · exact Or.inr ⟨M', f, u1, rX_tr G.1 u2, fun w => by rw [pz, pd]; exact u3 w⟩
            · rw [if_neg c12] at pd ⊢
              rw [bad_e, yk_xb2, yk_some, yk_some]
              exact Or.inr ⟨_, (1, u.2.1), rfl, rX_tr g8.1 (rX_bad b.1.2.1), fun w => by rw [pz, pd]; rfl⟩
        · have c16' : (t.1 = 16) = False := eq_false c16
          have c17' : (t.1 = 17) = False := eq_false c17
          simp only [c16', c17', ↓reduceIte]
          rw [yk_some]
          exact Or.inl ⟨M, S, t :: r, rfl, rH_rfl h, by rw [List.length_cons]; omega, by rw [List.length_cons]; omega, fun t' r' e => by obtain ⟨e1, e2⟩ := List.cons.inj e; subst e1; exact ⟨c16, c17⟩, fun w => rfl⟩
theorem prodM_e {M : xM} {ts : Ts} {G0 S : St} {d : Int} (h : rS M ts (G0 ++ S) d) (hp : (G0 ++ S).length + ts.length ≤ 403) : yk (fX12_product M) fun q => (∃ M' S' ts', q = (true, M') ∧ rH M M' ts' (G0 ++ S') d ∧ ts'.length < ts.length ∧ (G0 ++ S').length + ts'.length ≤ (G0 ++ S).length + ts.length ∧ noM ts' ∧ ∀ w, (pbd (pU ts S) fun S1 r1 => pZ r1 S1 w) = pZ ts' S' w) ∨ (∃ M' f, q = (false, M') ∧ rX M M' f ∧ ∀ w, (pbd (pU ts S) fun S1 r1 => pZ r1 S1 w) = .inl f) := by
  unfold fX12_product
  rw [yk_xb2]
  refine yk.mono (unitM_e h (by omega)) ?_
  intro q hq
  have gx := pU_g (ts := ts) (S := S) h.2.2.1
  cases hx : pU ts S with
  | inl f =>
    rw [hx] at hq
    have q1 : q.1 = false := hq.1
    have q2 : rX _ q.2 f := hq.2
    rw [q1, if_neg (by decide), yk_some]
    exact Or.inr ⟨_, f, rfl, q2, fun w => rfl⟩
  | inr p =>
    rw [hx] at hq gx
    have q1 : q.1 = true := hq.1
    have q2 : rH _ q.2 p.2 (G0 ++ p.1) d := hq.2
    obtain ⟨o1, l1, s, e1, c1, t1, _⟩ := gx
    have sl := trL_len s
    have gl := gl_app (G0 := G0) (S := S) (s := s)
    rw [← e1] at gl
    rw [q1, if_pos rfl, yk_xs1]
    refine yk.mono (prodM_q (G0 := G0) xfuel q.2 p.2 p.1 q2.2.2 (by omega) (by unfold xfuel; omega)) ?_
    intro x hx2
    rcases hx2 with ⟨M', S', ts', u1, u2, u3, u4, u5, u6⟩ | ⟨M', f, u1, u2, u3⟩
    · rw [u1]
      show yk (some (true, M')) _
      rw [yk_some]
      exact Or.inl ⟨M', S', ts', rfl, rH_tr q2 u2, by omega, by omega, u5, fun w => u6 w⟩
    · rw [u1]
      show yk (some (false, M')) _
      rw [yk_some]
      exact Or.inr ⟨M', f, rfl, rX_tr q2.1 u2, fun w => u3 w⟩
theorem esumM_q {G0 : St} {d : Int} (n : Nat) : ∀ (M : xM) (ts : Ts) (S : St), rS M ts (G0 ++ S) d → (G0 ++ S).length + ts.length ≤ 402 → noM ts → ts.length < n → yk (fX12_sumUp_L9 n M) fun x => (∃ M' p, x = .inl M' ∧ rH M M' p.2 (G0 ++ p.1) d ∧ pZ ts S (-1) = .inr p) ∨ (∃ M' f, x = .inr (false, M') ∧ rX M M' f ∧ pZ ts S (-1) = .inl f) := by
  induction n with
  | zero => intro M ts S _ _ _ h; omega
  | succ n ih =>
    intro M ts S h hp hm hn
    cases ts with
    | nil => exact h.2.2.1.elim
    | cons t r =>
      have a := rS_at h
      have cm := hm t r rfl
      rw [List.length_cons] at hp hn
      have t14 := a.1.1
      unfold fX12_sumUp_L9
      simp only [xj, tkis t14 a.2.1 14 143 (by decide) (by omega), tkis t14 a.2.1 15 145 (by decide) (by omega)]
      have e0 : S ++ pw (-1) = S := List.append_nil S
      by_cases c : t.1 = 14 ∨ t.1 = 15
      · have pz : pZ (t :: r) S (-1) = pbd (pU r S) fun S1 r1 => pZ r1 S1 t.1 := by rw [pZ_c, if_neg cm.1, if_neg cm.2, if_pos c, e0]
        have epw : pw t.1 = [(t.1 - 1, 0)] := by unfold pw; rw [if_neg (by omega)]
        have key : ∀ how, how = t.1 - 1 → yk (xb (fX12_next0 M) fun M8 => xb2 (fX12_product M8) fun r10 M11 => (if r10 = true then (xb (fX12_lay M11 how 0) fun M13 => fX12_sumUp_L9 n M13) else some (.inr (false, M11)))) fun x => (∃ M' p, x = .inl M' ∧ rH M M' p.2 (G0 ++ p.1) d ∧ pZ (t :: r) S (-1) = .inr p) ∨ (∃ M' f, x = .inr (false, M') ∧ rX M M' f ∧ pZ (t :: r) S (-1) = .inl f) := by
          intro how hh
          rw [yk_xb]
          refine yk.mono (rH_nx h (by omega)) ?_
          intro M8 g8
          rw [yk_xb2]
          refine yk.mono (prodM_e g8.2.2 (by omega)) ?_
          intro q hq
          rcases hq with ⟨M', S', ts', u1, u2, u3, u4, u5, u6⟩ | ⟨M', f, u1, u2, u3⟩
          · rw [u1]
            dsimp only
            have o2 := u2.2.2.2.2.1
            have lp := okT_pos o2
            have a2 := u2.2.2.2.2.2.1.1
            rw [if_pos rfl, lay_e (by omega), xb_some]
            have g3 := rH_ly (k := how) (v := 0) u2.2.2
            rw [hh, ← epw, List.append_assoc] at g3
            have gl2 := gl_app (G0 := G0) (S := S') (s := pw t.1)
            have l15 : (pw t.1).length = 1 := by rw [epw]; rfl
            rw [hh]
            refine yk.mono (ih _ ts' (S' ++ pw t.1) g3.2.2 (by omega) u5 (by omega)) ?_
            intro x hx
            have G := rH_tr g8 (rH_tr u2 g3)
            have ez : pZ (t :: r) S (-1) = pZ ts' (S' ++ pw t.1) (-1) := by rw [pz, u6, pZ_p o2 u5]
            rcases hx with ⟨N, p, v1, v2, v3⟩ | ⟨N, f, v1, v2, v3⟩
            · exact Or.inl ⟨N, p, v1, rH_tr G v2, by rw [ez]; exact v3⟩
            · exact Or.inr ⟨N, f, v1, rX_tr G.1 v2, by rw [ez]; exact v3⟩
          · rw [u1]
            dsimp only
            rw [if_neg (by decide), yk_some]
            exact Or.inr ⟨M', f, rfl, rX_tr g8.1 u2, by rw [pz]; exact u3 _⟩
        by_cases c14 : t.1 = 14
        · have c1 : (t.1 = 14) = True := eq_true c14
          simp only [c1, ↓reduceIte]
          exact key 13 (by omega)
        · have c1 : (t.1 = 14) = False := eq_false c14
          have c2 : (t.1 = 15) = True := eq_true (by omega)
          simp only [c1, c2, ↓reduceIte]
          exact key 14 (by omega)
      · have c1 : (t.1 = 14) = False := eq_false (by omega)
        have c2 : (t.1 = 15) = False := eq_false (by omega)
        simp only [c1, c2, ↓reduceIte]
        rw [yk_some]
        refine Or.inl ⟨M, (S, t :: r), rfl, rH_rfl h, ?_⟩
        rw [pZ_c, if_neg cm.1, if_neg cm.2, if_neg c, e0]
theorem esumM_e {M : xM} {ts : Ts} {G0 S : St} {d : Int} (h : rS M ts (G0 ++ S) d) (hp : (G0 ++ S).length + ts.length ≤ 402) : yk (fX12_sumUp M) (rO M G0 d (pE ts S)) := by
  unfold fX12_sumUp
  rw [yk_xb2, pE_z]
  have tl : ts.length ≤ 402 := by omega
  refine yk.mono (prodM_e h (by omega)) ?_
  intro q hq
  rcases hq with ⟨M', S', ts', u1, u2, u3, u4, u5, u6⟩ | ⟨M', f, u1, u2, u3⟩
  · rw [u1, u6]
    dsimp only
    rw [if_pos rfl, yk_xs1]
    refine yk.mono (esumM_q (G0 := G0) xfuel M' ts' S' u2.2.2 (by omega) u5 (by unfold xfuel; omega)) ?_
    intro x hx
    rcases hx with ⟨N, p, v1, v2, v3⟩ | ⟨N, f, v1, v2, v3⟩
    · rw [v1, v3]
      show yk (some (true, N)) _
      rw [yk_some]
      exact ⟨rfl, rH_tr u2 v2⟩
    · rw [v1, v3]
      show yk (some (false, N)) _
      rw [yk_some]
      exact ⟨rfl, rX_tr u2.1 v2⟩
  · rw [u1, u3]
    dsimp only
    rw [if_neg (by decide), yk_some]
    exact ⟨rfl, u2⟩
