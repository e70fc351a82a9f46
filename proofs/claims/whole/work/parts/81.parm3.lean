/-! text: conditions, the reference -/
theorem pR_k {pc : Ts → St → PR} (hlen : ∀ ts S q, okT ts → pc ts S = .inr q → okT q.2 ∧ q.2.length < ts.length) (k : Nat) : ∀ (k' : Nat) (ts : Ts) (S : St) (w : Bool), okT ts → ts.length < k → ts.length < k' → pR pc k ts S w = pR pc k' ts S w := by
  induction k with
  | zero => intro k' ts S w _ h; omega
  | succ k ih =>
    intro k' ts S w ho h h'
    obtain ⟨k', rfl⟩ : ∃ m, k' = m + 1 := ⟨k' - 1, by omega⟩
    cases ts with
    | nil => rfl
    | cons t r =>
      rw [List.length_cons] at h h'
      unfold pR
      by_cases c1 : t.1 = 10
      · have okt := okT_tail ho (by omega)
        rw [if_pos c1, if_pos c1]
        exact pbd_ext (fun q hq => by have := hlen _ _ _ okt hq; exact ih _ _ _ _ this.1 (by omega) (by omega))
      · rw [if_neg c1, if_neg c1]
        by_cases c2 : t.1 = 9
        · have okt := okT_tail ho (by omega)
          rw [if_pos c2, if_pos c2]
          exact pbd_ext (fun q hq => by have := hlen _ _ _ okt hq; exact ih _ _ _ _ this.1 (by omega) (by omega))
        · rw [if_neg c2, if_neg c2]
def pV (pc : Ts → St → PR) (ts : Ts) (S : St) (w : Bool) : PR := pR pc (ts.length + 1) ts S w
theorem pV_c {pc : Ts → St → PR} (hlen : ∀ ts S q, okT ts → pc ts S = .inr q → okT q.2 ∧ q.2.length < ts.length) {t : Int × Int × Int} {r : Ts} {S : St} {w : Bool} (ho : okT (t :: r)) : pV pc (t :: r) S w = if t.1 = 10 then pbd (pc r S) fun S1 r1 => pV pc r1 (S1 ++ [(21, 0)]) w
    else if t.1 = 9 then pbd (pc r (S ++ po w)) fun S1 r1 => pV pc r1 S1 true
    else .inr (S ++ po w, t :: r) := by
  unfold pV
  rw [List.length_cons]
  rw [pR]
  by_cases c1 : t.1 = 10
  · have okt := okT_tail ho (by omega)
    rw [if_pos c1, if_pos c1]
    exact pbd_ext (fun q hq => by have := hlen _ _ _ okt hq; exact pR_k hlen _ _ _ _ _ this.1 (by omega) (by omega))
  · rw [if_neg c1, if_neg c1]
    by_cases c2 : t.1 = 9
    · have okt := okT_tail ho (by omega)
      rw [if_pos c2, if_pos c2]
      exact pbd_ext (fun q hq => by have := hlen _ _ _ okt hq; exact pR_k hlen _ _ _ _ _ this.1 (by omega) (by omega))
    · rw [if_neg c2, if_neg c2]
theorem pB_z {pc : Ts → St → PR} {ts : Ts} {S : St} : pB pc ts S = pbd (pc ts S) fun S1 r1 => pV pc r1 S1 false := rfl
def noA (ts : Ts) : Prop := ∀ t r, ts = t :: r → t.1 ≠ 10
theorem pV_p {pc : Ts → St → PR} (hlen : ∀ ts S q, okT ts → pc ts S = .inr q → okT q.2 ∧ q.2.length < ts.length) {ts : Ts} {S : St} (ho : okT ts) (h : noA ts) : pV pc ts S true = pV pc ts (S ++ po true) false := by
  cases ts with
  | nil => exact ho.elim
  | cons t r =>
    have c := h t r rfl
    have e : S ++ po true ++ po false = S ++ po true := List.append_nil _
    rw [pV_c hlen ho, pV_c hlen ho, if_neg c, if_neg c, e]
theorem g_len {pc : Ts → St → PR} {d : Nat} (hpc : ∀ ts S, okT ts → gX ts.length ts.length S (tyC d) (pc ts S)) : ∀ ts S q, okT ts → pc ts S = .inr q → okT q.2 ∧ q.2.length < ts.length := by
  intro ts S q ho e
  have := hpc ts S ho
  rw [e] at this
  exact ⟨this.1, this.2.1⟩
section CM
variable {rc : Nat → xM → Option (Bool × xM)} {pc : Ts → St → PR} {dd : Nat} {G0 : St} {d : Int}
theorem eveM_q (hrc : ∀ (M : xM) (ts : Ts) (S : St), rS M ts (G0 ++ S) d → (G0 ++ S).length + ts.length ≤ 402 → yk (rc 0 M) (rO M G0 d (pc ts S))) (hpc : ∀ ts S, okT ts → gX ts.length ts.length S (tyC dd) (pc ts S)) (n : Nat) : ∀ (M : xM) (ts : Ts) (S : St), rS M ts (G0 ++ S) d → (G0 ++ S).length + ts.length ≤ 402 → ts.length < n → yk (fX12_one_g_X12_every_L9 rc n M) fun x => (∃ M' S' ts', x = .inl M' ∧ rH M M' ts' (G0 ++ S') d ∧ ts'.length ≤ ts.length ∧ (G0 ++ S').length + ts'.length ≤ (G0 ++ S).length + ts.length ∧ noA ts' ∧ ∀ w, pV pc ts S w = pV pc ts' S' w) ∨ (∃ M' f, x = .inr (false, M') ∧ rX M M' f ∧ ∀ w, pV pc ts S w = .inl f) := by
  have hlen := g_len hpc
  induction n with
  | zero => intro M ts S _ _ h; omega
  | succ n ih =>
    intro M ts S h hp hn
    cases ts with
    | nil => exact h.2.2.1.elim
    | cons t r =>
      have a := rS_at h
      rw [List.length_cons] at hp hn ⊢
      have t14 := a.1.1
      unfold fX12_one_g_X12_every_L9
      simp only [tkis t14 a.2.1 10 5 (by decide) (by omega)]
      by_cases c : t.1 = 10
      · have okt := okT_tail h.2.2.1 (show t.1 ≠ 23 by omega)
        rw [if_pos c, yk_xb]
        refine yk.mono (rH_nx h (by omega)) ?_
        intro M8 g8
        rw [yk_xb2]
        refine yk.mono (hrc _ r S g8.2.2 (by omega)) ?_
        intro q hq
        have gx := hpc r S okt
        have pz : ∀ w, pV pc (t :: r) S w = pbd (pc r S) fun S1 r1 => pV pc r1 (S1 ++ [(21, 0)]) w := fun w => by rw [pV_c hlen h.2.2.1, if_pos c]
        cases hx : pc r S with
        | inl f =>
          rw [hx] at hq
          have q1 : q.1 = false := hq.1
          have q2 : rX _ q.2 f := hq.2
          rw [q1, if_neg (by decide), yk_some]
          exact Or.inr ⟨_, f, rfl, rX_tr g8.1 q2, fun w => by rw [pz, hx]; rfl⟩
        | inr p =>
          rw [hx] at hq gx
          have q1 : q.1 = true := hq.1
          have q2 : rH _ q.2 p.2 (G0 ++ p.1) d := hq.2
          obtain ⟨o1, l1, s, e1, c1, t1⟩ := gx
          have sl := trL_len s
          have gl := gl_app (G0 := G0) (S := S) (s := s)
          rw [← e1] at gl
          have a2 := q2.2.2.2.2.2.1.1
          rw [q1, if_pos rfl, lay_e (by omega), xb_some]
          have g3 := rH_ly (k := 21) (v := 0) q2.2.2
          rw [List.append_assoc] at g3
          have gl2 := gl_app (G0 := G0) (S := p.1) (s := [(21, 0)])
          have l15 : [((21 : Int), (0 : Int))].length = 1 := rfl
          refine yk.mono (ih _ p.2 (p.1 ++ [(21, 0)]) g3.2.2 (by omega) (by omega)) ?_
          intro x hx2
          have G := rH_tr g8 (rH_tr q2 g3)
          rcases hx2 with ⟨M', S', ts', u1, u2, u3, u4, u5, u6⟩ | ⟨M', f, u1, u2, u3⟩
          · exact Or.inl ⟨M', S', ts', u1, rH_tr G u2, by omega, by omega, u5, fun w => by rw [pz, hx]; exact u6 w⟩
          · exact Or.inr ⟨M', f, u1, rX_tr G.1 u2, fun w => by rw [pz, hx]; exact u3 w⟩
      · rw [if_neg c, yk_some]
        exact Or.inl ⟨M, S, t :: r, rfl, rH_rfl h, by rw [List.length_cons]; omega, by rw [List.length_cons]; omega, fun t' r' e => by obtain ⟨e1, e2⟩ := List.cons.inj e; subst e1; exact c, fun w => rfl⟩
theorem eveM_e {m : Nat} (hrc : ∀ (M : xM) (ts : Ts) (S : St), rS M ts (G0 ++ S) d → (G0 ++ S).length + ts.length ≤ 402 → yk (fX12_one_g m 0 M) (rO M G0 d (pc ts S))) (hpc : ∀ ts S, okT ts → gX ts.length ts.length S (tyC dd) (pc ts S)) (M : xM) (ts : Ts) (S : St) (h : rS M ts (G0 ++ S) d) (hp : (G0 ++ S).length + ts.length ≤ 402) : yk (fX12_one_g (m + 1) 2 M) fun q => (∃ M' S' ts', q = (true, M') ∧ rH M M' ts' (G0 ++ S') d ∧ ts'.length < ts.length ∧ (G0 ++ S').length + ts'.length ≤ (G0 ++ S).length + ts.length ∧ noA ts' ∧ ∀ w, (pbd (pc ts S) fun S1 r1 => pV pc r1 S1 w) = pV pc ts' S' w) ∨ (∃ M' f, q = (false, M') ∧ rX M M' f ∧ ∀ w, (pbd (pc ts S) fun S1 r1 => pV pc r1 S1 w) = .inl f) := by
  unfold fX12_one_g
  rw [if_neg (by decide), if_neg (by decide), yk_xb2]
  refine yk.mono (hrc M ts S h hp) ?_
  intro q hq
  have gx := hpc ts S h.2.2.1
  cases hx : pc ts S with
  | inl f =>
    rw [hx] at hq
    have q1 : q.1 = false := hq.1
    have q2 : rX _ q.2 f := hq.2
    rw [q1, if_neg (by decide), yk_some]
    exact Or.inr ⟨_, f, rfl, q2, fun w => rfl⟩
  | inr p =>
    rw [hx] at hq gx
    have q1 : q.1 = true := hq.1
    have q2 : rH _ q.2 p.2 (G0 ++ p.1) d := hq.2
    obtain ⟨o1, l1, s, e1, c1, t1⟩ := gx
    have sl := trL_len s
    have gl := gl_app (G0 := G0) (S := S) (s := s)
    rw [← e1] at gl
    rw [q1, if_pos rfl, yk_xs1]
    refine yk.mono (eveM_q hrc hpc xfuel q.2 p.2 p.1 q2.2.2 (by omega) (by unfold xfuel; omega)) ?_
    intro x hx2
    rcases hx2 with ⟨M', S', ts', u1, u2, u3, u4, u5, u6⟩ | ⟨M', f, u1, u2, u3⟩
    · rw [u1]
      show yk (some (true, M')) _
      rw [yk_some]
      exact Or.inl ⟨M', S', ts', rfl, rH_tr q2 u2, by omega, by omega, u5, fun w => u6 w⟩
    · rw [u1]
      show yk (some (false, M')) _
      rw [yk_some]
      exact Or.inr ⟨M', f, rfl, rX_tr q2.1 u2, fun w => u3 w⟩
theorem anyM_q (hlen : ∀ ts S q, okT ts → pc ts S = .inr q → okT q.2 ∧ q.2.length < ts.length) (hrc : ∀ (M : xM) (ts : Ts) (S : St), rS M ts (G0 ++ S) d → (G0 ++ S).length + ts.length ≤ 402 → yk (rc 2 M) fun q => (∃ M' S' ts', q = (true, M') ∧ rH M M' ts' (G0 ++ S') d ∧ ts'.length < ts.length ∧ (G0 ++ S').length + ts'.length ≤ (G0 ++ S).length + ts.length ∧ noA ts' ∧ ∀ w, (pbd (pc ts S) fun S1 r1 => pV pc r1 S1 w) = pV pc ts' S' w) ∨ (∃ M' f, q = (false, M') ∧ rX M M' f ∧ ∀ w, (pbd (pc ts S) fun S1 r1 => pV pc r1 S1 w) = .inl f)) (n : Nat) : ∀ (M : xM) (ts : Ts) (S : St), rS M ts (G0 ++ S) d → (G0 ++ S).length + ts.length ≤ 402 → noA ts → ts.length < n → yk (fX12_one_g_X12_any_L9 rc n M) fun x => (∃ M' p, x = .inl M' ∧ rH M M' p.2 (G0 ++ p.1) d ∧ pV pc ts S false = .inr p) ∨ (∃ M' f, x = .inr (false, M') ∧ rX M M' f ∧ pV pc ts S false = .inl f) := by
  induction n with
  | zero => intro M ts S _ _ _ h; omega
  | succ n ih =>
    intro M ts S h hp hm hn
    cases ts with
    | nil => exact h.2.2.1.elim
    | cons t r =>
      have a := rS_at h
      have cm := hm t r rfl
      rw [List.length_cons] at hp hn
      have t14 := a.1.1
      unfold fX12_one_g_X12_any_L9
      simp only [tkis t14 a.2.1 9 4 (by decide) (by omega)]
      have e0 : S ++ po false = S := List.append_nil S
      by_cases c : t.1 = 9
      · have pz : pV pc (t :: r) S false = pbd (pc r S) fun S1 r1 => pV pc r1 S1 true := by rw [pV_c hlen h.2.2.1, if_neg cm, if_pos c, e0]
        rw [if_pos c, yk_xb]
        refine yk.mono (rH_nx h (by omega)) ?_
        intro M8 g8
        rw [yk_xb2]
        refine yk.mono (hrc _ r S g8.2.2 (by omega)) ?_
        intro q hq
        rcases hq with ⟨M', S', ts', u1, u2, u3, u4, u5, u6⟩ | ⟨M', f, u1, u2, u3⟩
        · rw [u1]
          dsimp only
          have o2 := u2.2.2.2.2.1
          have lp := okT_pos o2
          have a2 := u2.2.2.2.2.2.1.1
          rw [if_pos rfl, lay_e (by omega), xb_some]
          have g3 := rH_ly (k := 22) (v := 0) u2.2.2
          rw [List.append_assoc] at g3
          have gl2 := gl_app (G0 := G0) (S := S') (s := [(22, 0)])
          have l15 : [((22 : Int), (0 : Int))].length = 1 := rfl
          refine yk.mono (ih _ ts' (S' ++ [(22, 0)]) g3.2.2 (by omega) u5 (by omega)) ?_
          intro x hx
          have G := rH_tr g8 (rH_tr u2 g3)
          have ez : pV pc (t :: r) S false = pV pc ts' (S' ++ [(22, 0)]) false := by rw [pz, u6, pV_p hlen o2 u5]; rfl
          rcases hx with ⟨N, p, v1, v2, v3⟩ | ⟨N, f, v1, v2, v3⟩
          · exact Or.inl ⟨N, p, v1, rH_tr G v2, by rw [ez]; exact v3⟩
          · exact Or.inr ⟨N, f, v1, rX_tr G.1 v2, by rw [ez]; exact v3⟩
        · rw [u1]
          dsimp only
          rw [if_neg (by decide), yk_some]
          exact Or.inr ⟨M', f, rfl, rX_tr g8.1 u2, by rw [pz]; exact u3 _⟩
      · rw [if_neg c, yk_some]
        refine Or.inl ⟨M, (S, t :: r), rfl, rH_rfl h, ?_⟩
        rw [pV_c hlen h.2.2.1, if_neg cm, if_neg c, e0]
theorem anyM_e {m : Nat} (hrc : ∀ (M : xM) (ts : Ts) (S : St), rS M ts (G0 ++ S) d → (G0 ++ S).length + ts.length ≤ 402 → yk (fX12_one_g m 0 M) (rO M G0 d (pc ts S))) (hpc : ∀ ts S, okT ts → gX ts.length ts.length S (tyC dd) (pc ts S)) (M : xM) (ts : Ts) (S : St) (h : rS M ts (G0 ++ S) d) (hp : (G0 ++ S).length + ts.length ≤ 402) : yk (fX12_one_g (m + 2) 1 M) (rO M G0 d (pB pc ts S)) := by
  have hlen := g_len hpc
  have e2 := eveM_e hrc hpc
  rw [pB_z]
  rw [fX12_one_g]
  rw [if_neg (by decide), if_pos rfl, yk_xb2]
  refine yk.mono (e2 M ts S h hp) ?_
  intro q hq
  rcases hq with ⟨M', S', ts', u1, u2, u3, u4, u5, u6⟩ | ⟨M', f, u1, u2, u3⟩
  · rw [u1, u6]
    dsimp only
    rw [if_pos rfl, yk_xs1]
    refine yk.mono (anyM_q hlen e2 xfuel M' ts' S' u2.2.2 (by omega) u5 (by unfold xfuel; omega)) ?_
    intro x hx
    rcases hx with ⟨N, p, v1, v2, v3⟩ | ⟨N, f, v1, v2, v3⟩
    · rw [v1, v3]
      show yk (some (true, N)) _
      rw [yk_some]
      exact ⟨rfl, rH_tr u2 v2⟩
    · rw [v1, v3]
      show yk (some (false, N)) _
      rw [yk_some]
      exact ⟨rfl, rX_tr u2.1 v2⟩
  · rw [u1, u3]
    dsimp only
    rw [if_neg (by decide), yk_some]
    exact ⟨rfl, u2⟩
end CM
theorem rH_20 {M : xM} {ts : Ts} {G : St} {d v : Int} (h : rS M ts G d) : rH M (xup M 94 20 v) ts G v := by
  obtain ⟨h1, h2, h3, h4, h5⟩ := h
  exact ⟨⟨fun o a _ => xup_o a, fun j _ _ c => xup_n c⟩, xup_n (by omega), tO_fr h1 (xup_o (by omega)) (xup_n (by omega)), rT_fr h2 (xup_o (by omega)) (fun j _ _ => xup_n (by omega)), h3, rG_fr h4 (xup_o (by omega)) (xup_n (by omega)), xup_e rfl⟩
theorem needM_e {M : xM} {ts : Ts} {G0 S : St} {d k c : Int} (hc : c = tk k) (hk : 0 ≤ k ∧ k ≤ 24 ∧ k ≠ 23) (h : rS M ts (G0 ++ S) d) : yk (fX12_need M c) (rO M G0 d (pX k ts S)) := by
  cases ts with
  | nil => exact h.2.2.1.elim
  | cons t r =>
    have a := rS_at h
    unfold fX12_need
    simp only [tkis a.1.1 a.2.1 k c hc (by omega)]
    rw [pX_c]
    by_cases e : t.1 = k
    · rw [if_pos e, if_pos e, yk_xb]
      refine yk.mono (rH_nx h (by omega)) ?_
      intro M' g
      rw [yk_some]
      exact ⟨rfl, g⟩
    · rw [if_neg e, if_neg e, bad_e, yk_xb2, yk_some, yk_some]
      exact ⟨rfl, rX_bad a.1.2.1⟩
theorem cmpM_e {M : xM} {ts : Ts} {G0 S : St} {d : Int} (h : rS M ts (G0 ++ S) d) (hp : (G0 ++ S).length + ts.length ≤ 402) : yk (xb2 (fX12_sumUp M) fun r21 M22 => (if r21 = true then (xj (fun (s23 : Int) => (if wr s23 = wr ((-1)) then (xb2 (fX12_bad M22 1) fun r26 M27 => some (r26, M27)) else (xb (fX12_next0 M22) fun M29 => xb2 (fX12_sumUp M29) fun r31 M32 => (if r31 = true then (xb (fX12_lay M32 s23 0) fun M34 => some (true, M34)) else some (false, M32))))) fun j24 => (if wr (M22 94 14) = wr 160 then j24 17 else (if wr (M22 94 14) = wr 161 then j24 18 else (if wr (M22 94 14) = wr 162 then j24 19 else j24 ((-1)))))) else some (false, M22))) (rO M G0 d (pQ ts S)) := by
  unfold pQ
  rw [yk_xb2]
  refine yk.mono (esumM_e h hp) ?_
  intro q hq
  have gx := pE_g (ts := ts) (S := S) h.2.2.1
  cases hx : pE ts S with
  | inl f =>
    rw [hx] at hq
    have q1 : q.1 = false := hq.1
    have q2 : rX _ q.2 f := hq.2
    rw [q1, if_neg (by decide), yk_some, pbd_inl]
    exact ⟨rfl, q2⟩
  | inr p =>
    rw [hx] at hq gx
    have q1 : q.1 = true := hq.1
    have q2 : rH _ q.2 p.2 (G0 ++ p.1) d := hq.2
    obtain ⟨o1, l1, s, e1, c1, t1⟩ := gx
    have sl := trL_len s
    have gl := gl_app (G0 := G0) (S := S) (s := s)
    rw [← e1] at gl
    rw [q1, if_pos rfl, pbd_inr]
    clear hx
    obtain ⟨p1, p2⟩ := p
    dsimp only at *
    cases p2 with
    | nil => exact o1.elim
    | cons t r =>
      rw [List.length_cons] at c1 l1
      have a := rS_at q2.2.2
      have t14 := a.1.1
      rw [pCm_c]
      simp only [xj, tkis t14 a.2.1 20 160 (by decide) (by omega), tkis t14 a.2.1 21 161 (by decide) (by omega), tkis t14 a.2.1 22 162 (by decide) (by omega)]
      have w17 : ¬ (wr 17 = wr (-1)) := by decide
      have w18 : ¬ (wr 18 = wr (-1)) := by decide
      have w19 : ¬ (wr 19 = wr (-1)) := by decide
      rw [if_neg w17, if_neg w18, if_neg w19, if_pos trivial]
      have go : ∀ how, how = t.1 - 3 → 20 ≤ t.1 ∧ t.1 ≤ 22 → yk (xb (fX12_next0 q.2) fun M29 => xb2 (fX12_sumUp M29) fun r31 M32 => (if r31 = true then (xb (fX12_lay M32 how 0) fun M34 => some (true, M34)) else some (false, M32))) (rO M G0 d (if 20 ≤ t.1 ∧ t.1 ≤ 22 then pbd (pE r p1) fun S2 r2 => .inr (S2 ++ [(t.1 - 3, 0)], r2) else .inl (1, t.2.1))) := by
        intro how hh ht
        have okt := okT_tail o1 (show t.1 ≠ 23 by omega)
        rw [if_pos ht, yk_xb]
        refine yk.mono (rH_nx q2.2.2 (by omega)) ?_
        intro M29 g29
        rw [yk_xb2]
        refine yk.mono (esumM_e g29.2.2 (by omega)) ?_
        intro z hz
        have gx := pE_g (ts := r) (S := p1) okt
        cases hy : pE r p1 with
        | inl f =>
          rw [hy] at hz
          have z1 : z.1 = false := hz.1
          have z2 : rX _ z.2 f := hz.2
          rw [z1, if_neg (by decide), yk_some, pbd_inl]
          exact ⟨rfl, rX_tr q2.1 (rX_tr g29.1 z2)⟩
        | inr u =>
          rw [hy] at hz gx
          have z1 : z.1 = true := hz.1
          have z2 : rH _ z.2 u.2 (G0 ++ u.1) d := hz.2
          obtain ⟨o3, l3, s3, e3, c3, t3⟩ := gx
          have sl3 := trL_len s3
          have gl3 := gl_app (G0 := G0) (S := p1) (s := s3)
          rw [← e3] at gl3
          have a2 := z2.2.2.2.2.2.1.1
          rw [z1, if_pos rfl, lay_e (by omega), xb_some, yk_some, pbd_inr]
          have g3 := rH_ly (k := how) (v := 0) z2.2.2
          rw [List.append_assoc, hh] at g3
          rw [hh]
          exact ⟨rfl, rH_tr q2 (rH_tr g29 (rH_tr z2 g3))⟩
      by_cases h20 : t.1 = 20
      · rw [if_pos h20]
        exact go 17 (by omega) (by omega)
      · rw [if_neg h20]
        by_cases h21 : t.1 = 21
        · rw [if_pos h21]
          exact go 18 (by omega) (by omega)
        · rw [if_neg h21]
          by_cases h22 : t.1 = 22
          · rw [if_pos h22]
            exact go 19 (by omega) (by omega)
          · rw [if_neg h22, if_neg (by omega), bad_e, yk_xb2, yk_some, yk_some]
            exact ⟨rfl, rX_tr q2.1 (rX_bad a.1.2.1)⟩
theorem condM_e {G0 : St} (dd : Nat) : dd ≤ 8 → ∀ (m : Nat) (M : xM) (ts : Ts) (S : St), 3 * dd + 1 ≤ m → rS M ts (G0 ++ S) (8 - dd) → (G0 ++ S).length + ts.length ≤ 402 → yk (fX12_one_g m 0 M) (rO M G0 (8 - dd) (pC dd ts S)) := by
  induction dd with
  | zero =>
    intro hd m M ts S hm h hp
    obtain ⟨m, rfl⟩ : ∃ x, m = x + 1 := ⟨m - 1, by omega⟩
    cases ts with
    | nil => exact h.2.2.1.elim
    | cons t r =>
      have a := rS_at h
      have t14 := a.1.1
      have h20 : M 94 20 = 8 := h.2.2.2.2
      unfold fX12_one_g
      rw [if_pos rfl]
      simp only [tkis t14 a.2.1 11 6 (by decide) (by omega), tkis t14 a.2.1 18 140 (by decide) (by omega)]
      unfold pC fX12_opens
      rw [h20, if_pos (show wr 8 = wr 8 from rfl), bad_e]
      have e1 : (xb2 (some (false, xup (xup M 94 17 3) 94 18 (M 94 15))) fun r2 M3 => some (r2, M3)) = some (false, xup (xup M 94 17 3) 94 18 (M 94 15)) := rfl
      rw [e1]
      by_cases h11 : t.1 = 11
      · rw [if_pos h11, if_pos (Or.inl h11), yk_xb2, yk_some]
        dsimp only
        rw [if_neg (by decide), yk_some]
        exact ⟨rfl, rX_bad a.1.2.1⟩
      · rw [if_neg h11]
        by_cases h18 : t.1 = 18
        · rw [if_pos h18, if_pos (Or.inr h18), yk_xb2, yk_some]
          dsimp only
          rw [if_neg (by decide), yk_some]
          exact ⟨rfl, rX_bad a.1.2.1⟩
        · rw [if_neg h18, if_neg (by omega)]
          exact cmpM_e h hp
  | succ dd ih =>
    intro hd m M ts S hm h hp
    obtain ⟨m, rfl⟩ : ∃ x, m = x + 1 := ⟨m - 1, by omega⟩
    cases ts with
    | nil => exact h.2.2.1.elim
    | cons t r =>
      have a := rS_at h
      have t14 := a.1.1
      have h20 : M 94 20 = 8 - ((dd + 1 : Nat) : Int) := h.2.2.2.2
      have hp' := hp
      rw [List.length_cons] at hp'
      unfold fX12_one_g
      rw [if_pos rfl]
      simp only [tkis t14 a.2.1 11 6 (by decide) (by omega), tkis t14 a.2.1 18 140 (by decide) (by omega)]
      unfold pC fX12_opens
      rw [h20, if_neg (show ¬ wr (8 - ((dd + 1 : Nat) : Int)) = wr 8 by rw [wr_id (by omega) (by omega), wr_id (by omega) (by omega)]; omega)]
      have e8 : 8 - ((dd + 1 : Nat) : Int) + 1 = 8 - (dd : Int) := by omega
      rw [e8]
      have g4 := rH_20 (v := 8 - (dd : Int)) h
      by_cases h11 : t.1 = 11
      · have okt := okT_tail h.2.2.1 (show t.1 ≠ 23 by omega)
        rw [if_pos h11, if_neg (by omega), if_pos h11, yk_xb2, yk_xlet, yk_xb]
        refine yk.mono (rH_nx g4.2.2 (by omega)) ?_
        intro M6 g6
        rw [yk_some]
        dsimp only
        rw [if_pos rfl, yk_xb2]
        refine yk.mono (ih (by omega) m M6 r S (by omega) g6.2.2 (by omega)) ?_
        intro q hq
        have gx := pC_g dd r S okt
        cases hx : pC dd r S with
        | inl f =>
          rw [hx] at hq
          have q1 : q.1 = false := hq.1
          have q2 : rX _ q.2 f := hq.2
          rw [q1, if_neg (by decide), yk_some, pbd_inl]
          exact ⟨rfl, rX_tr g4.1 (rX_tr g6.1 q2)⟩
        | inr p =>
          rw [hx] at hq gx
          have q1 : q.1 = true := hq.1
          have q2 : rH _ q.2 p.2 (G0 ++ p.1) (8 - dd) := hq.2
          obtain ⟨o1, l1, s, e1, c1, t1⟩ := gx
          have sl := trL_len s
          have gl := gl_app (G0 := G0) (S := S) (s := s)
          rw [← e1] at gl
          have a2 := q2.2.2.2.2.2.1.1
          have d2 := q2.2.2.2.2.2.2
          have g7 := rH_20 (v := q.2 94 20 - 1) q2.2.2
          have ed : q.2 94 20 - 1 = 8 - ((dd + 1 : Nat) : Int) := by rw [d2]; omega
          have a7 := g7.2.2.2.2.2.1.1
          rw [q1, if_pos rfl, yk_xlet, lay_e (by omega), xb_some, yk_some, pbd_inr]
          have g3 := rH_ly (k := 20) (v := 0) g7.2.2
          rw [List.append_assoc, ed] at g3
          rw [ed] at g7
          rw [ed]
          exact ⟨rfl, rH_tr g4 (rH_tr g6 (rH_tr q2 (rH_tr g7 g3)))⟩
      · rw [if_neg h11]
        by_cases h18 : t.1 = 18
        · have okt := okT_tail h.2.2.1 (show t.1 ≠ 23 by omega)
          rw [if_pos h18, if_pos h18, yk_xb2, yk_xlet, yk_xb]
          refine yk.mono (rH_nx g4.2.2 (by omega)) ?_
          intro M6 g6
          rw [yk_some]
          dsimp only
          rw [if_pos rfl, yk_xb2]
          obtain ⟨m, rfl⟩ : ∃ x, m = x + 2 := ⟨m - 2, by omega⟩
          refine yk.mono (anyM_e (m := m) (d := 8 - (dd : Int)) (fun M ts S a b => ih (by omega) m M ts S (by omega) a b) (pC_g dd) M6 r S g6.2.2 (by omega)) ?_
          intro q hq
          have gx := pB_g (pC_g dd) (ts := r) (S := S) okt
          cases hx : pB (pC dd) r S with
          | inl f =>
            rw [hx] at hq
            have q1 : q.1 = false := hq.1
            have q2 : rX _ q.2 f := hq.2
            rw [q1, if_neg (by decide), yk_some, pbd_inl]
            exact ⟨rfl, rX_tr g4.1 (rX_tr g6.1 q2)⟩
          | inr p =>
            rw [hx] at hq gx
            have q1 : q.1 = true := hq.1
            have q2 : rH _ q.2 p.2 (G0 ++ p.1) (8 - dd) := hq.2
            rw [q1, if_pos rfl, pbd_inr, yk_xb2]
            refine yk.mono (needM_e (k := 19) (by decide) (by omega) q2.2.2) ?_
            intro z hz
            cases hy : pX 19 p.2 p.1 with
            | inl f =>
              rw [hy] at hz
              have z1 : z.1 = false := hz.1
              have z2 : rX _ z.2 f := hz.2
              rw [z1, if_neg (by decide), yk_some]
              exact ⟨rfl, rX_tr g4.1 (rX_tr g6.1 (rX_tr q2.1 z2))⟩
            | inr y =>
              rw [hy] at hz
              have z1 : z.1 = true := hz.1
              have z2 : rH _ z.2 y.2 (G0 ++ y.1) (8 - dd) := hz.2
              have d2 := z2.2.2.2.2.2.2
              have g7 := rH_20 (v := z.2 94 20 - 1) z2.2.2
              have ed : z.2 94 20 - 1 = 8 - ((dd + 1 : Nat) : Int) := by rw [d2]; omega
              rw [ed] at g7
              rw [z1, if_pos rfl, yk_xlet, yk_some, ed]
              exact ⟨rfl, rH_tr g4 (rH_tr g6 (rH_tr q2 (rH_tr z2 g7)))⟩
        · rw [if_neg h18, if_neg h18, if_neg h11]
          exact cmpM_e h hp
