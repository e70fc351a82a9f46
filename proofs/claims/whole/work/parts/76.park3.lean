/-! text: conditions, the class -/
def eP (M : xM) (D0 : List Int) (G0 : St) (x : PR) (q : Int × Int × xM) : Prop := match x with
  | .inl f => q.2.1 = 0 ∧ (∃ w' : Bool, q.1 = b2i w') ∧ cX M q.2.2 f
  | .inr p => q.2.1 = 1 ∧ ∃ (w' : Bool) (S' : St), q.1 = b2i w' ∧ p.1 = S' ++ po w' ∧ (D0 ++ trL S').length + oN w' + p.2.length ≤ 401 ∧ cG M q.2.2 p.2 (D0 ++ trL S') (G0 ++ S')
theorem eP_tr {M M1 : xM} {ts1 : Ts} {D1 D0 : List Int} {G1 G0 : St} {x : PR} {q : Int × Int × xM} (h : cG M M1 ts1 D1 G1) (k : eP M1 D0 G0 x q) : eP M D0 G0 x q := by
  cases x with
  | inl f => exact ⟨k.1, k.2.1, cX_tr h.1 k.2.2⟩
  | inr p =>
    obtain ⟨a, w, S', b, c, d, e⟩ := k
    exact ⟨a, w, S', b, c, d, cG_tr h e⟩
theorem eitherK_0 {rc : Nat → xM → Int → Option (Bool × xM)} {M : xM} {v1 w v3 : Int} (n : Nat) : fX7_readCondition_g_X7_readEither_L11 rc (n + 1) M v1 w 0 v3 = some (w, 0, M) := by
  unfold fX7_readCondition_g_X7_readEither_L11
  rw [if_pos wr_0]
  split <;> rfl
theorem eitherK_q {rc : Nat → xM → Int → Option (Bool × xM)} {pc : Ts → St → PR} {d : Nat} {v1 : Int} {D0 : List Int} {G0 : St} (hrc : ∀ (M : xM) (ts : Ts) (S : St), cS M ts (D0 ++ trL S) (G0 ++ S) → (D0 ++ trL S).length + ts.length ≤ 401 → yk (rc 0 M v1) (cO M D0 G0 (pc ts S))) (hpc : ∀ ts S, okT ts → gX ts.length ts.length S (tyC d) (pc ts S)) (n : Nat) : ∀ (M : xM) (ts : Ts) (S : St) (w : Bool) (v4 : Int) (k : Nat), cS M ts (D0 ++ trL S) (G0 ++ S) → (D0 ++ trL S).length + oN w + ts.length ≤ 401 → 0 ≤ v4 → v4 + ts.length ≤ 401 → ts.length < n → ts.length < k → yk (fX7_readCondition_g_X7_readEither_L11 rc n M v1 (b2i w) 1 v4) (eP M D0 G0 (pR pc k ts S w)) := by
  induction n with
  | zero => intro M ts S w v4 k _ _ _ _ h; omega
  | succ n ih =>
    intro M ts S w v4 k h hp h0 h3 hn hk
    obtain ⟨k, rfl⟩ : ∃ m, k = m + 1 := ⟨k - 1, by omega⟩
    cases ts with
    | nil => exact h.1.2.2.elim
    | cons t r =>
      have a := cS_at h
      rw [List.length_cons] at hp h3 hn hk
      have okr : t.1 ≠ 23 → 1 ≤ r.length := fun hn => okT_pos (okT_tail h.1.2.2 hn)
      have fin : t.1 ≠ 9 → t.1 ≠ 10 → yk (some (b2i w, 1, M)) (eP M D0 G0 (pR pc (k + 1) (t :: r) S w)) := by
        intro h9 h10
        unfold pR
        rw [if_neg h10, if_neg h9, yk_some]
        exact ⟨rfl, w, S, rfl, rfl, by rw [List.length_cons]; omega, cG_rfl h⟩
      unfold fX7_readCondition_g_X7_readEither_L11
      rw [wr_id (x := v4) (by omega) (by omega), wr_id (x := 400) (by omega) (by omega)]
      by_cases c3 : v4 < 400
      · rw [if_pos c3, if_neg (by decide), xrd_at a.1.1 a.1.2 (by omega), a.2.1.1]
        simp only [xj, xlet]
        rw [xrd_at a.1.1 a.1.2 (by omega), xrd_at a.1.1 a.1.2 (by omega), a.2.1.1]
        by_cases h10 : t.1 = 10
        · have lr := okr (by omega)
          have okt := okT_tail h.1.2.2 (show t.1 ≠ 23 by omega)
          have g9 := cG_nx h (by omega)
          obtain ⟨n, rfl⟩ : ∃ m, n = m + 1 := ⟨n - 1, by omega⟩
          have cA : (wr t.1 = wr 10) = True := eq_true (by rw [h10])
          have cB : (wr t.1 = wr 9) = False := eq_false (by rw [h10]; decide)
          simp only [cA, cB, ↓reduceIte]
          rw [yk_xb2]
          unfold pR
          rw [if_pos h10]
          refine yk.mono (hrc _ r S g9.2.2 (by omega)) ?_
          intro q hq
          have gx := hpc r S okt
          cases hx : pc r S with
          | inl f =>
            rw [hx] at hq
            have q1 : q.1 = false := hq.1
            have q2 : cX _ q.2 f := hq.2
            rw [q1, addK_e q2.2.2.1, xb_some, pbd_inl]
            show yk (fX7_readCondition_g_X7_readEither_L11 rc (n + 1) _ _ _ 0 _) _
            rw [eitherK_0, yk_some]
            exact ⟨rfl, ⟨w, rfl⟩, cX_tr g9.1 (cX_ad q2)⟩
          | inr p =>
            rw [hx] at hq gx
            have q1 : q.1 = true := hq.1
            have q2 : cG _ q.2 p.2 (D0 ++ trL p.1) (G0 ++ p.1) := hq.2
            obtain ⟨o1, l1, s, e1, c1, t1⟩ := gx
            have lp1 := okT_pos o1
            have dl := dl_app (D0 := D0) (S := S) (s := s)
            rw [← e1] at dl
            have a2 := q2.2.2.2.1.1
            rw [q1, addK_e (by omega), xb_some, pbd_inr]
            have g3 := cG_lay (q0 := (21, 0)) (v := -11) q2 (by omega) (by decide) (by decide)
            have dl2 := dl_app (D0 := D0) (S := p.1) (s := [(21, 0)])
            have l15 : (trL [((21 : Int), (0 : Int))]).length = 1 := by decide
            refine yk.mono (ih _ p.2 (p.1 ++ [(21, 0)]) w (v4 + 1) k g3.2.2 (by omega) (by omega) (by omega) (by omega) (by omega)) ?_
            intro z hz
            exact eP_tr (cG_tr g9 g3) hz
        · by_cases h9 : t.1 = 9
          · have lr := okr (by omega)
            have okt := okT_tail h.1.2.2 (show t.1 ≠ 23 by omega)
            have g9 := cG_nx h (by omega)
            obtain ⟨n, rfl⟩ : ∃ m, n = m + 1 := ⟨n - 1, by omega⟩
            have cA : (wr t.1 = wr 10) = False := eq_false (by rw [h9]; decide)
            have cB : (wr t.1 = wr 9) = True := eq_true (by rw [h9])
            simp only [cA, cB, ↓reduceIte]
            have pg := po_g w
            have dl0 := dl_app (D0 := D0) (S := S) (s := po w)
            have key : ∀ M10, cG M M10 r (D0 ++ trL (S ++ po w)) (G0 ++ (S ++ po w)) → yk (xb2 (rc 0 M10 v1) fun r111 M112 => fX7_readCondition_g_X7_readEither_L11 rc (n + 1) M112 v1 1 (b2i r111) (v4 + 1)) (eP M D0 G0 (pR pc (k + 1) (t :: r) S w)) := by
              intro M10 g10
              rw [yk_xb2]
              unfold pR
              rw [if_neg h10, if_pos h9]
              refine yk.mono (hrc _ r (S ++ po w) g10.2.2 (by omega)) ?_
              intro q hq
              have gx := hpc r (S ++ po w) okt
              cases hx : pc r (S ++ po w) with
              | inl f =>
                rw [hx] at hq
                have q1 : q.1 = false := hq.1
                have q2 : cX _ q.2 f := hq.2
                rw [q1, pbd_inl]
                show yk (fX7_readCondition_g_X7_readEither_L11 rc (n + 1) _ _ _ 0 _) _
                rw [eitherK_0, yk_some]
                exact ⟨rfl, ⟨true, rfl⟩, cX_tr g10.1 q2⟩
              | inr p =>
                rw [hx] at hq gx
                have q1 : q.1 = true := hq.1
                have q2 : cG _ q.2 p.2 (D0 ++ trL p.1) (G0 ++ p.1) := hq.2
                obtain ⟨o1, l1, s, e1, c1, t1⟩ := gx
                have lp1 := okT_pos o1
                have dl := dl_app (D0 := D0) (S := S ++ po w) (s := s)
                rw [← e1] at dl
                have on : oN true = 1 := rfl
                rw [q1, pbd_inr]
                refine yk.mono (ih _ p.2 p.1 true (v4 + 1) k q2.2.2 (by omega) (by omega) (by omega) (by omega) (by omega)) ?_
                intro z hz
                exact eP_tr (cG_tr g10 q2) hz
            cases w with
            | false =>
              have cW : (wr (b2i false) = 0) = True := eq_true (by decide)
              simp only [cW, ↓reduceIte]
              refine key _ ?_
              have : S ++ po false = S := List.append_nil S
              rw [this]
              exact g9
            | true =>
              have cW : (wr (b2i true) = 0) = False := eq_false (by decide)
              have on : oN true = 1 := rfl
              simp only [cW, ↓reduceIte]
              have a9 := g9.2.2.2.1.1
              rw [addK_e (by omega), xb_some]
              refine key _ ?_
              exact cG_lay g9 (by omega) (by decide) (by decide)
          · have cA : (wr t.1 = wr 10) = False := eq_false (by rw [wr_id (by omega) (by omega), wr_id (by omega) (by omega)]; exact h10)
            have cB : (wr t.1 = wr 9) = False := eq_false (by rw [wr_id (by omega) (by omega), wr_id (by omega) (by omega)]; exact h9)
            simp only [cA, cB, ↓reduceIte]
            exact fin h9 h10
      · rw [if_neg c3]
        have : t.1 = 23 := by
          by_cases e : t.1 = 23
          · exact e
          · have := okr e; omega
        exact fin (by omega) (by omega)
theorem cmpK_e {M : xM} {ts : Ts} {D0 : List Int} {G0 S : St} (h : cS M ts (D0 ++ trL S) (G0 ++ S)) (hp : (D0 ++ trL S).length + ts.length ≤ 401) : yk (xb2 (fX7_readSum M) fun r19 M20 => (if r19 = true then (xrd M20 38 401 (M20 36 8) fun r21 => xj (fun (_ : Unit) => xlet (xup M20 36 8 ((M20 36 8) + 1)) fun M23 => xb2 (fX7_readSum M23) fun r25 M26 => xb (fX9_add M26 (xxor r21 ((-1)))) fun M28 => some (r25, M28)) fun j22 => (if wr r21 = wr 20 then j22 () else (if wr r21 = wr 21 then j22 () else (if wr r21 = wr 22 then j22 () else (xb2 (fX7_fail M20 1) fun r30 M31 => some (r30, M31)))))) else some (false, M20))) (cO M D0 G0 (pQ ts S)) := by
  unfold pQ
  rw [yk_xb2]
  refine yk.mono (esumK_e h hp) ?_
  intro q hq
  have gx := pE_g (ts := ts) (S := S) h.1.2.2
  cases hx : pE ts S with
  | inl f =>
    rw [hx] at hq
    have q1 : q.1 = false := hq.1
    have q2 : cX _ q.2 f := hq.2
    rw [q1, if_neg (by decide), yk_some, pbd_inl]
    exact ⟨rfl, q2⟩
  | inr p =>
    rw [hx] at hq gx
    have q1 : q.1 = true := hq.1
    have q2 : cG _ q.2 p.2 (D0 ++ trL p.1) (G0 ++ p.1) := hq.2
    obtain ⟨o1, l1, s, e1, c1, t1⟩ := gx
    have lp1 := okT_pos o1
    have dl := dl_app (D0 := D0) (S := S) (s := s)
    rw [← e1] at dl
    rw [q1, if_pos rfl, pbd_inr]
    clear hx
    obtain ⟨p1, p2⟩ := p
    dsimp only at *
    cases p2 with
    | nil => exact o1.elim
    | cons t r =>
      rw [List.length_cons] at c1 l1
      have a := cS_at q2.2.2
      rw [xrd_at a.1.1 a.1.2 (by omega), a.2.1.1]
      simp only [xj, xlet]
      rw [pCm_c]
      have go : 20 ≤ t.1 ∧ t.1 ≤ 22 → yk (xb2 (fX7_readSum (xup q.2 36 8 (q.2 36 8 + 1))) fun r25 M26 => xb (fX9_add M26 (xxor t.1 ((-1)))) fun M28 => some (r25, M28)) (cO M D0 G0 (if 20 ≤ t.1 ∧ t.1 ≤ 22 then pbd (pE r p1) fun S2 r2 => .inr (S2 ++ [(t.1 - 3, 0)], r2) else .inl (1, t.2.1))) := by
        intro ht
        have g9 := cG_nx q2.2.2 (by omega)
        have okt := okT_tail o1 (show t.1 ≠ 23 by omega)
        rw [if_pos ht, yk_xb2]
        refine yk.mono (esumK_e g9.2.2 (by omega)) ?_
        intro z hz
        have gx := pE_g (ts := r) (S := p1) okt
        cases hy : pE r p1 with
        | inl f =>
          rw [hy] at hz
          have z1 : z.1 = false := hz.1
          have z2 : cX _ z.2 f := hz.2
          rw [xnot_k (by omega), addK_e z2.2.2.1, xb_some, yk_some, pbd_inl]
          exact ⟨z1, cX_tr q2.1 (cX_tr g9.1 (cX_ad z2))⟩
        | inr u =>
          rw [hy] at hz gx
          have z1 : z.1 = true := hz.1
          have z2 : cG _ z.2 u.2 (D0 ++ trL u.1) (G0 ++ u.1) := hz.2
          obtain ⟨o3, l3, s3, e3, c3, t3⟩ := gx
          have lp3 := okT_pos o3
          have dl3 := dl_app (D0 := D0) (S := p1) (s := s3)
          rw [← e3] at dl3
          have a2 := z2.2.2.2.1.1
          rw [xnot_k (by omega), addK_e (by omega), xb_some, yk_some, pbd_inr]
          refine ⟨z1, cG_tr q2 (cG_tr g9 (cG_lay z2 (by omega) (by dsimp only; omega) ?_))⟩
          have k : t.1 = 20 ∨ t.1 = 21 ∨ t.1 = 22 := by omega
          rcases k with e | e | e <;> rw [e] <;> decide
      by_cases h20 : wr t.1 = wr 20
      · rw [if_pos h20]
        exact go (by rw [wr_id (by omega) (by omega), wr_id (by omega) (by omega)] at h20; omega)
      · rw [if_neg h20]
        by_cases h21 : wr t.1 = wr 21
        · rw [if_pos h21]
          exact go (by rw [wr_id (by omega) (by omega), wr_id (by omega) (by omega)] at h21; omega)
        · rw [if_neg h21]
          by_cases h22 : wr t.1 = wr 22
          · rw [if_pos h22]
            exact go (by rw [wr_id (by omega) (by omega), wr_id (by omega) (by omega)] at h22; omega)
          · rw [wr_id (by omega) (by omega), wr_id (by omega) (by omega)] at h20 h21 h22
            rw [if_neg (by rw [wr_id (by omega) (by omega), wr_id (by omega) (by omega)]; exact h22), if_neg (by omega), fail_e a.1, yk_xb2, yk_some, yk_some]
            exact ⟨rfl, cX_tr q2.1 (cX_fl a.1 a.2.1.2.1 (by omega))⟩
theorem eitherK_e {D0 : List Int} {G0 : St} {d : Nat} (hd : d ≤ 8) (A : ∀ (m : Nat) (M : xM) (ts : Ts) (S : St), 2 * d + 1 ≤ m → cS M ts (D0 ++ trL S) (G0 ++ S) → (D0 ++ trL S).length + ts.length ≤ 401 → yk (fX7_readCondition_g m 0 M (8 - d)) (cO M D0 G0 (pC d ts S))) (m : Nat) (M : xM) (ts : Ts) (S : St) (hm : 2 * d + 2 ≤ m) (h : cS M ts (D0 ++ trL S) (G0 ++ S)) (hp : (D0 ++ trL S).length + ts.length ≤ 401) : yk (fX7_readCondition_g m 1 M (8 - d)) (cO M D0 G0 (pB (pC d) ts S)) := by
  obtain ⟨m, rfl⟩ : ∃ x, m = x + 1 := ⟨m - 1, by omega⟩
  have tl : ts.length ≤ 401 := by have := h.1.1; omega
  unfold fX7_readCondition_g pB
  rw [if_neg (by decide), yk_xb2]
  refine yk.mono (A m M ts S (by omega) h hp) ?_
  intro q hq
  have gx := pC_g d ts S h.1.2.2
  rw [yk_xb3]
  cases hx : pC d ts S with
  | inl f =>
    rw [hx] at hq
    have q1 : q.1 = false := hq.1
    have q2 : cX _ q.2 f := hq.2
    obtain ⟨y, hy⟩ : ∃ y, xfuel = y + 1 := ⟨999999, rfl⟩
    rw [q1, hy]
    show yk (fX7_readCondition_g_X7_readEither_L11 _ (y + 1) _ _ _ 0 _) _
    rw [eitherK_0, yk_some, if_pos wr_0]
    exact ⟨_, rfl, rfl, q2⟩
  | inr p =>
    rw [hx] at hq gx
    have q1 : q.1 = true := hq.1
    have q2 : cG _ q.2 p.2 (D0 ++ trL p.1) (G0 ++ p.1) := hq.2
    obtain ⟨o1, l1, s, e1, c1, t1⟩ := gx
    have lp1 := okT_pos o1
    have dl := dl_app (D0 := D0) (S := S) (s := s)
    rw [← e1] at dl
    have on : oN false = 0 := rfl
    rw [q1, pbd_inr]
    refine yk.mono (eitherK_q (D0 := D0) (G0 := G0) (v1 := 8 - d) (fun M ts S a b => A m M ts S (by omega) a b) (pC_g d) xfuel q.2 p.2 p.1 false 0 (p.2.length + 1) q2.2.2 (by omega) (by omega) (by omega) (by unfold xfuel; omega) (by omega)) ?_
    intro z hz
    have hz := eP_tr q2 hz
    cases hy : pR (pC d) (p.2.length + 1) p.2 p.1 false with
    | inl f =>
      rw [hy] at hz
      obtain ⟨z1, ⟨w, z2⟩, z3⟩ := hz
      rw [z1, z2]
      cases w with
      | false =>
        rw [if_pos (by decide)]
        exact ⟨_, rfl, rfl, z3⟩
      | true =>
        rw [if_neg (by decide), addK_e z3.2.2.1, xb_some]
        exact ⟨_, rfl, rfl, cX_ad z3⟩
    | inr p2 =>
      rw [hy] at hz
      obtain ⟨z1, w, S', z2, z3, z4, z5⟩ := hz
      rw [z1, z2]
      cases w with
      | false =>
        rw [if_pos (by decide)]
        have : p2.1 = S' := by rw [z3]; exact List.append_nil S'
        refine ⟨_, rfl, rfl, ?_⟩
        rw [this]
        exact z5
      | true =>
        have on2 : oN true = 1 := rfl
        have a9 := z5.2.2.2.1.1
        have lp := okT_pos z5.2.2.1.2.2
        rw [if_neg (by decide), addK_e (by omega), xb_some]
        refine ⟨_, rfl, rfl, ?_⟩
        rw [z3]
        exact cG_lay z5 (by omega) (by decide) (by decide)
theorem condK_e {D0 : List Int} {G0 : St} (d : Nat) : d ≤ 8 → ∀ (m : Nat) (M : xM) (ts : Ts) (S : St), 2 * d + 1 ≤ m → cS M ts (D0 ++ trL S) (G0 ++ S) → (D0 ++ trL S).length + ts.length ≤ 401 → yk (fX7_readCondition_g m 0 M (8 - d)) (cO M D0 G0 (pC d ts S)) := by
  induction d with
  | zero =>
    intro hd m M ts S hm h hp
    obtain ⟨m, rfl⟩ : ∃ x, m = x + 1 := ⟨m - 1, by omega⟩
    cases ts with
    | nil => exact h.1.2.2.elim
    | cons t r =>
      have a := cS_at h
      unfold fX7_readCondition_g
      rw [if_pos rfl, xrd_at a.1.1 a.1.2 (by omega), a.2.1.1, xj]
      have e8 : ¬ (wr (8 - ((0 : Nat) : Int)) < wr 8) := by decide
      rw [if_neg e8]
      unfold pC
      have hp' := hp
      rw [List.length_cons] at hp'
      have bad : t.1 = 11 ∨ t.1 = 18 → yk (xb2 (fX7_fail M 3) fun r16 M17 => some (r16, M17)) (cO M D0 G0 (if t.1 = 11 ∨ t.1 = 18 then .inl (3, t.2.1) else pQ (t :: r) S)) := by
        intro ht
        rw [if_pos ht, fail_e a.1, yk_xb2, yk_some, yk_some]
        exact ⟨rfl, cX_fl a.1 a.2.1.2.1 (by omega)⟩
      by_cases h11 : wr t.1 = wr 11
      · rw [if_pos h11]
        exact bad (by rw [wr_id (by omega) (by omega), wr_id (by omega) (by omega)] at h11; omega)
      · rw [if_neg h11]
        by_cases h18 : wr t.1 = wr 18
        · rw [if_pos h18]
          exact bad (by rw [wr_id (by omega) (by omega), wr_id (by omega) (by omega)] at h18; omega)
        · rw [if_neg h18, if_neg (by rw [wr_id (by omega) (by omega), wr_id (by omega) (by omega)] at h11 h18; omega)]
          exact cmpK_e h hp
  | succ d ih =>
    intro hd m M ts S hm h hp
    obtain ⟨m, rfl⟩ : ∃ x, m = x + 1 := ⟨m - 1, by omega⟩
    cases ts with
    | nil => exact h.1.2.2.elim
    | cons t r =>
      have a := cS_at h
      unfold fX7_readCondition_g
      rw [if_pos rfl, xrd_at a.1.1 a.1.2 (by omega), a.2.1.1]
      simp only [xj, xlet]
      have e8 : wr (8 - ((d + 1 : Nat) : Int)) < wr 8 := by rw [wr_id (by omega) (by omega), wr_id (by omega) (by omega)]; omega
      have ed : 8 - ((d + 1 : Nat) : Int) + 1 = 8 - (d : Int) := by omega
      rw [if_pos e8, ed]
      unfold pC
      have hp' := hp
      rw [List.length_cons] at hp'
      by_cases h11 : t.1 = 11
      · have g9 := cG_nx h (by omega)
        have okt := okT_tail h.1.2.2 (show t.1 ≠ 23 by omega)
        rw [if_pos (by rw [h11]), if_neg (by rw [h11]; decide), if_neg (by omega), if_pos h11, yk_xb2]
        refine yk.mono (ih (by omega) m _ r S (by omega) g9.2.2 (by omega)) ?_
        intro q hq
        have gx := pC_g d r S okt
        cases hx : pC d r S with
        | inl f =>
          rw [hx] at hq
          have q1 : q.1 = false := hq.1
          have q2 : cX _ q.2 f := hq.2
          rw [addK_e q2.2.2.1, xb_some, yk_some, pbd_inl]
          exact ⟨q1, cX_tr g9.1 (cX_ad q2)⟩
        | inr p =>
          rw [hx] at hq gx
          have q1 : q.1 = true := hq.1
          have q2 : cG _ q.2 p.2 (D0 ++ trL p.1) (G0 ++ p.1) := hq.2
          obtain ⟨o1, l1, s, e1, c1, t1⟩ := gx
          have lp1 := okT_pos o1
          have dl := dl_app (D0 := D0) (S := S) (s := s)
          rw [← e1] at dl
          have a2 := q2.2.2.2.1.1
          rw [addK_e (by omega), xb_some, yk_some, pbd_inr]
          exact ⟨q1, cG_tr g9 (cG_lay q2 (by omega) (by decide) (by decide))⟩
      · rw [if_neg (by rw [wr_id (by omega) (by omega), wr_id (by omega) (by omega)]; exact h11)]
        by_cases h18 : t.1 = 18
        · have g9 := cG_nx h (by omega)
          have okt := okT_tail h.1.2.2 (show t.1 ≠ 23 by omega)
          rw [if_pos (by rw [h18]), if_pos (by rw [h18]), if_pos h18, yk_xb2]
          refine yk.mono (eitherK_e (by omega) (ih (by omega)) m _ r S (by omega) g9.2.2 (by omega)) ?_
          intro q hq
          have gx := pB_g (pC_g d) (ts := r) (S := S) okt
          cases hx : pB (pC d) r S with
          | inl f =>
            rw [hx] at hq
            have q1 : q.1 = false := hq.1
            have q2 : cX _ q.2 f := hq.2
            rw [q1, if_neg (by decide), yk_some, pbd_inl]
            exact ⟨rfl, cX_tr g9.1 q2⟩
          | inr p =>
            rw [hx] at hq gx
            have q1 : q.1 = true := hq.1
            have q2 : cG _ q.2 p.2 (D0 ++ trL p.1) (G0 ++ p.1) := hq.2
            obtain ⟨o1, l1, s, e1, c1, t1⟩ := gx
            have lp1 := okT_pos o1
            have dl := dl_app (D0 := D0) (S := S) (s := s)
            rw [← e1] at dl
            rw [q1, if_pos rfl, pbd_inr, yk_xb2]
            refine yk.mono (expect_e (k := 19) (by omega) q2.2.2 (by omega)) ?_
            intro z hz
            have hz := cO_tr g9 (cO_tr q2 hz)
            have e : (if z.1 = true then some (true, z.2) else some (false, z.2)) = some z := by
              obtain ⟨b, Z⟩ := z
              cases b <;> rfl
            rw [e, yk_some]
            exact hz
        · rw [if_neg (by rw [wr_id (by omega) (by omega), wr_id (by omega) (by omega)]; exact h18), if_neg h18, if_neg h11]
          exact cmpK_e h hp
