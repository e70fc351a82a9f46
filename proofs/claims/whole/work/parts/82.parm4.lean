/-! text: lines, the reference -/
def aF (M M' : xM) : Prop := (∀ o, o ≠ 94 → o ≠ 98 → o ≠ 99 → M' o = M o) ∧ ∀ j, j ≠ 11 → (j < 13 ∨ 18 < j) → j ≠ 20 → M' 94 j = M 94 j
theorem rF_aF {M M' : xM} (h : rF M M') : aF M M' := ⟨fun o a _ c => h.1 o a c, h.2⟩
theorem aF_tr {M M1 M2 : xM} (h : aF M M1) (k : aF M1 M2) : aF M M2 := ⟨fun o a b c => by rw [k.1 o a b c, h.1 o a b c], fun j a b c => by rw [k.2 j a b c, h.2 j a b c]⟩
theorem aF_98 {M : xM} {i v : Int} : aF M (xup M 98 i v) := ⟨fun o _ b _ => xup_o b, fun j _ _ _ => by rw [xup_o (by omega)]⟩
theorem rS_98 {M : xM} {ts : Ts} {G : St} {d i v : Int} (h : rS M ts G d) : rS (xup M 98 i v) ts G d := by
  obtain ⟨h1, h2, h3, h4, h5⟩ := h
  exact ⟨tO_fr h1 (xup_o (by omega)) (by rw [xup_o (by omega)]), rT_fr h2 (xup_o (by omega)) (fun j _ _ => by rw [xup_o (by omega)]), h3, rG_fr h4 (xup_o (by omega)) (by rw [xup_o (by omega)]), by rw [xup_o (by omega)]; exact h5⟩
def aX (M M' : xM) (f : Int × Int) : Prop := aF M M' ∧ M' 94 17 = f.1 ∧ M' 94 18 = f.2
def aG (M M' : xM) (nl : Int) (G : St) (p : St × St × Ts) : Prop := aF M M' ∧ M' 94 17 = M 94 17 ∧ rS M' p.2.2 (G ++ (p.1 ++ p.2.1)) 0 ∧ ∀ j, M' 98 j = if j = 3 * nl + 2 then ((G ++ (p.1 ++ p.2.1)).length : Int) else if j = 3 * nl + 1 then ((G ++ p.1).length : Int) else if j = 3 * nl then (G.length : Int) else M 98 j
theorem rS_nil {M : xM} {ts : Ts} {G : St} {d : Int} (h : rS M ts G d) : rS M ts (G ++ []) d := by rw [List.append_nil]; exact h
theorem lineM_e {M : xM} {ts : Ts} {G : St} {d0 nl : Int} (h : rS M ts G d0) (hp : G.length + ts.length ≤ 401) (h10 : M 94 10 = nl) (hn : 0 ≤ nl ∧ nl ≤ 16) : yk (fX12_aLine M) fun q => match pL ts nl with
    | .inl f => q.1 = false ∧ aX M q.2 f
    | .inr p => q.1 = true ∧ aG M q.2 nl G p := by
  cases ts with
  | nil => exact h.2.2.1.elim
  | cons t r =>
    have a := rS_at h
    have hp' := hp
    rw [List.length_cons] at hp'
    have t14 := a.1.1
    unfold fX12_aLine
    simp only [tkis t14 a.2.1 7 20 (by decide) (by omega)]
    rw [h10, wr_id (x := nl) (by omega) (by omega), wr_id (x := 16) (by omega) (by omega)]
    unfold pL
    dsimp only
    by_cases c : t.1 = 7
    · rw [if_pos c, if_pos c]
      by_cases c16 : 16 ≤ nl
      · rw [if_pos (show nl = 16 by omega), if_pos c16, bad_e, yk_xb2, yk_some, yk_some]
        have z := rX_bad (v := 3) a.1.2.1
        exact ⟨rfl, rF_aF z.1, z.2⟩
      · rw [if_neg (show ¬ nl = 16 by omega), if_neg c16, yk_xlet, yk_xb]
        have okt := okT_tail h.2.2.1 (show t.1 ≠ 23 by omega)
        have g4 := rH_20 (v := 0) h
        refine yk.mono (rH_nx g4.2.2 (by omega)) ?_
        intro M6 g6
        have n6 : M6 94 10 = nl := by rw [g6.1.2 10 (by omega) (by omega) (by omega), g4.1.2 10 (by omega) (by omega) (by omega)]; exact h10
        have l6 : M6 94 11 = G.length := g6.2.2.2.2.2.1.1
        rw [n6, xwt_at (by omega) (by omega) (by omega), l6, yk_xb2]
        have s7 := rS_98 (i := 3 * nl) (v := (G.length : Int)) g6.2.2
        refine yk.mono (esumM_e (G0 := G) (S := []) (rS_nil s7) (by rw [List.append_nil]; omega)) ?_
        intro q hq
        have gx := pE_g (ts := r) (S := []) okt
        have f7 : aF M (xup M6 98 (3 * nl) (G.length : Int)) := aF_tr (rF_aF g4.1) (aF_tr (rF_aF g6.1) aF_98)
        have m17 : xup M6 98 (3 * nl) (G.length : Int) 94 17 = M 94 17 := by rw [xup_o (by omega), g6.2.1, g4.2.1]
        have m98 : ∀ j, xup M6 98 (3 * nl) (G.length : Int) 98 j = if j = 3 * nl then (G.length : Int) else M 98 j := fun j => by rw [xup_s, g6.1.1 98 (by omega) (by omega), g4.1.1 98 (by omega) (by omega)]
        have m10 : xup M6 98 (3 * nl) (G.length : Int) 94 10 = nl := by rw [xup_o (by omega)]; exact n6
        generalize xup M6 98 (3 * nl) (G.length : Int) = M7 at *
        clear g6 g4 n6 l6
        cases hx : pE r [] with
        | inl f =>
          rw [hx] at hq
          have q1 : q.1 = false := hq.1
          have q2 : rX _ q.2 f := hq.2
          rw [q1, if_neg (by decide), yk_some]
          exact ⟨rfl, aF_tr f7 (rF_aF q2.1), q2.2⟩
        | inr va =>
          rw [hx] at hq gx
          have q1 : q.1 = true := hq.1
          have q2 : rH _ q.2 va.2 (G ++ va.1) 0 := hq.2
          obtain ⟨o1, l1, s, e1, c1, t1⟩ := gx
          rw [List.nil_append] at e1
          rw [← e1] at c1
          have sl := trL_len va.1
          clear hx hq e1 t1
          rw [q1, if_pos rfl]
          obtain ⟨va1, va2⟩ := va
          dsimp only at *
          have gl : (G ++ va1).length = G.length + va1.length := List.length_append
          have n10 : q.2 94 10 = nl := by rw [q2.1.2 10 (by omega) (by omega) (by omega)]; exact m10
          have l10 : q.2 94 11 = (G ++ va1).length := q2.2.2.2.2.2.1.1
          rw [n10, xwt_at (by omega) (by omega) (by omega), l10]
          have s11 := rS_98 (i := 3 * nl + 1) (v := ((G ++ va1).length : Int)) q2.2.2
          have f11 : aF M (xup q.2 98 (3 * nl + 1) ((G ++ va1).length : Int)) := aF_tr f7 (aF_tr (rF_aF q2.1) aF_98)
          have k17 : xup q.2 98 (3 * nl + 1) ((G ++ va1).length : Int) 94 17 = M 94 17 := by rw [xup_o (by omega), q2.2.1, m17]
          have k98 : ∀ j, xup q.2 98 (3 * nl + 1) ((G ++ va1).length : Int) 98 j = if j = 3 * nl + 1 then ((G ++ va1).length : Int) else if j = 3 * nl then (G.length : Int) else M 98 j := fun j => by rw [xup_s, q2.1.1 98 (by omega) (by omega), m98]
          have k10 : xup q.2 98 (3 * nl + 1) ((G ++ va1).length : Int) 94 10 = nl := by rw [xup_o (by omega)]; exact n10
          generalize xup q.2 98 (3 * nl + 1) ((G ++ va1).length : Int) = M11 at *
          clear q2 n10 l10 f7 m17 m98 m10 s7
          have fin : ∀ (M12 : xM) (ts2 : Ts) (co : St), rH M11 M12 ts2 (G ++ (va1 ++ co)) 0 → yk (xwt M12 98 48 ((3 * (M12 94 10)) + 2) (M12 94 11) fun M14 => xb2 (fX12_need M14 159) fun r16 M17 => some (r16, M17)) fun q => match (match pX 13 ts2 [] with
                | .inl f => .inl f
                | .inr c => .inr (va1, co, c.2) : (Int × Int) ⊕ (St × St × Ts)) with
              | .inl f => q.1 = false ∧ aX M q.2 f
              | .inr p => q.1 = true ∧ aG M q.2 nl G p := by
            intro M12 ts2 co g12
            have n12 : M12 94 10 = nl := by rw [g12.1.2 10 (by omega) (by omega) (by omega)]; exact k10
            have l12 : M12 94 11 = (G ++ (va1 ++ co)).length := g12.2.2.2.2.2.1.1
            rw [n12, xwt_at (by omega) (by omega) (by omega), l12, yk_xb2]
            have s14 := rS_98 (i := 3 * nl + 2) (v := ((G ++ (va1 ++ co)).length : Int)) g12.2.2
            refine yk.mono (needM_e (G0 := G ++ (va1 ++ co)) (S := []) (k := 13) (by decide) (by omega) (rS_nil s14)) ?_
            intro z hz
            rw [yk_some]
            cases hy : pX 13 ts2 [] with
            | inl f =>
              rw [hy] at hz
              have z2 : rX _ z.2 f := hz.2
              exact ⟨hz.1, aF_tr f11 (aF_tr (rF_aF g12.1) (aF_tr aF_98 (rF_aF z2.1))), z2.2⟩
            | inr y =>
              rw [hy] at hz
              have z2 : rH _ z.2 y.2 (G ++ (va1 ++ co) ++ y.1) 0 := hz.2
              have yn : y.1 = [] := by
                have gx := pX_g (k := 13) (S := []) (by decide) g12.2.2.2.2.1
                rw [hy] at gx
                obtain ⟨_, _, s, e1, _, t1⟩ := gx
                rw [e1, t1]; rfl
              rw [yn, List.append_nil] at z2
              refine ⟨hz.1, aF_tr f11 (aF_tr (rF_aF g12.1) (aF_tr aF_98 (rF_aF z2.1))), by rw [z2.2.1, xup_o (by omega), g12.2.1, k17], z2.2.2, ?_⟩
              intro j
              rw [z2.1.1 98 (by omega) (by omega), xup_s, g12.1.1 98 (by omega) (by omega), k98]
          cases va2 with
          | nil => exact o1.elim
          | cons u y =>
            rw [List.length_cons] at c1 l1
            have b := rS_at s11
            simp only [xj, tkis b.1.1 b.2.1 8 3 (by decide) (by omega)]
            by_cases c8 : u.1 = 8
            · have oky := okT_tail o1 (show u.1 ≠ 23 by omega)
              rw [if_pos c8, yk_xb]
              refine yk.mono (rH_nx s11 (by omega)) ?_
              intro M19 g19
              rw [yk_xb2]
              have A := condM_e (G0 := G ++ va1) 8 (by omega)
              have d8 : (8 : Int) - ((8 : Nat) : Int) = 0 := by omega
              rw [d8] at A
              refine yk.mono (anyM_e (G0 := G ++ va1) (d := 0) (m := 38) (fun M ts S a b => A 38 M ts S (by omega) a b) (pC_g 8) M19 y [] (rS_nil g19.2.2) (by rw [List.append_nil]; omega)) ?_
              intro z hz
              rw [pH_c, if_pos c8]
              cases hy : pB (pC 8) y [] with
              | inl f =>
                rw [hy] at hz
                have z1 : z.1 = false := hz.1
                have z2 : rX _ z.2 f := hz.2
                rw [z1, if_neg (by decide), yk_some]
                exact ⟨rfl, aF_tr f11 (aF_tr (rF_aF g19.1) (rF_aF z2.1)), z2.2⟩
              | inr co =>
                rw [hy] at hz
                have z1 : z.1 = true := hz.1
                have z2 : rH _ z.2 co.2 (G ++ va1 ++ co.1) 0 := hz.2
                rw [List.append_assoc] at z2
                rw [z1, if_pos rfl]
                exact fin z.2 co.2 co.1 (rH_tr g19 z2)
            · rw [if_neg c8, pH_c, if_neg c8]
              have e0 : G ++ (va1 ++ []) = G ++ va1 := by rw [List.append_nil]
              exact fin M11 (u :: y) [] (by rw [e0]; exact rH_rfl s11)
    · rw [if_neg c, if_neg c, bad_e, yk_xb2, yk_some, yk_some]
      have z := rX_bad (v := 1) a.1.2.1
      exact ⟨rfl, rF_aF z.1, z.2⟩
def l98 (M : xM) (ls : List (St × St)) : Prop := ∀ i : Nat, i < ls.length → M 98 (3 * i) = ((gsL (ls.take i)).length : Int) ∧ M 98 (3 * i + 1) = ((gsL (ls.take i) ++ (ls.getD i ([], [])).1).length : Int) ∧ M 98 (3 * i + 2) = ((gsL (ls.take (i + 1))).length : Int)
def tF (M M' : xM) : Prop := (∀ o, o ≠ 94 → o ≠ 98 → o ≠ 99 → M' o = M o) ∧ ∀ j, j ≠ 10 → j ≠ 11 → (j < 13 ∨ 18 < j) → j ≠ 20 → M' 94 j = M 94 j
def uP (M : xM) (x : (Int × Int) ⊕ List (St × St)) (q : Int × xM) : Prop := tF M q.2 ∧ match x with
  | .inl f => q.1 = 0 ∧ q.2 94 17 = f.1 ∧ q.2 94 18 = f.2
  | .inr ls => q.1 = 1 ∧ q.2 94 17 = M 94 17 ∧ q.2 94 10 = ls.length ∧ l98 q.2 ls ∧ rG q.2 (gsL ls)
theorem gsL_len (ls : List (St × St)) : (gsL ls).length ≤ (cdL ls).length := by
  induction ls with
  | nil => exact Nat.le_refl 0
  | cons l r ih =>
    show ((l.1 ++ l.2) ++ gsL r).length ≤ (lc l ++ cdL r).length
    rw [List.length_append, List.length_append, List.length_append, lc_len]
    have := trL_len l.1
    have := trL_len l.2
    omega
theorem linesM_q {v1 : Int} (n : Nat) : ∀ (M : xM) (ts : Ts) (ls : List (St × St)) (d0 : Int) (k : Nat), rS M ts (gsL ls) d0 → (cdL ls).length + ts.length ≤ 401 → M 94 10 = ls.length → ls.length ≤ 16 → l98 M ls → ts.length < n → ts.length < k → yk (fX12_text_L52 n M v1 1) (uP M (pT k ts ls)) := by
  induction n with
  | zero => intro M ts ls d0 k _ _ _ _ _ h; omega
  | succ n ih =>
    intro M ts ls d0 k h hp hl h16 h98 hn hk
    obtain ⟨k, rfl⟩ : ∃ m, k = m + 1 := ⟨k - 1, by omega⟩
    cases ts with
    | nil => exact h.2.2.1.elim
    | cons t r =>
      have a := rS_at h
      rw [List.length_cons] at hn hk
      have okr : t.1 ≠ 23 → 1 ≤ r.length := fun hn => okT_pos (okT_tail h.2.2.1 hn)
      have t23 := tkis a.1.1 a.2.1 23 0 (by decide) (by omega)
      rw [wr_0] at t23
      unfold fX12_text_L52
      rw [if_neg (by decide)]
      simp only [t23, xj]
      unfold pT
      by_cases c : t.1 = 23
      · rw [if_pos c, if_pos c, yk_some]
        exact ⟨⟨fun _ _ _ _ => rfl, fun _ _ _ _ _ => rfl⟩, rfl, rfl, hl, h98, h.2.2.2.1⟩
      · have lr := okr c
        obtain ⟨n, rfl⟩ : ∃ m, n = m + 1 := ⟨n - 1, by omega⟩
        have gl := gsL_len ls
        rw [if_neg c, if_neg c, yk_xb2]
        refine yk.mono (lineM_e h (by omega) hl (by omega)) ?_
        intro q hq
        rcases pL_g (nl := ls.length) h.2.2.1 with ⟨f, ef, hf⟩ | ⟨p, ep, o1, l1, c1, k1, n1⟩
        · rw [ef] at hq ⊢
          have q1 : q.1 = false := hq.1
          have q2 : aX M q.2 f := hq.2
          rw [q1, if_neg (by decide), yk_xlet]
          show yk (fX12_text_L52 (n + 1) _ v1 0) _
          unfold fX12_text_L52
          rw [if_pos wr_0, yk_some]
          refine ⟨⟨fun o a b c => by dsimp only; rw [xup_o a, q2.1.1 o a b c], fun j a b c d => by dsimp only; rw [xup_n a, q2.1.2 j b c d]⟩, rfl, by dsimp only; rw [xup_n (by omega)]; exact q2.2.1, by dsimp only; rw [xup_n (by omega)]; exact q2.2.2⟩
        · rw [ep] at hq ⊢
          have q1 : q.1 = true := hq.1
          obtain ⟨g1, g2, g3, g4⟩ : aG M q.2 ls.length (gsL ls) p := hq.2
          rw [List.length_cons] at c1 l1 hp
          have e1 := cdL_app ls (p.1, p.2.1)
          have e2 := gsL_app ls (p.1, p.2.1)
          dsimp only at e2
          have m10 : q.2 94 10 = ls.length := by rw [g1.2 10 (by omega) (by omega) (by omega)]; exact hl
          rw [q1, if_pos rfl, yk_xlet, m10]
          dsimp only
          have s12 : rS (xup q.2 94 10 ((ls.length : Int) + 1)) p.2.2 (gsL (ls ++ [(p.1, p.2.1)])) 0 := by
            rw [e2]
            obtain ⟨h1, h2, h3, h4, h5⟩ := g3
            exact ⟨tO_fr h1 (xup_o (by omega)) (xup_n (by omega)), rT_fr h2 (xup_o (by omega)) (fun j _ _ => xup_n (by omega)), h3, rG_fr h4 (xup_o (by omega)) (xup_n (by omega)), by rw [xup_n (by omega)]; exact h5⟩
          refine yk.mono (ih (xup q.2 94 10 ((ls.length : Int) + 1)) p.2.2 (ls ++ [(p.1, p.2.1)]) 0 k s12 ?_ ?_ ?_ ?_ (by omega) (by omega)) ?_
          · rw [e1, List.length_append]; omega
          · rw [xup_e rfl, List.length_append]; show _ = ((ls.length + 1 : Nat) : Int); omega
          · rw [List.length_append]; show ls.length + 1 ≤ 16; omega
          · intro i hi
            rw [List.length_append] at hi
            have hi' : i < ls.length + 1 := hi
            rw [xup_o (by omega), g4, g4, g4]
            by_cases ci : i = ls.length
            · subst ci
              have t1 : (ls ++ [(p.1, p.2.1)]).take ls.length = ls := by rw [List.take_append_of_le_length (Nat.le_refl _), List.take_length]
              have t2 : (ls ++ [(p.1, p.2.1)]).take (ls.length + 1) = ls ++ [(p.1, p.2.1)] := List.take_of_length_le (by rw [List.length_append]; exact Nat.le_refl _)
              have t3 : (ls ++ [(p.1, p.2.1)]).getD ls.length ([], []) = (p.1, p.2.1) := by
                rw [List.getD_eq_getElem?_getD, List.getElem?_append_right (Nat.le_refl _)]
                simp
              rw [t1, t2, t3, e2, if_neg (by omega), if_neg (by omega), if_pos rfl, if_neg (by omega), if_pos rfl, if_pos rfl]
              exact ⟨rfl, rfl, rfl⟩
            · have t1 : (ls ++ [(p.1, p.2.1)]).take i = ls.take i := List.take_append_of_le_length (by omega)
              have t2 : (ls ++ [(p.1, p.2.1)]).take (i + 1) = ls.take (i + 1) := List.take_append_of_le_length (by omega)
              have t3 : (ls ++ [(p.1, p.2.1)]).getD i ([], []) = ls.getD i ([], []) := by
                rw [List.getD_eq_getElem?_getD, List.getD_eq_getElem?_getD, List.getElem?_append_left (by omega)]
              rw [t1, t2, t3, if_neg (by omega), if_neg (by omega), if_neg (by omega), if_neg (by omega), if_neg (by omega), if_neg (by omega), if_neg (by omega), if_neg (by omega), if_neg (by omega)]
              exact h98 i (by omega)
          · intro z hz
            obtain ⟨z1, z2⟩ := hz
            refine ⟨⟨fun o a b c => by rw [z1.1 o a b c, xup_o a, g1.1 o a b c], fun j a b c d => by rw [z1.2 j a b c d, xup_n a, g1.2 j b c d]⟩, ?_⟩
            cases hx : pT k p.2.2 (ls ++ [(p.1, p.2.1)]) with
            | inl f => rw [hx] at z2; exact z2
            | inr ls' =>
              rw [hx] at z2
              exact ⟨z2.1, by rw [z2.2.1, xup_n (by omega), g2], z2.2.2⟩
