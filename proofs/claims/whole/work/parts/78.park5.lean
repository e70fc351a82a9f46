/-! text: all lines, the class -/
theorem pT_g (k : Nat) : ∀ (ts : Ts) (ls : List (St × St)), okT ts → ts.length < k → (cdL ls).length + ts.length ≤ 401 → ls.length ≤ 16 → (∀ l ∈ ls, okL l) → (∃ f, pT k ts ls = .inl f ∧ 1 ≤ f.1 ∧ f.1 ≤ 3) ∨ ∃ ls', pT k ts ls = .inr ls' ∧ (cdL ls').length ≤ 400 ∧ ls'.length ≤ 16 ∧ ∀ l ∈ ls', okL l := by
  induction k with
  | zero => intro ts ls _ h; omega
  | succ k ih =>
    intro ts ls ho hk hp h16 hl
    cases ts with
    | nil => exact ho.elim
    | cons t r =>
      rw [List.length_cons] at hk hp
      unfold pT
      by_cases c : t.1 = 23
      · rw [if_pos c]
        exact Or.inr ⟨ls, rfl, by omega, h16, hl⟩
      · rw [if_neg c]
        rcases pL_g (nl := ls.length) ho with ⟨f, ef, hf⟩ | ⟨q, eq, o1, l1, c1, k1, n1⟩
        · rw [ef]; exact Or.inl ⟨f, rfl, hf⟩
        · rw [eq]
          dsimp only
          rw [List.length_cons] at c1 l1
          refine ih q.2.2 _ o1 (by omega) ?_ ?_ ?_
          · rw [cdL_app, List.length_append]; omega
          · rw [List.length_append]; show ls.length + 1 ≤ 16; omega
          · intro l hm
            rw [List.mem_append] at hm
            rcases hm with u | u
            · exact hl l u
            · rw [List.mem_singleton] at u
              rw [u]
              exact k1
def tP (M : xM) (x : (Int × Int) ⊕ List (St × St)) (M' : xM) : Prop := lF M M' ∧ match x with
  | .inl f => M' 36 1 = f.1 ∧ M' 36 2 = f.2
  | .inr ls => (M' 36 1 = M 36 1 ∧ M' 36 2 = M 36 2) ∧ M' 41 0 = ls.length ∧ cD M' (cdL ls) ∧ ((M' 41 2 = 0 ∨ M' 41 2 = 1) ∧ (M' 41 2 = 0 → ∀ q ∈ gsL ls, q.1 ≠ 6))
theorem intoK_q {o1 : Nat} (n : Nat) : ∀ (M : xM) (ts : Ts) (ls : List (St × St)) (v2 : Int) (k : Nat), cS M ts (cdL ls) (gsL ls) → (cdL ls).length + ts.length ≤ 401 → M 41 0 = ls.length → ls.length ≤ 16 → M 36 1 = 0 → 0 ≤ v2 → v2 + ts.length ≤ 401 → ts.length < n → ts.length < k → yk (fX7_readInto_L22 n M o1 v2) (tP M (pT k ts ls)) := by
  induction n with
  | zero => intro M ts ls v2 k _ _ _ _ _ _ _ h; omega
  | succ n ih =>
    intro M ts ls v2 k h hp hl h16 h1 h0 h3 hn hk
    obtain ⟨k, rfl⟩ : ∃ m, k = m + 1 := ⟨k - 1, by omega⟩
    cases ts with
    | nil => exact h.1.2.2.elim
    | cons t r =>
      have a := cS_at h
      rw [List.length_cons] at h3 hn hk
      have okr : t.1 ≠ 23 → 1 ≤ r.length := fun hn => okT_pos (okT_tail h.1.2.2 hn)
      have fin : t.1 = 23 → yk (some M) (tP M (pT (k + 1) (t :: r) ls)) := by
        intro ht
        unfold pT
        rw [if_pos ht, yk_some]
        exact ⟨⟨fun _ _ _ _ => rfl, fun _ _ _ _ => rfl⟩, ⟨rfl, rfl⟩, hl, h.2⟩
      unfold fX7_readInto_L22
      rw [wr_id (x := v2) (by omega) (by omega), wr_id (x := 400) (by omega) (by omega)]
      by_cases c3 : v2 < 400
      · rw [if_pos c3, xrd_at a.1.1 a.1.2 (by omega), a.2.1.1, wr_id (x := t.1) (by omega) (by omega), wr_id (x := 23) (by omega) (by omega)]
        by_cases c : t.1 = 23
        · rw [if_pos c]
          exact fin c
        · have lr := okr c
          obtain ⟨n, rfl⟩ : ∃ m, n = m + 1 := ⟨n - 1, by omega⟩
          rw [if_neg c, h1, if_pos wr_0, yk_xb2]
          refine yk.mono (lineK_e h hp (by omega)) ?_
          intro q hq
          rw [hl] at hq
          unfold pT
          rw [if_neg c]
          rcases pL_g (nl := ls.length) h.1.2.2 with ⟨f, ef, hf⟩ | ⟨p, ep, o1', l1, c1, k1, n1⟩
          · rw [ef] at hq ⊢
            have hq' : lX M q.2 f := hq
            obtain ⟨q1, q2, q3⟩ := hq'
            have st : fX7_readInto_L22 (n + 1) q.2 o1 (v2 + 1) = some q.2 := by
              unfold fX7_readInto_L22
              split
              · rw [xrd_at (by omega) (by omega) (by omega)]
                split
                · rfl
                · rw [q2.1, if_neg (by rw [wr_id (by omega) (by omega)]; omega)]
              · rfl
            rw [st, yk_some]
            exact ⟨q1, q2⟩
          · rw [ep] at hq ⊢
            have hq' : lG M q.2 p.2.2 (cdL ls ++ lc (p.1, p.2.1)) (gsL ls ++ (p.1 ++ p.2.1)) := hq
            obtain ⟨q1, q2, q3, q4⟩ := hq'
            dsimp only
            rw [List.length_cons] at c1 l1 hp
            have e1 := cdL_app ls (p.1, p.2.1)
            have e2 := gsL_app ls (p.1, p.2.1)
            dsimp only at e2
            rw [← e1, ← e2] at q4
            refine yk.mono (ih q.2 p.2.2 (ls ++ [(p.1, p.2.1)]) (v2 + 1) k q4 ?_ ?_ ?_ ?_ (by omega) (by omega) (by omega) (by omega)) ?_
            · rw [e1, List.length_append]; omega
            · rw [q3, hl, List.length_append]; show _ = ((ls.length + 1 : Nat) : Int); omega
            · rw [List.length_append]; show ls.length + 1 ≤ 16; omega
            · rw [q2.1]; exact h1
            · intro M' z
              obtain ⟨z1, z2⟩ := z
              refine ⟨lF_tr q1 z1, ?_⟩
              cases hx : pT k p.2.2 (ls ++ [(p.1, p.2.1)]) with
              | inl f => rw [hx] at z2; exact z2
              | inr ls' =>
                rw [hx] at z2
                exact ⟨⟨by rw [z2.1.1, q2.1], by rw [z2.1.2, q2.2]⟩, z2.2⟩
      · rw [if_neg c3]
        have : t.1 = 23 := by
          by_cases e : t.1 = 23
          · exact e
          · have := okr e; omega
        exact fin this
/-- what text reads out of a tape -/
def txt (T : Int → Int) (L v : Int) : (Int × Int) ⊕ List (St × St) := pT 402 (lx T L 401 0 v) []
theorem txt_g {T : Int → Int} {L v : Int} (hL : 0 ≤ L ∧ L ≤ 400) : (∃ f, txt T L v = .inl f ∧ 1 ≤ f.1 ∧ f.1 ≤ 3) ∨ ∃ ls', txt T L v = .inr ls' ∧ (cdL ls').length ≤ 400 ∧ ls'.length ≤ 16 ∧ ∀ l ∈ ls', okL l := by
  have ok := lx_ok (T := T) hL.2 401 0 v (by omega) (by omega) (by omega)
  exact pT_g 402 _ [] ok.1 (by omega) (by show 0 + _ ≤ _; omega) (by show 0 ≤ 16; omega) (fun l hl => absurd hl (by simp))
theorem into_e {M : xM} {o : Nat} (v : Int) (ho : 28 ≤ o ∧ o ≤ 34) (hO : (0 ≤ M 94 12 ∧ M 94 12 ≤ 400) ∧ ∀ i, 0 ≤ i → i < M 94 12 → M 37 i = M 100 i ∧ 0 ≤ M 100 i ∧ M 100 i ≤ 255) (h36 : M 36 0 = M 94 12) : yk (fX7_readInto M o) fun q => (∀ x, x ≠ 36 → (x < 38 ∨ 42 < x) → x ≠ o → x ≠ o + 1 → q.2 x = M x) ∧ q.2 36 0 = 0 ∧ match txt (M 100) (M 94 12) v with
    | .inl f => q.1 = -1 ∧ (q.2 36 1 = f.1 ∧ q.2 36 2 = f.2) ∧ q.2 o = M o ∧ q.2 (o + 1) = M (o + 1)
    | .inr ls => q.1 = ls.length ∧ (q.2 36 1 = 0 ∧ q.2 36 2 = -1) ∧ (q.2 o 0 = ls.length ∧ q.2 o 1 = (cdL ls).length) ∧ (∀ i : Nat, i < (cdL ls).length → q.2 (o + 1) i = (cdL ls).getD i 0) ∧ ((q.2 o 2 = 0 ∨ q.2 o 2 = 1) ∧ (q.2 o 2 = 0 → ∀ q ∈ gsL ls, q.1 ≠ 6)) := by
  have lo := lx_ok (T := M 100) hO.1.2 401 0 v (by omega) (by omega) (by omega)
  unfold fX7_readInto
  rw [yk_xb]
  refine yk.mono (splitTokens_e (T := M 100) (L := M 94 12) (v := v) (k := 401) hO.1 h36 hO.2 (by omega)) ?_
  intro M2 q
  obtain ⟨q1, q2, q3⟩ := q
  have e4 : fX7_leaveUnread M2 = some (xup (xup (xup M2 36 1 0) 36 2 (-1)) 36 0 0) := rfl
  rw [e4, yk_xb, yk_some]
  have e6 : ∀ N : xM, fX9_clear_i2 N = some (xcl N 41) := fun _ => rfl
  rw [e6, yk_xb, yk_some, yk_xlet, yk_xb]
  generalize hM7 : xup (xcl (xup (xup (xup M2 36 1 0) 36 2 (-1)) 36 0 0) 41) 36 8 0 = M7
  have m8 : M7 36 8 = 0 := by rw [← hM7]; exact xup_e rfl
  have m1 : M7 36 1 = 0 := by rw [← hM7, xup_n (by omega), xcl_o (by omega), xup_n (by omega), xup_n (by omega), xup_e rfl]
  have m2 : M7 36 2 = -1 := by rw [← hM7, xup_n (by omega), xcl_o (by omega), xup_n (by omega), xup_e rfl]
  have m0 : M7 36 0 = 0 := by rw [← hM7, xup_n (by omega), xcl_o (by omega), xup_e rfl]
  have m41 : ∀ j, 0 ≤ j → j ≤ 2 → M7 41 j = 0 := fun j a b => by rw [← hM7, xup_o (by omega), xcl_e a b]
  have mo : ∀ x, x ≠ 36 → x ≠ 41 → M7 x = M2 x := fun x a b => by rw [← hM7, xup_o a, xcl_o b, xup_o a, xup_o a, xup_o a]
  clear hM7
  have s7 : cS M7 (lx (M 100) (M 94 12) 401 0 v) (cdL []) (gsL []) := by
    refine ⟨⟨⟨by omega, by rw [m8]; omega⟩, ?_, lo.1⟩, ⟨m41 1 (by omega) (by omega), fun i hi => absurd hi (Nat.not_lt_zero i)⟩, Or.inl (m41 2 (by omega) (by omega)), fun _ q hq => absurd hq (by simp [gsL])⟩
    rw [m8]
    exact cT_fr (mo 38 (by omega) (by omega)) (mo 39 (by omega) (by omega)) (mo 40 (by omega) (by omega)) _ _ q3
  refine yk.mono (intoK_q (o1 := o) xfuel M7 _ [] 0 402 s7 (by show 0 + _ ≤ _; omega) (m41 0 (by omega) (by omega)) (by show 0 ≤ 16; omega) m1 (by omega) (by omega) (by unfold xfuel; omega) (by omega)) ?_
  intro M12 z
  obtain ⟨z1, z2⟩ := z
  have tg := txt_g (T := M 100) (v := v) hO.1
  unfold txt at tg ⊢
  have fr : ∀ x, x ≠ 36 → (x < 38 ∨ 42 < x) → M12 x = M x := fun x a b => by rw [z1.1 x a (by omega) (by omega), mo x a (by omega), q1 x a (by omega) (by omega) (by omega)]
  have f0 : M12 36 0 = 0 := by rw [z1.2 0 (by omega) (by omega) (by omega)]; exact m0
  rcases tg with ⟨f, ef, hf⟩ | ⟨ls, el, hl1, hl2, hl3⟩
  · rw [ef] at z2 ⊢
    have z2' : M12 36 1 = f.1 ∧ M12 36 2 = f.2 := z2
    rw [z2'.1, if_neg (by rw [wr_id (by omega) (by omega)]; omega), yk_some]
    exact ⟨fun x a b _ _ => fr x a b, f0, rfl, z2', fr o (by omega) (by omega), fr (o + 1) (by omega) (by omega)⟩
  · rw [el] at z2 ⊢
    obtain ⟨⟨y1, y2⟩, y3, y4, y5⟩ := z2
    rw [y1, m1, if_pos wr_0]
    unfold fX9_copyFrom
    rw [yk_xb, yk_xlet, yk_xlet]
    have c1 : xup M12 o 0 (M12 41 0) 41 = M12 41 := xup_o (by omega)
    rw [c1]
    have c2 : xup (xup M12 o 0 (M12 41 0)) o 1 (M12 41 1) 41 = M12 41 := by rw [xup_o (by omega), c1]
    rw [c2]
    have bl : ∀ (F : Bool → Option xM) (P : xM → Prop), (∀ b : Bool, b2i b = M12 41 2 → yk (F b) P) → yk (xbl (M12 41 2) F) P := by
      intro F P hF
      unfold xbl
      rcases y5.1 with e | e
      · rw [e, if_pos wr_0]; exact hF false e.symm
      · rw [e, if_neg (by decide), if_pos (by decide)]; exact hF true e.symm
    refine bl _ _ ?_
    intro b hb
    rw [yk_xlet, hb]
    have c3 : xup (xup (xup M12 o 0 (M12 41 0)) o 1 (M12 41 1)) o 2 (M12 41 2) o 1 = M12 41 1 := by rw [xup_n (by omega), xup_e rfl]
    have d1 := y4.1
    rw [c3, xcp_at (by omega) (by omega) (by omega) (by omega) (by omega) (by omega) (by omega), yk_some, yk_some]
    have o0 : ∀ x : Nat, x ≠ o → xup (xup (xup M12 o 0 (M12 41 0)) o 1 (M12 41 1)) o 2 (M12 41 2) x = M12 x := fun x hx => by rw [xup_o hx, xup_o hx, xup_o hx]
    have oo : ∀ j : Int, xup (xup (xup M12 o 0 (M12 41 0)) o 1 (M12 41 1)) o 2 (M12 41 2) o j = if j = 2 then M12 41 2 else if j = 1 then M12 41 1 else if j = 0 then M12 41 0 else M12 o j := fun j => by rw [xup_s, xup_s, xup_s]
    generalize xup (xup (xup M12 o 0 (M12 41 0)) o 1 (M12 41 1)) o 2 (M12 41 2) = N at o0 oo
    have n1 : ∀ x : Nat, x ≠ o + 1 → (fun (a : Nat) (j : Int) => if a = o + 1 ∧ 0 ≤ j ∧ j < 0 + M12 41 1 then N 42 (0 + (j - 0)) else N a j) x = N x := fun x hx => by
      funext j
      show (if _ then _ else _) = _
      rw [if_neg (fun w => hx w.1)]
    dsimp only
    refine ⟨fun x a b c d => ?_, ?_, ?_, ⟨?_, ?_⟩, ⟨?_, ?_⟩, ?_, ?_⟩
    · have := n1 x d
      rw [o0 x c, fr x a b] at this
      exact this
    · rw [if_neg (by omega), o0 36 (by omega)]; exact f0
    · rw [if_neg (by omega), oo, if_neg (by omega), if_neg (by omega), if_pos rfl]; exact y3
    · rw [if_neg (by omega), o0 36 (by omega), y1]; exact m1
    · rw [if_neg (by omega), o0 36 (by omega), y2]; exact m2
    · rw [if_neg (by omega), oo, if_neg (by omega), if_neg (by omega), if_pos rfl]; exact y3
    · rw [if_neg (by omega), oo, if_neg (by omega), if_pos rfl]; exact d1
    · intro i hi
      rw [if_pos ⟨rfl, by omega, by omega⟩]
      have e : (0 : Int) + ((i : Int) - 0) = i := by omega
      rw [e, o0 42 (by omega)]
      exact y4.2 i hi
    · rw [if_neg (by omega), oo, if_pos rfl]; exact y5
