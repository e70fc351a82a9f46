/-! text: how tokens are read -/
abbrev St : Type := List (Int × Int)
abbrev PR : Type := (Int × Int) ⊕ (St × Ts)
def pbd (x : PR) (F : St → Ts → PR) : PR := match x with
  | .inl f => .inl f
  | .inr q => F q.1 q.2
theorem pbd_inl {f : Int × Int} {F : St → Ts → PR} : pbd (.inl f) F = .inl f := rfl
theorem pbd_inr {q : St × Ts} {F : St → Ts → PR} : pbd (.inr q) F = F q.1 q.2 := rfl
def pU : Ts → St → PR
  | [], _ => .inl (1, 0)
  | t :: r, S => if t.1 = 12 then .inr (S ++ [(0, t.2.2)], r) else if t.1 < 7 then .inr (S ++ [(t.1 + 1, t.2.2)], r) else .inl (1, t.2.1)
def pD : Ts → St → PR
  | [], _ => .inl (1, 0)
  | t :: r, S => if t.1 = 12 then (if t.2.2 = 0 then .inl (2, t.2.1) else .inr (S ++ [(16, t.2.2)], r)) else .inl (1, t.2.1)
def pw (w : Int) : St := if w = -1 then [] else [(w - 1, 0)]
def pS : Nat → Ts → St → Int → PR
  | 0, _, _, _ => .inl (1, 0)
  | _ + 1, [], _, _ => .inl (1, 0)
  | n + 1, t :: r, S, w =>
    if t.1 = 16 then pbd (pU r S) fun S1 r1 => pS n r1 (S1 ++ [(15, 0)]) w
    else if t.1 = 17 then pbd (pD r S) fun S1 r1 => pS n r1 S1 w
    else if t.1 = 14 ∨ t.1 = 15 then pbd (pU r (S ++ pw w)) fun S1 r1 => pS n r1 S1 t.1
    else .inr (S ++ pw w, t :: r)
def pE (ts : Ts) (S : St) : PR := pbd (pU ts S) fun S1 r1 => pS (r1.length + 1) r1 S1 (-1)
def po (w : Bool) : St := if w = true then [(22, 0)] else []
def pR (pc : Ts → St → PR) : Nat → Ts → St → Bool → PR
  | 0, _, _, _ => .inl (1, 0)
  | _ + 1, [], _, _ => .inl (1, 0)
  | n + 1, t :: r, S, w =>
    if t.1 = 10 then pbd (pc r S) fun S1 r1 => pR pc n r1 (S1 ++ [(21, 0)]) w
    else if t.1 = 9 then pbd (pc r (S ++ po w)) fun S1 r1 => pR pc n r1 S1 true
    else .inr (S ++ po w, t :: r)
def pB (pc : Ts → St → PR) (ts : Ts) (S : St) : PR := pbd (pc ts S) fun S1 r1 => pR pc (r1.length + 1) r1 S1 false
def pX (k : Int) : Ts → St → PR
  | [], _ => .inl (1, 0)
  | t :: r, S => if t.1 = k then .inr (S, r) else .inl (1, t.2.1)
def pCm : Ts → St → PR
  | [], _ => .inl (1, 0)
  | t :: r, S => if 20 ≤ t.1 ∧ t.1 ≤ 22 then pbd (pE r S) fun S2 r2 => .inr (S2 ++ [(t.1 - 3, 0)], r2) else .inl (1, t.2.1)
def pQ (ts : Ts) (S : St) : PR := pbd (pE ts S) fun S1 r1 => pCm r1 S1
def pC : Nat → Ts → St → PR
  | _, [], _ => .inl (1, 0)
  | 0, t :: r, S => if t.1 = 11 ∨ t.1 = 18 then .inl (3, t.2.1) else pQ (t :: r) S
  | d + 1, t :: r, S => if t.1 = 18 then pbd (pB (pC d) r S) fun S1 r1 => pX 19 r1 S1 else if t.1 = 11 then pbd (pC d r S) fun S1 r1 => .inr (S1 ++ [(20, 0)], r1) else pQ (t :: r) S
def pH : Ts → PR
  | [] => .inl (1, 0)
  | t :: r => if t.1 = 8 then pB (pC 8) r [] else .inr ([], t :: r)
def pL (ts : Ts) (nl : Int) : (Int × Int) ⊕ (St × St × Ts) := match ts with
  | [] => .inl (1, 0)
  | t :: r => if t.1 = 7 then (if 16 ≤ nl then .inl (3, t.2.1) else match pE r [] with
    | .inl f => .inl f
    | .inr a => match pH a.2 with
      | .inl f => .inl f
      | .inr b => match pX 13 b.2 [] with
        | .inl f => .inl f
        | .inr c => .inr (a.1, b.1, c.2)) else .inl (1, t.2.1)
def pT : Nat → Ts → List (St × St) → (Int × Int) ⊕ List (St × St)
  | 0, _, _ => .inl (1, 0)
  | _ + 1, [], _ => .inl (1, 0)
  | n + 1, t :: r, ls => if t.1 = 23 then .inr ls else match pL (t :: r) ls.length with
    | .inl f => .inl f
    | .inr q => pT n q.2.2 (ls ++ [(q.1, q.2.1)])
theorem pU_c {t : Int × Int × Int} {r : Ts} {S : St} : pU (t :: r) S = if t.1 = 12 then .inr (S ++ [(0, t.2.2)], r) else if t.1 < 7 then .inr (S ++ [(t.1 + 1, t.2.2)], r) else .inl (1, t.2.1) := rfl
theorem pD_c {t : Int × Int × Int} {r : Ts} {S : St} : pD (t :: r) S = if t.1 = 12 then (if t.2.2 = 0 then .inl (2, t.2.1) else .inr (S ++ [(16, t.2.2)], r)) else .inl (1, t.2.1) := rfl
theorem pX_c {k : Int} {t : Int × Int × Int} {r : Ts} {S : St} : pX k (t :: r) S = if t.1 = k then .inr (S, r) else .inl (1, t.2.1) := rfl
theorem pCm_c {t : Int × Int × Int} {r : Ts} {S : St} : pCm (t :: r) S = if 20 ≤ t.1 ∧ t.1 ≤ 22 then pbd (pE r S) fun S2 r2 => .inr (S2 ++ [(t.1 - 3, 0)], r2) else .inl (1, t.2.1) := rfl
theorem pH_c {t : Int × Int × Int} {r : Ts} : pH (t :: r) = if t.1 = 8 then pB (pC 8) r [] else .inr ([], t :: r) := rfl
/-! what comes out -/
theorem okT_tail {t : Int × Int × Int} {r : Ts} (h : okT (t :: r)) (hn : t.1 ≠ 23) : okT r := by
  rcases h.2 with a | a
  · exact absurd a.1 hn
  · exact a.2
theorem okT_pos {ts : Ts} (h : okT ts) : 1 ≤ ts.length := by
  cases ts with
  | nil => exact h.elim
  | cons t r => rw [List.length_cons]; omega
theorem trL_app (a b : St) : trL (a ++ b) = trL a ++ trL b := by
  induction a with
  | nil => rfl
  | cons q a ih => show trS q ++ trL (a ++ b) = (trS q ++ trL a) ++ trL b; rw [ih, List.append_assoc]
theorem trL_one (q : Int × Int) : trL [q] = trS q := by show trS q ++ [] = trS q; rw [List.append_nil]
theorem trS_pos (q : Int × Int) : 1 ≤ (trS q).length := by
  unfold trS
  repeat' split
  all_goals simp
theorem trL_len (s : St) : s.length ≤ (trL s).length := by
  induction s with
  | nil => exact Nat.le_refl 0
  | cons q s ih =>
    have := trS_pos q
    show s.length + 1 ≤ (trS q ++ trL s).length
    rw [List.length_append]
    omega
theorem tyR_app (a b : St) : ∀ h h', tyR a h = some h' → tyR (a ++ b) h = tyR b h' := by
  induction a with
  | nil =>
    intro h h' e
    have : h = h' := by
      have e' : some h = some h' := e
      exact Option.some.inj e'
    rw [this]; rfl
  | cons q a ih =>
    intro h h' e
    have e' : (match tyS q h with
      | none => none
      | some h' => tyR a h') = some h' := e
    show (match tyS q h with
      | none => none
      | some h' => tyR (a ++ b) h') = _
    cases c : tyS q h with
    | none => rw [c] at e'; exact absurd e' (by simp)
    | some x => rw [c] at e'; exact ih x h' e'
def gX (a b : Nat) (S : St) (ty : St → Prop) (x : PR) : Prop := match x with
  | .inl f => 1 ≤ f.1 ∧ f.1 ≤ 3
  | .inr q => okT q.2 ∧ (q.2.length < a ∧ ∃ s, q.1 = S ++ s ∧ (trL s).length + q.2.length ≤ b ∧ ty s)
theorem pU_g {ts : Ts} {S : St} (h : okT ts) : gX ts.length ts.length S (fun s => (trL s).length = 1 ∧ ∀ h : List Bool, h.length < 26 → tyR s h = some (false :: h)) (pU ts S) := by
  cases ts with
  | nil => exact h.elim
  | cons t r =>
    rw [pU_c]
    by_cases h12 : t.1 = 12
    · have v := h.1.2.2 h12
      rw [if_pos h12]
      refine ⟨okT_tail h (by omega), ?_, _, rfl, ?_, rfl, ?_⟩
      · show r.length < r.length + 1; omega
      · show 1 + r.length ≤ r.length + 1; omega
      · intro h hh
        show (match tyS (0, t.2.2) h with
          | none => none
          | some h' => some h') = _
        have : tyS (0, t.2.2) h = some (false :: h) := by
          unfold tyS
          rw [if_pos (by dsimp only; omega), if_pos]
          refine ⟨by dsimp only; omega, fun _ => v, hh⟩
        rw [this]
    · rw [if_neg h12]
      by_cases h7 : t.1 < 7
      · have k0 := h.1.1
        rw [if_pos h7]
        have tr : trL [(t.1 + 1, t.2.2)] = [-(t.1 + 1)] := by
          rw [trL_one]
          unfold trS
          dsimp only
          rw [if_neg (by omega), if_pos (by omega)]
        refine ⟨okT_tail h (by omega), ?_, [(t.1 + 1, t.2.2)], rfl, ?_, by rw [tr]; rfl, ?_⟩
        · show r.length < r.length + 1; omega
        · rw [tr]; show 1 + r.length ≤ r.length + 1; omega
        · intro h hh
          show (match tyS (t.1 + 1, t.2.2) h with
            | none => none
            | some h' => some h') = _
          have : tyS (t.1 + 1, t.2.2) h = some (false :: h) := by
            unfold tyS
            rw [if_pos (by dsimp only; omega), if_pos]
            refine ⟨by dsimp only; omega, fun w => by dsimp only at w; omega, hh⟩
          rw [this]
      · rw [if_neg h7]
        show (1 : Int) ≤ 1 ∧ (1 : Int) ≤ 3
        omega
def wH (w : Int) (h : List Bool) : List Bool := if w = -1 then false :: h else false :: false :: h
def wN (w : Int) : Nat := if w = -1 then 0 else 1
theorem pw_g {w : Int} (hw : w = -1 ∨ w = 14 ∨ w = 15) : (trL (pw w)).length = wN w ∧ ∀ h, tyR (pw w) (wH w h) = some (false :: h) := by
  rcases hw with e | e | e
  · subst e; exact ⟨by decide, fun h => rfl⟩
  · subst e; exact ⟨by decide, fun h => rfl⟩
  · subst e; exact ⟨by decide, fun h => rfl⟩
theorem gX_app {a b a2 b2 : Nat} {S s1 : St} {ty ty2 : St → Prop} {x : PR} (h : gX a2 b2 (S ++ s1) ty2 x) (h1 : a2 ≤ a) (h2 : (trL s1).length + b2 ≤ b) (h3 : ∀ s, ty2 s → ty (s1 ++ s)) : gX a b S ty x := by
  cases x with
  | inl f => exact h
  | inr q =>
    obtain ⟨c, d, s, e, f, g⟩ := h
    refine ⟨c, by omega, s1 ++ s, by rw [e, List.append_assoc], ?_, h3 s g⟩
    rw [trL_app, List.length_append]
    omega
theorem gX_bd {a b a1 b1 : Nat} {S S1 : St} {ty ty1 : St → Prop} {x : PR} {F : St → Ts → PR} (h : gX a1 b1 S1 ty1 x) (k : ∀ s r, okT r → r.length < a1 → (trL s).length + r.length ≤ b1 → ty1 s → gX a b S ty (F (S1 ++ s) r)) : gX a b S ty (pbd x F) := by
  cases x with
  | inl f => exact h
  | inr q =>
    obtain ⟨c, d, s, e, f, g⟩ := h
    rw [pbd_inr, e]
    exact k s q.2 c d f g
theorem gX_1 {a b : Nat} {S : St} {ty : St → Prop} {p : Int} : gX a b S ty (.inl (1, p)) := by show (1 : Int) ≤ 1 ∧ (1 : Int) ≤ 3; omega
theorem gX_2 {a b : Nat} {S : St} {ty : St → Prop} {p : Int} : gX a b S ty (.inl (2, p)) := by show (1 : Int) ≤ 2 ∧ (2 : Int) ≤ 3; omega
theorem gX_3 {a b : Nat} {S : St} {ty : St → Prop} {p : Int} : gX a b S ty (.inl (3, p)) := by show (1 : Int) ≤ 3 ∧ (3 : Int) ≤ 3; omega
theorem pD_g {ts : Ts} {S : St} (h : okT ts) : gX ts.length (ts.length + 1) S (fun s => (trL s).length = 2 ∧ ∀ h : List Bool, tyR s (false :: h) = some (false :: h)) (pD ts S) := by
  cases ts with
  | nil => exact h.elim
  | cons t r =>
    rw [pD_c]
    by_cases h12 : t.1 = 12
    · have v := h.1.2.2 h12
      rw [if_pos h12]
      by_cases z : t.2.2 = 0
      · rw [if_pos z]; exact gX_2
      · rw [if_neg z]
        refine ⟨okT_tail h (by omega), ?_, [(16, t.2.2)], rfl, ?_, rfl, ?_⟩
        · show r.length < r.length + 1; omega
        · show 2 + r.length ≤ r.length + 1 + 1; omega
        · intro h
          show (match (if 0 < t.2.2 ∧ t.2.2 ≤ 9999 then some (false :: h) else none : Option (List Bool)) with
            | none => none
            | some h' => some h') = _
          rw [if_pos (by omega)]
    · rw [if_neg h12]; exact gX_1
theorem wH_f (w : Int) (h : List Bool) : ∃ r, wH w h = false :: r ∧ r.length ≤ h.length + 1 := by
  unfold wH
  split
  · exact ⟨h, rfl, by omega⟩
  · exact ⟨false :: h, rfl, by rw [List.length_cons]; omega⟩
theorem pS_g (n : Nat) : ∀ (ts : Ts) (S : St) (w : Int), okT ts → ts.length < n → (w = -1 ∨ w = 14 ∨ w = 15) → gX (ts.length + 1) (ts.length + wN w) S (fun s => (∀ h : List Bool, h.length ≤ 23 → tyR s (wH w h) = some (false :: h))) (pS n ts S w) := by
  induction n with
  | zero => intro ts S w _ h _; omega
  | succ n ih =>
    intro ts S w ho hn hw
    cases ts with
    | nil => exact ho.elim
    | cons t r =>
      rw [List.length_cons] at hn ⊢
      unfold pS
      by_cases h16 : t.1 = 16
      · rw [if_pos h16]
        refine gX_bd (pU_g (S := S) (okT_tail ho (by omega))) ?_
        intro s r1 o1 l1 c1 t1
        have e : S ++ s ++ [(15, 0)] = S ++ (s ++ [(15, 0)]) := List.append_assoc _ _ _
        rw [e]
        refine gX_app (ih r1 (S ++ (s ++ [(15, 0)])) w o1 (by omega) hw) (by omega) ?_ ?_
        · rw [trL_app, List.length_append, t1.1]
          show 1 + 1 + (r1.length + wN w) ≤ _
          omega
        · intro s2 t2 h hh
          obtain ⟨x, ex, lx⟩ := wH_f w h
          have q1 := t1.2 (wH w h) (by rw [ex, List.length_cons]; omega)
          have q2 := tyR_app s [(15, 0)] _ _ q1
          have q3 : tyR [(15, 0)] (false :: wH w h) = some (wH w h) := by rw [ex]; rfl
          rw [q3] at q2
          rw [tyR_app _ s2 _ _ q2]
          exact t2 h hh
      · rw [if_neg h16]
        by_cases h17 : t.1 = 17
        · rw [if_pos h17]
          refine gX_bd (pD_g (S := S) (okT_tail ho (by omega))) ?_
          intro s r1 o1 l1 c1 t1
          refine gX_app (ih r1 (S ++ s) w o1 (by omega) hw) (by omega) ?_ ?_
          · rw [t1.1]; omega
          · intro s2 t2 h hh
            obtain ⟨x, ex, lx⟩ := wH_f w h
            have q1 := t1.2 x
            rw [← ex] at q1
            rw [tyR_app _ s2 _ _ q1]
            exact t2 h hh
        · rw [if_neg h17]
          have pg := pw_g hw
          by_cases h14 : t.1 = 14 ∨ t.1 = 15
          · rw [if_pos h14]
            refine gX_bd (pU_g (S := S ++ pw w) (okT_tail ho (by omega))) ?_
            intro s r1 o1 l1 c1 t1
            rw [List.append_assoc]
            have wn : wN t.1 = 1 := by unfold wN; rw [if_neg (by omega)]
            have wh : ∀ h, wH t.1 h = false :: false :: h := fun h => by unfold wH; rw [if_neg (by omega)]
            refine gX_app (ih r1 (S ++ (pw w ++ s)) t.1 o1 (by omega) (by omega)) (by omega) ?_ ?_
            · rw [trL_app, List.length_append, t1.1, pg.1, wn]; omega
            · intro s2 t2 h hh
              have q2 := tyR_app (pw w) s _ _ (pg.2 h)
              rw [t1.2 (false :: h) (by rw [List.length_cons]; omega)] at q2
              rw [tyR_app _ s2 _ _ q2, ← wh]
              exact t2 h hh
          · rw [if_neg h14]
            refine ⟨ho, ?_, pw w, rfl, ?_, fun h _ => pg.2 h⟩
            · show r.length + 1 < r.length + 1 + 1; omega
            · rw [pg.1]; show wN w + (r.length + 1) ≤ _; omega
def tyE (s : St) : Prop := ∀ h : List Bool, h.length ≤ 23 → tyR s h = some (false :: h)
def tyC (d : Nat) (s : St) : Prop := ∀ h : List Bool, h.length + 2 * d ≤ 20 → tyR s h = some (true :: h)
theorem pE_g {ts : Ts} {S : St} (h : okT ts) : gX ts.length ts.length S tyE (pE ts S) := by
  unfold pE
  refine gX_bd (pU_g (S := S) h) ?_
  intro s r1 o1 l1 c1 t1
  refine gX_app (pS_g (r1.length + 1) r1 (S ++ s) (-1) o1 (by omega) (Or.inl rfl)) (by omega) ?_ ?_
  · show (trL s).length + (r1.length + 0) ≤ _
    omega
  · intro s2 t2 h hh
    rw [tyR_app _ s2 _ _ (t1.2 h (by omega))]
    exact t2 h hh
theorem pCm_g {ts : Ts} {S : St} (h : okT ts) : gX ts.length ts.length S (fun s => ∀ h : List Bool, h.length ≤ 22 → tyR s (false :: h) = some (true :: h)) (pCm ts S) := by
  cases ts with
  | nil => exact h.elim
  | cons t r =>
    rw [pCm_c]
    by_cases c : 20 ≤ t.1 ∧ t.1 ≤ 22
    · rw [if_pos c]
      refine gX_bd (pE_g (S := S) (okT_tail h (by omega))) ?_
      intro s r1 o1 l1 c1 t1
      have k : t.1 - 3 = 17 ∨ t.1 - 3 = 18 ∨ t.1 - 3 = 19 := by omega
      generalize t.1 - 3 = x at k
      refine ⟨o1, ?_, s ++ [(x, 0)], List.append_assoc _ _ _, ?_, ?_⟩
      · rw [List.length_cons]; dsimp only; omega
      · rw [trL_app, List.length_append, List.length_cons]
        have : (trL [(x, (0 : Int))]).length = 1 := by
          rcases k with e | e | e <;> subst e <;> decide
        rw [this]
        dsimp only
        omega
      · intro h hh
        rw [tyR_app s _ _ _ (t1 (false :: h) (by rw [List.length_cons]; omega))]
        rcases k with e | e | e <;> subst e <;> rfl
    · rw [if_neg c]; exact gX_1
theorem pQ_g {ts : Ts} {S : St} {d : Nat} (h : okT ts) : gX ts.length ts.length S (tyC d) (pQ ts S) := by
  unfold pQ
  refine gX_bd (pE_g (S := S) h) ?_
  intro s r1 o1 l1 c1 t1
  refine gX_app (pCm_g (S := S ++ s) o1) (by omega) (by omega) ?_
  intro s2 t2 h hh
  rw [tyR_app _ s2 _ _ (t1 h (by omega))]
  exact t2 h (by omega)
def oH (w : Bool) (h : List Bool) : List Bool := if w = true then true :: true :: h else true :: h
def oN (w : Bool) : Nat := if w = true then 1 else 0
theorem po_g (w : Bool) : (trL (po w)).length = oN w ∧ ∀ h, tyR (po w) (oH w h) = some (true :: h) := by
  cases w
  · exact ⟨by decide, fun h => rfl⟩
  · exact ⟨by decide, fun h => rfl⟩
theorem oH_f (w : Bool) (h : List Bool) : ∃ r, oH w h = true :: r ∧ r.length ≤ h.length + 1 := by
  cases w
  · exact ⟨h, rfl, by omega⟩
  · exact ⟨true :: h, rfl, by rw [List.length_cons]; omega⟩
theorem pR_g {pc : Ts → St → PR} {d : Nat} (hp : ∀ ts S, okT ts → gX ts.length ts.length S (tyC d) (pc ts S)) (n : Nat) : ∀ (ts : Ts) (S : St) (w : Bool), okT ts → ts.length < n → gX (ts.length + 1) (ts.length + oN w) S (fun s => (∀ h : List Bool, h.length + 2 + 2 * d ≤ 20 → tyR s (oH w h) = some (true :: h))) (pR pc n ts S w) := by
  induction n with
  | zero => intro ts S w _ h; omega
  | succ n ih =>
    intro ts S w ho hn
    cases ts with
    | nil => exact ho.elim
    | cons t r =>
      rw [List.length_cons] at hn ⊢
      unfold pR
      by_cases h10 : t.1 = 10
      · rw [if_pos h10]
        refine gX_bd (hp r S (okT_tail ho (by omega))) ?_
        intro s r1 o1 l1 c1 t1
        have e : S ++ s ++ [(21, 0)] = S ++ (s ++ [(21, 0)]) := List.append_assoc _ _ _
        rw [e]
        refine gX_app (ih r1 (S ++ (s ++ [(21, 0)])) w o1 (by omega)) (by omega) ?_ ?_
        · rw [trL_app, List.length_append]
          show (trL s).length + 1 + (r1.length + oN w) ≤ _
          omega
        · intro s2 t2 h hh
          obtain ⟨x, ex, lx⟩ := oH_f w h
          have q1 := t1 (oH w h) (by rw [ex, List.length_cons]; omega)
          have q2 := tyR_app s [(21, 0)] _ _ q1
          have q3 : tyR [(21, 0)] (true :: oH w h) = some (oH w h) := by rw [ex]; rfl
          rw [q3] at q2
          rw [tyR_app _ s2 _ _ q2]
          exact t2 h hh
      · rw [if_neg h10]
        have pg := po_g w
        by_cases h9 : t.1 = 9
        · rw [if_pos h9]
          refine gX_bd (hp r (S ++ po w) (okT_tail ho (by omega))) ?_
          intro s r1 o1 l1 c1 t1
          rw [List.append_assoc]
          refine gX_app (ih r1 (S ++ (po w ++ s)) true o1 (by omega)) (by omega) ?_ ?_
          · rw [trL_app, List.length_append, pg.1]
            show oN w + (trL s).length + (r1.length + 1) ≤ _
            omega
          · intro s2 t2 h hh
            have q2 := tyR_app (po w) s _ _ (pg.2 h)
            rw [t1 (true :: h) (by rw [List.length_cons]; omega)] at q2
            rw [tyR_app _ s2 _ _ q2]
            exact t2 h hh
        · rw [if_neg h9]
          refine ⟨ho, ?_, po w, rfl, ?_, fun h _ => pg.2 h⟩
          · show r.length + 1 < r.length + 1 + 1; omega
          · rw [pg.1]; show oN w + (r.length + 1) ≤ _; omega
theorem pB_g {pc : Ts → St → PR} {d : Nat} (hp : ∀ ts S, okT ts → gX ts.length ts.length S (tyC d) (pc ts S)) {ts : Ts} {S : St} (h : okT ts) : gX ts.length ts.length S (tyC (d + 1)) (pB pc ts S) := by
  unfold pB
  refine gX_bd (hp ts S h) ?_
  intro s r1 o1 l1 c1 t1
  refine gX_app (pR_g hp (r1.length + 1) r1 (S ++ s) false o1 (by omega)) (by omega) ?_ ?_
  · show (trL s).length + (r1.length + 0) ≤ _
    omega
  · intro s2 t2 h hh
    rw [tyR_app _ s2 _ _ (t1 h (by omega))]
    exact t2 h (by omega)
theorem pX_g {k : Int} {ts : Ts} {S : St} (hk : k ≠ 23) (h : okT ts) : gX ts.length ts.length S (fun s => s = []) (pX k ts S) := by
  cases ts with
  | nil => exact h.elim
  | cons t r =>
    rw [pX_c]
    by_cases c : t.1 = k
    · rw [if_pos c]
      refine ⟨okT_tail h (by omega), ?_, [], (List.append_nil _).symm, ?_, rfl⟩
      · show r.length < r.length + 1; omega
      · show 0 + r.length ≤ r.length + 1; omega
    · rw [if_neg c]; exact gX_1
theorem pC_g (d : Nat) : ∀ (ts : Ts) (S : St), okT ts → gX ts.length ts.length S (tyC d) (pC d ts S) := by
  induction d with
  | zero =>
    intro ts S h
    cases ts with
    | nil => exact h.elim
    | cons t r =>
      unfold pC
      split
      · exact gX_3
      · exact pQ_g h
  | succ d ih =>
    intro ts S h
    cases ts with
    | nil => exact h.elim
    | cons t r =>
      unfold pC
      by_cases h18 : t.1 = 18
      · rw [if_pos h18]
        refine gX_bd (pB_g ih (S := S) (okT_tail h (by omega))) ?_
        intro s r1 o1 l1 c1 t1
        rw [List.length_cons]
        refine gX_app (pX_g (S := S ++ s) (by omega) o1) (by omega) (by omega) ?_
        intro s2 t2
        rw [t2, List.append_nil]
        exact t1
      · rw [if_neg h18]
        by_cases h11 : t.1 = 11
        · rw [if_pos h11]
          refine gX_bd (ih r S (okT_tail h (by omega))) ?_
          intro s r1 o1 l1 c1 t1
          refine ⟨o1, ?_, s ++ [(20, 0)], List.append_assoc _ _ _, ?_, ?_⟩
          · rw [List.length_cons]; dsimp only; omega
          · rw [trL_app, List.length_append, List.length_cons]
            show (trL s).length + 1 + r1.length ≤ _
            omega
          · intro h hh
            rw [tyR_app s _ _ _ (t1 h (by omega))]
            rfl
        · rw [if_neg h11]; exact pQ_g h
