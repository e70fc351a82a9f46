/-! text: how the reference reads -/
def rG (M : xM) (G : St) : Prop := M 94 11 = G.length ∧ ∀ i : Nat, i < G.length → M 99 (2 * i) = (G.getD i (0, 0)).1 ∧ M 99 (2 * i + 1) = (G.getD i (0, 0)).2
def rS (M : xM) (ts : Ts) (G : St) (d : Int) : Prop := tO M ∧ rT M ts ∧ okT ts ∧ rG M G ∧ M 94 20 = d
def rF (M M' : xM) : Prop := (∀ o, o ≠ 94 → o ≠ 99 → M' o = M o) ∧ ∀ j, j ≠ 11 → (j < 13 ∨ 18 < j) → j ≠ 20 → M' 94 j = M 94 j
theorem rF_rfl (M : xM) : rF M M := ⟨fun _ _ _ => rfl, fun _ _ _ _ => rfl⟩
theorem rF_tr {M M1 M2 : xM} (h : rF M M1) (k : rF M1 M2) : rF M M2 := ⟨fun o a b => by rw [k.1 o a b, h.1 o a b], fun j a b c => by rw [k.2 j a b c, h.2 j a b c]⟩
theorem nF_rF {M M' : xM} (h : nF M M') : rF M M' := ⟨fun o a _ => h.1 o a, fun j _ b _ => h.2 j (by omega) (by omega) (by omega) (by omega)⟩
def rX (M M' : xM) (f : Int × Int) : Prop := rF M M' ∧ M' 94 17 = f.1 ∧ M' 94 18 = f.2
def rH (M M' : xM) (ts : Ts) (G : St) (d : Int) : Prop := rF M M' ∧ M' 94 17 = M 94 17 ∧ rS M' ts G d
def rO (M : xM) (G0 : St) (d : Int) (x : PR) (q : Bool × xM) : Prop := match x with
  | .inl f => q.1 = false ∧ rX M q.2 f
  | .inr p => q.1 = true ∧ rH M q.2 p.2 (G0 ++ p.1) d
theorem rX_tr {M M1 M2 : xM} {f : Int × Int} (h : rF M M1) (k : rX M1 M2 f) : rX M M2 f := ⟨rF_tr h k.1, k.2⟩
theorem rH_tr {M M1 M2 : xM} {ts ts1 : Ts} {G G1 : St} {d d1 : Int} (h : rH M M1 ts1 G1 d1) (k : rH M1 M2 ts G d) : rH M M2 ts G d := ⟨rF_tr h.1 k.1, by rw [k.2.1, h.2.1], k.2.2⟩
theorem rO_tr {M M1 : xM} {ts1 : Ts} {G1 G0 : St} {d d1 : Int} {x : PR} {q : Bool × xM} (h : rH M M1 ts1 G1 d1) (k : rO M1 G0 d x q) : rO M G0 d x q := by
  cases x with
  | inl f => exact ⟨k.1, rX_tr h.1 k.2⟩
  | inr p => exact ⟨k.1, rH_tr h k.2⟩
theorem rH_rfl {M : xM} {ts : Ts} {G : St} {d : Int} (h : rS M ts G d) : rH M M ts G d := ⟨rF_rfl M, rfl, h⟩
theorem rT_fr {M M' : xM} {ts : Ts} (h : rT M ts) (h100 : M' 100 = M 100) (hj : ∀ j, 12 ≤ j → j ≤ 16 → M' 94 j = M 94 j) : rT M' ts := by
  obtain ⟨t, r, e, a, b⟩ := h
  refine ⟨t, r, e, ?_, ?_⟩
  · rw [hj 14 (by omega) (by omega), hj 15 (by omega) (by omega), hj 16 (by omega) (by omega)]; exact a
  · rw [h100, hj 12 (by omega) (by omega), hj 13 (by omega) (by omega), hj 16 (by omega) (by omega)]; exact b
theorem tO_fr {M M' : xM} (h : tO M) (h100 : M' 100 = M 100) (h12 : M' 94 12 = M 94 12) : tO M' := by
  unfold tO
  rw [h100, h12]
  exact h
theorem rG_fr {M M' : xM} {G : St} (h : rG M G) (h99 : M' 99 = M 99) (h11 : M' 94 11 = M 94 11) : rG M' G := by
  unfold rG
  rw [h99, h11]
  exact h
def ly (M : xM) (k v : Int) : xM := xup (xup (xup M 99 (2 * M 94 11) k) 99 (2 * M 94 11 + 1) v) 94 11 (M 94 11 + 1)
theorem lay_e {M : xM} {k v : Int} (h : 0 ≤ M 94 11 ∧ M 94 11 < 410) : fX12_lay M k v = some (ly M k v) := by
  unfold fX12_lay
  rw [xwt_at (by omega) (by omega) (by omega), xup_o (by omega), xwt_at (by omega) (by omega) (by omega), xup_o (by omega), xup_o (by omega)]
  rfl
theorem getP_1 {G E : St} {i : Nat} (h : i < G.length) : (G ++ E).getD i (0, 0) = G.getD i (0, 0) := by
  rw [List.getD_eq_getElem?_getD, List.getD_eq_getElem?_getD, List.getElem?_append_left h]
theorem getP_2 {G : St} {v : Int × Int} : (G ++ [v]).getD G.length (0, 0) = v := by
  rw [List.getD_eq_getElem?_getD, List.getElem?_append_right (Nat.le_refl _)]
  simp
theorem rH_ly {M : xM} {ts : Ts} {G : St} {d k v : Int} (h : rS M ts G d) : rH M (ly M k v) ts (G ++ [(k, v)]) d := by
  obtain ⟨h1, h2, h3, h4, h5⟩ := h
  have l99 : ∀ j, ly M k v 99 j = if j = 2 * M 94 11 + 1 then v else if j = 2 * M 94 11 then k else M 99 j := fun j => by unfold ly; rw [xup_o (by omega), xup_s, xup_s]
  have l94 : ∀ j, j ≠ 11 → ly M k v 94 j = M 94 j := fun j hj => by unfold ly; rw [xup_n hj, xup_o (by omega), xup_o (by omega)]
  have lo : ∀ o, o ≠ 94 → o ≠ 99 → ly M k v o = M o := fun o a b => by unfold ly; rw [xup_o a, xup_o b, xup_o b]
  have l11 : ly M k v 94 11 = M 94 11 + 1 := by unfold ly; rw [xup_e rfl]
  refine ⟨⟨lo, fun j a _ _ => l94 j a⟩, l94 17 (by omega), tO_fr h1 (lo 100 (by omega) (by omega)) (l94 12 (by omega)), rT_fr h2 (lo 100 (by omega) (by omega)) (fun j _ _ => l94 j (by omega)), h3, ⟨?_, ?_⟩, by rw [l94 20 (by omega)]; exact h5⟩
  · rw [l11, h4.1, List.length_append]; show _ = ((G.length + 1 : Nat) : Int); omega
  · intro i hi
    rw [List.length_append] at hi
    have hi' : i < G.length + 1 := hi
    have e := h4.1
    rw [l99, l99, e]
    by_cases c : i = G.length
    · subst c
      rw [if_neg (by omega), if_pos rfl, if_pos rfl, getP_2]
      exact ⟨rfl, rfl⟩
    · rw [if_neg (by omega), if_neg (by omega), if_neg (by omega), if_neg (by omega), getP_1 (by omega)]
      exact h4.2 i (by omega)
theorem rH_nx {M : xM} {t : Int × Int × Int} {r : Ts} {G : St} {d : Int} (h : rS M (t :: r) G d) (hn : t.1 ≠ 23) : yk (fX12_next0 M) fun M' => rH M M' r G d := by
  obtain ⟨h1, h2, h3, h4, h5⟩ := h
  obtain ⟨t', r', e, a, b⟩ := h2
  obtain ⟨e1, e2⟩ := List.cons.inj e
  subst e1 e2
  obtain ⟨k, b1, b2, b3, b4⟩ := b hn
  refine yk.mono (next0_e (k := k) h1 b3 b4 b2) ?_
  intro M' q
  obtain ⟨q1, q2⟩ := q
  rw [← b1] at q2
  refine ⟨nF_rF q1, q1.2 17 (by omega) (by omega) (by omega) (by omega), tO_fr h1 (q1.1 100 (by omega)) (q1.2 12 (by omega) (by omega) (by omega) (by omega)), q2, okT_tail h3 hn, rG_fr h4 (q1.1 99 (by omega)) (q1.2 11 (by omega) (by omega) (by omega) (by omega)), by rw [q1.2 20 (by omega) (by omega) (by omega) (by omega)]; exact h5⟩
theorem rS_at {M : xM} {t : Int × Int × Int} {r : Ts} {G : St} {d : Int} (h : rS M (t :: r) G d) : (M 94 14 = tk t.1 ∧ M 94 15 = t.2.1 ∧ M 94 16 = t.2.2) ∧ (0 ≤ t.1 ∧ t.1 ≤ 24) ∧ (t.1 = 12 → 0 ≤ t.2.2 ∧ t.2.2 ≤ 9999) ∧ (0 ≤ M 94 11 ∧ M 94 11 = G.length) := by
  obtain ⟨h1, h2, h3, h4, h5⟩ := h
  obtain ⟨t', r', e, a, b⟩ := h2
  obtain ⟨e1, e2⟩ := List.cons.inj e
  subst e1 e2
  have l := h4.1
  exact ⟨a, h3.1.1, h3.1.2.2, by omega, l⟩
theorem tk_i {k a : Int} (hk : 0 ≤ k ∧ k ≤ 24) (ha : 0 ≤ a ∧ a ≤ 24) : wr (tk k) = wr (tk a) ↔ k = a := by
  have key : ∀ x : Nat, x < 25 → ∀ y : Nat, y < 25 → (wr (tk (x : Int)) = wr (tk (y : Int)) ↔ x = y) := by decide +kernel
  obtain ⟨x, rfl⟩ := Int.eq_ofNat_of_zero_le hk.1
  obtain ⟨y, rfl⟩ := Int.eq_ofNat_of_zero_le ha.1
  rw [key x (by omega) y (by omega)]
  omega
theorem tkis {M : xM} {k : Int} (h : M 94 14 = tk k) (hk : 0 ≤ k ∧ k ≤ 24) (a c : Int) (hc : c = tk a) (ha : 0 ≤ a ∧ a ≤ 24) : (wr (M 94 14) = wr c) = (k = a) := by
  rw [h, hc]
  exact propext (tk_i hk ha)
theorem tk_nm {k : Int} (hk : 0 ≤ k ∧ k ≤ 24) : (0 ≤ tk k ∧ tk k ≤ 200) ∧ (41 ≤ tk k ∧ tk k ≤ 47 ↔ k < 7) ∧ (k < 7 → tk k = k + 41) := by
  have key : ∀ x : Nat, x < 25 → (0 ≤ tk (x : Int) ∧ tk (x : Int) ≤ 200) ∧ (41 ≤ tk (x : Int) ∧ tk (x : Int) ≤ 47 ↔ x < 7) ∧ (x < 7 → tk (x : Int) = (x : Int) + 41) := by decide +kernel
  obtain ⟨x, rfl⟩ := Int.eq_ofNat_of_zero_le hk.1
  have := key x (by omega)
  refine ⟨this.1, ?_, fun h => this.2.2 (by omega)⟩
  show 41 ≤ tk (x : Int) ∧ tk (x : Int) ≤ 47 ↔ _
  rw [this.2.1]
  omega
theorem bad_e {M : xM} {v : Int} : fX12_bad M v = some (false, xup (xup M 94 17 v) 94 18 (M 94 15)) := rfl
theorem rX_bad {M : xM} {v p : Int} (hp : M 94 15 = p) : rX M (xup (xup M 94 17 v) 94 18 (M 94 15)) (v, p) := ⟨⟨fun o a _ => by rw [xup_o a, xup_o a], fun j _ b _ => by rw [xup_n (by omega), xup_n (by omega)]⟩, by rw [xup_n (by omega), xup_e rfl], by rw [xup_e rfl]; exact hp⟩
theorem unitM_e {M : xM} {ts : Ts} {G0 S : St} {d : Int} (h : rS M ts (G0 ++ S) d) (hp : (G0 ++ S).length + ts.length ≤ 405) : yk (fX12_unit M) (rO M G0 d (pU ts S)) := by
  cases ts with
  | nil => exact h.2.2.1.elim
  | cons t r =>
    have a := rS_at h
    have nm := tk_nm a.2.1
    rw [List.length_cons] at hp
    have t14 := a.1.1
    unfold fX12_unit
    rw [pU_c, isIn_eq (by omega) (by omega) (by omega) (by omega) (by omega) (by omega)]
    simp only [xj, decide_eq_true_eq, tkis t14 a.2.1 12 2 (by decide) (by omega)]
    have nmi : (41 ≤ M 94 14 ∧ M 94 14 ≤ 47) = (t.1 < 7) := by rw [t14]; exact propext nm.2.1
    simp only [nmi]
    rw [lay_e (by omega), lay_e (by omega), xb_some, xb_some]
    have go : ∀ k, t.1 ≠ 23 → yk (xb (fX12_next0 (ly M k (M 94 16))) fun M7 => some (true, M7)) (rO M G0 d (.inr (S ++ [(k, t.2.2)], r))) := by
      intro k hn
      rw [a.1.2.2]
      have g1 := rH_ly (k := k) (v := t.2.2) h
      rw [List.append_assoc] at g1
      rw [yk_xb]
      refine yk.mono (rH_nx g1.2.2 hn) ?_
      intro M' g2
      rw [yk_some]
      exact ⟨rfl, rH_tr g1 g2⟩
    by_cases c : t.1 = 12
    · rw [if_pos c, if_pos c, if_neg (by omega)]
      exact go 0 (by omega)
    · rw [if_neg c, if_neg c]
      by_cases c7 : t.1 < 7
      · have e : M 94 14 - 40 = t.1 + 1 := by rw [t14, nm.2.2 c7]; omega
        rw [if_pos c7, if_pos c7, if_pos c7, e]
        exact go _ (by omega)
      · rw [if_neg c7, if_neg c7, bad_e, yk_xb2, yk_some, yk_some]
        exact ⟨rfl, rX_bad a.1.2.1⟩
/-! fuel -/
theorem pU_len {ts : Ts} {S : St} {q : St × Ts} (h : pU ts S = .inr q) : q.2.length < ts.length := by
  cases ts with
  | nil => exact absurd h (by simp [pU])
  | cons t r =>
    rw [pU_c] at h
    rw [List.length_cons]
    split at h
    · rw [← Sum.inr.inj h]; exact Nat.lt_succ_self _
    · split at h
      · rw [← Sum.inr.inj h]; exact Nat.lt_succ_self _
      · exact absurd h (by simp)
theorem pD_len {ts : Ts} {S : St} {q : St × Ts} (h : pD ts S = .inr q) : q.2.length < ts.length := by
  cases ts with
  | nil => exact absurd h (by simp [pD])
  | cons t r =>
    rw [pD_c] at h
    rw [List.length_cons]
    split at h
    · split at h
      · exact absurd h (by simp)
      · rw [← Sum.inr.inj h]; exact Nat.lt_succ_self _
    · exact absurd h (by simp)
theorem pbd_ext {x : PR} {F F' : St → Ts → PR} (h : ∀ q, x = .inr q → F q.1 q.2 = F' q.1 q.2) : pbd x F = pbd x F' := by
  cases x with
  | inl f => rfl
  | inr q => exact h q rfl
theorem pS_k (k : Nat) : ∀ (k' : Nat) (ts : Ts) (S : St) (w : Int), ts.length < k → ts.length < k' → pS k ts S w = pS k' ts S w := by
  induction k with
  | zero => intro k' ts S w h; omega
  | succ k ih =>
    intro k' ts S w h h'
    obtain ⟨k', rfl⟩ : ∃ m, k' = m + 1 := ⟨k' - 1, by omega⟩
    cases ts with
    | nil => rfl
    | cons t r =>
      rw [List.length_cons] at h h'
      unfold pS
      by_cases c1 : t.1 = 16
      · rw [if_pos c1, if_pos c1]
        exact pbd_ext (fun q hq => by have := pU_len hq; exact ih _ _ _ _ (by omega) (by omega))
      · rw [if_neg c1, if_neg c1]
        by_cases c2 : t.1 = 17
        · rw [if_pos c2, if_pos c2]
          exact pbd_ext (fun q hq => by have := pD_len hq; exact ih _ _ _ _ (by omega) (by omega))
        · rw [if_neg c2, if_neg c2]
          by_cases c3 : t.1 = 14 ∨ t.1 = 15
          · rw [if_pos c3, if_pos c3]
            exact pbd_ext (fun q hq => by have := pU_len hq; exact ih _ _ _ _ (by omega) (by omega))
          · rw [if_neg c3, if_neg c3]
def pZ (ts : Ts) (S : St) (w : Int) : PR := pS (ts.length + 1) ts S w
theorem pZ_c {t : Int × Int × Int} {r : Ts} {S : St} {w : Int} : pZ (t :: r) S w = if t.1 = 16 then pbd (pU r S) fun S1 r1 => pZ r1 (S1 ++ [(15, 0)]) w
    else if t.1 = 17 then pbd (pD r S) fun S1 r1 => pZ r1 S1 w
    else if t.1 = 14 ∨ t.1 = 15 then pbd (pU r (S ++ pw w)) fun S1 r1 => pZ r1 S1 t.1
    else .inr (S ++ pw w, t :: r) := by
  unfold pZ
  rw [List.length_cons]
  rw [pS]
  by_cases c1 : t.1 = 16
  · rw [if_pos c1, if_pos c1]
    exact pbd_ext (fun q hq => by have := pU_len hq; exact pS_k _ _ _ _ _ (by omega) (by omega))
  · rw [if_neg c1, if_neg c1]
    by_cases c2 : t.1 = 17
    · rw [if_pos c2, if_pos c2]
      exact pbd_ext (fun q hq => by have := pD_len hq; exact pS_k _ _ _ _ _ (by omega) (by omega))
    · rw [if_neg c2, if_neg c2]
      by_cases c3 : t.1 = 14 ∨ t.1 = 15
      · rw [if_pos c3, if_pos c3]
        exact pbd_ext (fun q hq => by have := pU_len hq; exact pS_k _ _ _ _ _ (by omega) (by omega))
      · rw [if_neg c3, if_neg c3]
theorem pE_z {ts : Ts} {S : St} : pE ts S = pbd (pU ts S) fun S1 r1 => pZ r1 S1 (-1) := rfl
def noM (ts : Ts) : Prop := ∀ t r, ts = t :: r → t.1 ≠ 16 ∧ t.1 ≠ 17
theorem pZ_p {ts : Ts} {S : St} {w : Int} (ho : okT ts) (h : noM ts) : pZ ts S w = pZ ts (S ++ pw w) (-1) := by
  cases ts with
  | nil => exact ho.elim
  | cons t r =>
    have c := h t r rfl
    have e : S ++ pw w ++ pw (-1) = S ++ pw w := List.append_nil _
    rw [pZ_c, pZ_c, if_neg c.1, if_neg c.1, if_neg c.2, if_neg c.2, e]
theorem gl_app {G0 S s : St} : (G0 ++ (S ++ s)).length = (G0 ++ S).length + s.length := by
  rw [List.length_append, List.length_append, List.length_append]
  omega
