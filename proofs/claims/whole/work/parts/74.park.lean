/-! text: how the class reads -/
def ad (M : xM) (v : Int) : xM := if M 41 1 < 400 then xup (xup M 42 (M 41 1) v) 41 1 (M 41 1 + 1) else M
theorem addK_e {M : xM} {v : Int} (h : 0 ≤ M 41 1 ∧ M 41 1 ≤ 400) : fX9_add M v = some (ad M v) := by
  unfold fX9_add ad
  rw [wr_id (x := M 41 1) (by omega) (by omega), wr_id (x := 400) (by omega) (by omega)]
  by_cases c : M 41 1 < 400
  · rw [if_pos c, if_pos c, xwt_at h.1 c (by omega), xup_o (by omega)]
    rfl
  · rw [if_neg c, if_neg c]
theorem ad_o {M : xM} {v : Int} {o : Nat} (h1 : o ≠ 41) (h2 : o ≠ 42) : ad M v o = M o := by
  unfold ad
  split
  · rw [xup_o h1, xup_o h2]
  · rfl
theorem ad_j {M : xM} {v j : Int} (h : j ≠ 1) : ad M v 41 j = M 41 j := by
  unfold ad
  split
  · rw [xup_n h, xup_o (by omega)]
  · rfl
theorem ad_r {M : xM} {v : Int} (h : 0 ≤ M 41 1 ∧ M 41 1 ≤ 400) : 0 ≤ ad M v 41 1 ∧ ad M v 41 1 ≤ 400 := by
  unfold ad
  split
  · rw [xup_e rfl]; omega
  · exact h
def cD (M : xM) (D : List Int) : Prop := M 41 1 = D.length ∧ ∀ i : Nat, i < D.length → M 42 i = D.getD i 0
theorem getD_app1 {D E : List Int} {i : Nat} (h : i < D.length) : (D ++ E).getD i 0 = D.getD i 0 := by
  rw [List.getD_eq_getElem?_getD, List.getD_eq_getElem?_getD, List.getElem?_append_left h]
theorem getD_app2 {D : List Int} {v : Int} : (D ++ [v]).getD D.length 0 = v := by
  rw [List.getD_eq_getElem?_getD, List.getElem?_append_right (Nat.le_refl _)]
  simp
theorem cD_ad {M : xM} {D : List Int} {v : Int} (h : cD M D) (hl : D.length < 400) : cD (ad M v) (D ++ [v]) := by
  unfold ad
  rw [h.1, if_pos (by omega)]
  refine ⟨by rw [xup_e rfl, List.length_append]; show _ = ((D.length + 1 : Nat) : Int); omega, ?_⟩
  intro i hi
  rw [List.length_append] at hi
  have hi' : i < D.length + 1 := hi
  rw [xup_o (by omega), xup_s]
  by_cases c : (i : Int) = D.length
  · have : i = D.length := by omega
    subst this
    rw [if_pos c, getD_app2]
  · rw [if_neg c, getD_app1 (by omega)]
    exact h.2 i (by omega)
theorem cD_fr {M M' : xM} {D : List Int} (h : cD M D) (h1 : M' 41 1 = M 41 1) (h2 : M' 42 = M 42) : cD M' D := by
  unfold cD
  rw [h1, h2]
  exact h
def cS (M : xM) (ts : Ts) (D : List Int) (G : St) : Prop := ((0 ≤ M 36 8 ∧ M 36 8 + ts.length ≤ 401) ∧ cT M (M 36 8) ts ∧ okT ts) ∧ cD M D ∧ ((M 41 2 = 0 ∨ M 41 2 = 1) ∧ (M 41 2 = 0 → ∀ q ∈ G, q.1 ≠ 6))
def cF (M M' : xM) : Prop := (∀ o, o ≠ 36 → o ≠ 41 → o ≠ 42 → M' o = M o) ∧ (∀ j, j ≠ 1 → j ≠ 2 → j ≠ 8 → M' 36 j = M 36 j) ∧ M' 41 0 = M 41 0
theorem cF_rfl (M : xM) : cF M M := ⟨fun _ _ _ _ => rfl, fun _ _ _ _ => rfl, rfl⟩
theorem cF_tr {M M1 M2 : xM} (h : cF M M1) (k : cF M1 M2) : cF M M2 := ⟨fun o a b c => by rw [k.1 o a b c, h.1 o a b c], fun j a b c => by rw [k.2.1 j a b c, h.2.1 j a b c], by rw [k.2.2, h.2.2]⟩
theorem cF_ad {M : xM} {v : Int} : cF M (ad M v) := ⟨fun o _ b c => ad_o b c, fun j _ _ _ => by rw [ad_o (by omega) (by omega)], ad_j (by omega)⟩
theorem cF_8 {M : xM} {v : Int} : cF M (xup M 36 8 v) := ⟨fun o a _ _ => xup_o a, fun j _ _ c => xup_n c, by rw [xup_o (by omega)]⟩
theorem cF_2 {M : xM} {v : Int} : cF M (xup M 41 2 v) := ⟨fun o _ a _ => xup_o a, fun j _ _ c => by rw [xup_o (by omega)], xup_n (by omega)⟩
def cX (M M' : xM) (f : Int × Int) : Prop := cF M M' ∧ (M' 36 1 = f.1 ∧ M' 36 2 = f.2) ∧ (0 ≤ M' 41 1 ∧ M' 41 1 ≤ 400) ∧ (0 ≤ M' 36 8 ∧ M' 36 8 ≤ 400)
def cG (M M' : xM) (ts : Ts) (D : List Int) (G : St) : Prop := cF M M' ∧ (M' 36 1 = M 36 1 ∧ M' 36 2 = M 36 2) ∧ cS M' ts D G
def cO (M : xM) (D0 : List Int) (G0 : St) (x : PR) (q : Bool × xM) : Prop := match x with
  | .inl f => q.1 = false ∧ cX M q.2 f
  | .inr p => q.1 = true ∧ cG M q.2 p.2 (D0 ++ trL p.1) (G0 ++ p.1)
theorem cX_ad {M M' : xM} {f : Int × Int} {v : Int} (h : cX M M' f) : cX M (ad M' v) f := by
  obtain ⟨a, b, c, d⟩ := h
  refine ⟨cF_tr a cF_ad, ?_, ad_r c, ?_⟩
  · rw [ad_o (by omega) (by omega)]; exact b
  · rw [ad_o (by omega) (by omega)]; exact d
theorem cX_tr {M M1 M2 : xM} {f : Int × Int} (h : cF M M1) (k : cX M1 M2 f) : cX M M2 f := ⟨cF_tr h k.1, k.2⟩
theorem cG_tr {M M1 M2 : xM} {ts ts1 : Ts} {D D1 : List Int} {G G1 : St} (h : cG M M1 ts1 D1 G1) (k : cG M1 M2 ts D G) : cG M M2 ts D G := ⟨cF_tr h.1 k.1, ⟨by rw [k.2.1.1, h.2.1.1], by rw [k.2.1.2, h.2.1.2]⟩, k.2.2⟩
theorem cO_tr {M M1 : xM} {ts1 : Ts} {D1 D0 : List Int} {G1 G0 : St} {x : PR} {q : Bool × xM} (h : cG M M1 ts1 D1 G1) (k : cO M1 D0 G0 x q) : cO M D0 G0 x q := by
  cases x with
  | inl f => exact ⟨k.1, cX_tr h.1 k.2⟩
  | inr p => exact ⟨k.1, cG_tr h k.2⟩
theorem cG_rfl {M : xM} {ts : Ts} {D : List Int} {G : St} (h : cS M ts D G) : cG M M ts D G := ⟨cF_rfl M, ⟨rfl, rfl⟩, h⟩
/-- one token on -/
theorem cG_nx {M : xM} {t : Int × Int × Int} {r : Ts} {D : List Int} {G : St} (h : cS M (t :: r) D G) (hn : t.1 ≠ 23) : cG M (xup M 36 8 (M 36 8 + 1)) r D G := by
  obtain ⟨⟨⟨a, b⟩, c, o⟩, d, f⟩ := h
  rw [List.length_cons] at b
  refine ⟨cF_8, ⟨xup_n (by omega), xup_n (by omega)⟩, ⟨⟨by rw [xup_e rfl]; omega, by rw [xup_e rfl]; omega⟩, ?_, okT_tail o hn⟩, cD_fr d (by rw [xup_o (by omega)]) (xup_o (by omega)), ?_⟩
  · rw [xup_e rfl]
    exact cT_fr (xup_o (by omega)) (xup_o (by omega)) (xup_o (by omega)) r _ c.2
  · rw [xup_o (by omega)]; exact f
theorem cG_ad {M : xM} {ts : Ts} {D : List Int} {G : St} {v : Int} (h : cS M ts D G) (hl : D.length < 400) : cG M (ad M v) ts (D ++ [v]) G := by
  obtain ⟨⟨a, c, o⟩, d, f⟩ := h
  refine ⟨cF_ad, ⟨by rw [ad_o (by omega) (by omega)], by rw [ad_o (by omega) (by omega)]⟩, ⟨by rw [ad_o (by omega) (by omega)]; exact a, ?_, o⟩, cD_ad d hl, by rw [ad_j (by omega)]; exact f⟩
  rw [ad_o (by omega) (by omega)]
  exact cT_fr (ad_o (by omega) (by omega)) (ad_o (by omega) (by omega)) (ad_o (by omega) (by omega)) ts _ c
theorem cG_2 {M : xM} {ts : Ts} {D : List Int} {G G' : St} {v : Int} (h : cS M ts D G) (hv : v = 0 ∨ v = 1) (hg : v = 0 → ∀ q ∈ G', q.1 ≠ 6) : cG M (xup M 41 2 v) ts D G' := by
  obtain ⟨⟨a, c, o⟩, d, f⟩ := h
  refine ⟨cF_2, ⟨by rw [xup_o (by omega)], by rw [xup_o (by omega)]⟩, ⟨by rw [xup_o (by omega)]; exact a, ?_, o⟩, cD_fr d (xup_n (by omega)) (xup_o (by omega)), by rw [xup_e rfl]; exact ⟨hv, hg⟩⟩
  rw [xup_o (by omega)]
  exact cT_fr (xup_o (by omega)) (xup_o (by omega)) (xup_o (by omega)) ts _ c
theorem cS_g {M : xM} {ts : Ts} {D : List Int} {G G' : St} (h : cS M ts D G) (hg : ∀ q ∈ G', q.1 = 6 → q ∈ G) : cS M ts D G' := ⟨h.1, h.2.1, h.2.2.1, fun e q hq h6 => h.2.2.2 e q (hg q hq h6) h6⟩
theorem cS_at {M : xM} {t : Int × Int × Int} {r : Ts} {D : List Int} {G : St} (h : cS M (t :: r) D G) : (0 ≤ M 36 8 ∧ M 36 8 < 401) ∧ (M 38 (M 36 8) = t.1 ∧ M 39 (M 36 8) = t.2.1 ∧ (t.1 = 12 → M 40 (M 36 8) = t.2.2)) ∧ (0 ≤ t.1 ∧ t.1 ≤ 24) ∧ (0 ≤ M 41 1 ∧ M 41 1 = D.length) ∧ (t.1 = 12 → 0 ≤ t.2.2 ∧ t.2.2 ≤ 9999) := by
  obtain ⟨⟨⟨a, b⟩, c, o⟩, d, f⟩ := h
  rw [List.length_cons] at b
  have d1 := d.1
  exact ⟨by omega, c.1, o.1.1, by omega, o.1.2.2⟩
def fl (M : xM) (v : Int) : xM := xup (xup M 36 1 v) 36 2 (M 39 (M 36 8))
theorem fail_e {M : xM} {v : Int} (h : 0 ≤ M 36 8 ∧ M 36 8 < 401) : fX7_fail M v = some (false, fl M v) := by
  unfold fX7_fail
  have e : xup M 36 1 v 36 8 = M 36 8 := xup_n (by omega)
  unfold xlet
  dsimp only
  rw [e, xrd_at h.1 h.2 (by omega), xup_o (by omega)]
  rfl
theorem cX_fl {M : xM} {v p : Int} (h : 0 ≤ M 36 8 ∧ M 36 8 < 401) (hp : M 39 (M 36 8) = p) (h1 : 0 ≤ M 41 1 ∧ M 41 1 ≤ 400) : cX M (fl M v) (v, p) := by
  unfold fl
  refine ⟨⟨fun o a _ _ => by rw [xup_o a, xup_o a], fun j a b c => by rw [xup_n b, xup_n a], by rw [xup_o (by omega), xup_o (by omega)]⟩, ⟨by rw [xup_n (by omega), xup_e rfl], by rw [xup_e rfl]; exact hp⟩, by rw [xup_o (by omega), xup_o (by omega)]; exact h1, by rw [xup_n (by omega), xup_n (by omega)]; omega⟩
theorem expect_e {M : xM} {ts : Ts} {D0 : List Int} {G0 S : St} {k : Int} (hk : 0 ≤ k ∧ k ≤ 24 ∧ k ≠ 23) (h : cS M ts (D0 ++ trL S) (G0 ++ S)) (hp : (D0 ++ trL S).length ≤ 400) : yk (fX7_expect M k) (cO M D0 G0 (pX k ts S)) := by
  cases ts with
  | nil => exact h.1.2.2.elim
  | cons t r =>
    have a := cS_at h
    unfold fX7_expect
    rw [pX_c, xrd_at a.1.1 a.1.2 (by omega), a.2.1.1, wr_id (x := t.1) (by omega) (by omega), wr_id (x := k) (by omega) (by omega)]
    by_cases c : t.1 = k
    · rw [if_pos c, if_pos c, yk_xlet, yk_some]
      exact ⟨rfl, cG_nx h (by omega)⟩
    · rw [if_neg c, if_neg c, fail_e a.1, yk_xb2, yk_some, yk_some]
      exact ⟨rfl, cX_fl a.1 a.2.1.2.1 (by omega)⟩
theorem xnot_k {k : Int} (h : 0 ≤ k ∧ k ≤ 30) : xxor k (-1) = -k - 1 := by
  obtain ⟨a, rfl⟩ := Int.eq_ofNat_of_zero_le h.1
  have h4 : a < 31 := by omega
  clear h
  revert a
  decide
theorem unitK_e {M : xM} {ts : Ts} {D0 : List Int} {G0 S : St} (h : cS M ts (D0 ++ trL S) (G0 ++ S)) (hp : (D0 ++ trL S).length + ts.length ≤ 401) : yk (fX7_readUnit M) (cO M D0 G0 (pU ts S)) := by
  cases ts with
  | nil => exact h.1.2.2.elim
  | cons t r =>
    have a := cS_at h
    rw [List.length_cons] at hp
    have okr : t.1 ≠ 23 → 1 ≤ r.length := fun hn => okT_pos (okT_tail h.1.2.2 hn)
    unfold fX7_readUnit
    rw [pU_c, xrd_at a.1.1 a.1.2 (by omega), a.2.1.1, wr_id (x := t.1) (by omega) (by omega), wr_id (x := 12) (by omega) (by omega), yk_xj]
    by_cases c : t.1 = 12
    · have := okr (by omega)
      rw [if_pos c, if_pos c, xrd_at a.1.1 a.1.2 (by omega), a.2.1.2.2 c, addK_e (by omega), xb_some, yk_xlet, yk_some]
      have g1 := cG_ad (v := t.2.2) h (by omega)
      have g2 := cG_nx g1.2.2 (by omega)
      have e : D0 ++ trL S ++ [t.2.2] = D0 ++ trL (S ++ [(0, t.2.2)]) := by rw [trL_app, List.append_assoc]; rfl
      rw [e] at g2
      refine ⟨rfl, cG_tr g1 ⟨g2.1, g2.2.1, cS_g g2.2.2 ?_⟩⟩
      intro q hq h6
      rw [← List.append_assoc, List.mem_append] at hq
      rcases hq with u | u
      · exact u
      · rw [List.mem_singleton] at u
        rw [u] at h6
        dsimp only at h6
        omega
    · rw [if_neg c, if_neg c, xrd_at a.1.1 a.1.2 (by omega), a.2.1.1, wr_id (x := t.1) (by omega) (by omega), wr_id (x := 7) (by omega) (by omega)]
      by_cases c7 : t.1 < 7
      · have := okr (by omega)
        rw [if_pos c7, if_pos c7, xrd_at a.1.1 a.1.2 (by omega), a.2.1.1, xnot_k (by omega), addK_e (by omega), xb_some, yk_xj, yk_xj]
        have g1 := cG_ad (v := -t.1 - 1) h (by omega)
        have e : D0 ++ trL S ++ [-t.1 - 1] = D0 ++ trL (S ++ [(t.1 + 1, t.2.2)]) := by
          rw [trL_app, List.append_assoc, trL_one]
          unfold trS
          dsimp only
          rw [if_neg (by omega), if_pos (by omega)]
          have : -t.1 - 1 = -(t.1 + 1) := by omega
          rw [this]
        rw [e] at g1
        have a1 := cS_at g1.2.2
        have fin : ∀ b : Bool, (b = false → M 41 2 = 0 ∧ t.1 ≠ 5) → yk (xlet (xup (ad M (-t.1 - 1)) 41 2 (b2i b)) fun M14 => xlet (xup M14 36 8 ((M14 36 8) + 1)) fun M4 => some (true, M4)) (cO M D0 G0 (.inr (S ++ [(t.1 + 1, t.2.2)], r))) := by
          intro b hb
          rw [yk_xlet, yk_xlet, yk_some]
          have g2 := cG_2 (G' := G0 ++ (S ++ [(t.1 + 1, t.2.2)])) (v := b2i b) g1.2.2 (by cases b <;> decide) (by
            intro hb0 q hq h6
            have b0 : b = false := by cases b with
              | false => rfl
              | true => exact absurd hb0 (by decide)
            have w := hb b0
            rw [← List.append_assoc, List.mem_append] at hq
            rcases hq with u | u
            · exact h.2.2.2 w.1 q u h6
            · rw [List.mem_singleton] at u
              rw [u] at h6
              dsimp only at h6
              omega)
          have g3 := cG_nx g2.2.2 (by omega)
          exact ⟨rfl, cG_tr g1 (cG_tr g2 g3)⟩
        have f2 := h.2.2.1
        rw [ad_j (by omega), wr_id (x := M 41 2) (by omega) (by omega)]
        have k1 : wr (1 : Int) ≠ 0 := by decide
        by_cases z : M 41 2 = 0
        · rw [if_pos z, xrd_at a1.1.1 a1.1.2 (by omega), a1.2.1.1, wr_id (x := t.1) (by omega) (by omega), wr_id (x := 5) (by omega) (by omega)]
          by_cases z5 : t.1 = 5
          · rw [if_pos z5]
            exact fin true (fun w => absurd w (by decide))
          · rw [if_neg z5]
            exact fin false (fun _ => ⟨z, z5⟩)
        · rw [if_neg z]
          exact fin true (fun w => absurd w (by decide))
      · rw [if_neg c7, if_neg c7, fail_e a.1, yk_xb2, yk_some, yk_some]
        exact ⟨rfl, cX_fl a.1 a.2.1.2.1 (by omega)⟩
theorem divK_e {M : xM} {ts : Ts} {D0 : List Int} {G0 S : St} (h : cS M ts (D0 ++ trL S) (G0 ++ S)) (hp : (D0 ++ trL S).length + ts.length ≤ 401) : yk (fX7_readDivisor M) fun q => match pD ts S with
    | .inl f => q.1 = false ∧ cX M q.2 f
    | .inr p => q.1 = true ∧ ∃ v, p.1 = S ++ [(16, v)] ∧ cG M q.2 p.2 (D0 ++ trL S ++ [v]) (G0 ++ S) := by
  cases ts with
  | nil => exact h.1.2.2.elim
  | cons t r =>
    have a := cS_at h
    rw [List.length_cons] at hp
    have okr : t.1 ≠ 23 → 1 ≤ r.length := fun hn => okT_pos (okT_tail h.1.2.2 hn)
    unfold fX7_readDivisor
    rw [pD_c, xrd_at a.1.1 a.1.2 (by omega), a.2.1.1, wr_id (x := t.1) (by omega) (by omega), wr_id (x := 12) (by omega) (by omega)]
    by_cases c : t.1 = 12
    · have := okr (by omega)
      have v := a.2.2.2.2 c
      rw [if_pos c, if_pos c, xrd_at a.1.1 a.1.2 (by omega), xrd_at a.1.1 a.1.2 (by omega), a.2.1.2.2 c, wr_id (x := t.2.2) (by omega) (by omega)]
      by_cases z : t.2.2 = 0
      · rw [if_pos z, if_pos z, fail_e a.1, yk_xb2, yk_some, yk_some]
        exact ⟨rfl, cX_fl a.1 a.2.1.2.1 (by omega)⟩
      · rw [if_neg z, if_neg z, addK_e (by omega), xb_some, yk_xlet, yk_some]
        have g1 := cG_ad (v := t.2.2) h (by omega)
        exact ⟨rfl, _, rfl, cG_tr g1 (cG_nx g1.2.2 (by omega))⟩
    · rw [if_neg c, if_neg c, fail_e a.1, yk_xb2, yk_some, yk_some]
      exact ⟨rfl, cX_fl a.1 a.2.1.2.1 (by omega)⟩
theorem esumK_0 {M : xM} {w v3 : Int} (n : Nat) : fX7_readSum_L9 (n + 1) M w 0 v3 = some (w, 0, M) := by
  unfold fX7_readSum_L9
  rw [if_pos wr_0]
  split <;> rfl
