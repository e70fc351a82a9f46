/-! the turns that are best: the reference -/
theorem twM_q {M0 : xM} {set i an t : Int} (g : gW (M0 95)) (hs : 0 ≤ set ∧ set < 2147483648) (hi : 0 ≤ i ∧ i ≤ 40) (ht : 0 ≤ t ∧ t ≤ 1) (han : 0 ≤ an ∧ an < 24) (m : Nat) : ∀ (n : Nat) (M : xM) (p : Nat) (x : Int), (∀ o, o ≠ 101 → o ≠ 102 → M o = M0 o) → (p : Int) + m = M0 95 5 → m < n → yk (fX12_worthTo_L6 n M set i an t x p) fun q => q.1 = x + (sTw (M0 95) set i an t (p + m) - sTw (M0 95) set i an t p) ∧ ∀ o, o ≠ 101 → o ≠ 102 → q.2 o = M0 o := by
  have gb := g.1
  unfold gB at gb
  induction m with
  | zero =>
    intro n M p x hM h1 h2
    obtain ⟨n', rfl⟩ : ∃ n', n = n' + 1 := ⟨n - 1, by omega⟩
    unfold fX12_worthTo_L6
    rw [hM 95 (by omega) (by omega), if_neg (by rw [wr_id (by omega) (by omega), wr_id (by omega) (by omega)]; omega), yk_some]
    refine ⟨?_, hM⟩
    show x = x + (sTw (M0 95) set i an t p - sTw (M0 95) set i an t p)
    omega
  | succ m ih =>
    intro n M p x hM h1 h2
    obtain ⟨n', rfl⟩ : ∃ n', n = n' + 1 := ⟨n - 1, by omega⟩
    have e1 : sTw (M0 95) set i an t (p + 1) = sTw (M0 95) set i an t p + (if bt set p = 1 then sWorth (M0 95) p (M0 95 2 + i) an t else 0) := rfl
    have e2 : p + 1 + m = p + (m + 1) := by omega
    have e3 : (p : Int) + 1 = ((p + 1 : Nat) : Int) := by omega
    have b := bt_rng set p
    have w := hM 95 (by omega) (by omega)
    have ew : wr 1 = 1 := by decide
    unfold fX12_worthTo_L6
    rw [w, if_pos (by rw [wr_id (by omega) (by omega), wr_id (by omega) (by omega)]; omega), bit_eq hs.1 hs.2 (by omega) (by omega), wr_id (x := bt set p) (by omega) (by omega), ew, e3]
    by_cases hb : bt set p = 1
    · rw [if_pos hb, yk_xb2]
      refine yk.mono (worthOf_e (M := M) (by rw [w]; exact g) (by rw [w]; omega) (by omega) (by omega) (by omega)) ?_
      intro q hq
      refine yk.mono (ih n' q.2 (p + 1) (x + q.1) (fun o h1 h2 => by rw [hq.2 o h1 h2, hM o h1 h2]) (by omega) (by omega)) ?_
      intro z hz
      refine ⟨?_, hz.2⟩
      rw [hz.1, hq.1, w, e2, e1, if_pos hb]
      omega
    · rw [if_neg hb]
      refine yk.mono (ih n' M (p + 1) (x + 0) hM (by omega) (by omega)) ?_
      intro z hz
      refine ⟨?_, hz.2⟩
      rw [hz.1, e2, e1, if_neg hb]
      omega
theorem twM_e {M : xM} {set i an t : Int} (g : gW (M 95)) (hs : 0 ≤ set ∧ set < 2147483648) (hi : 0 ≤ i ∧ i ≤ 40) (ht : 0 ≤ t ∧ t ≤ 1) (han : 0 ≤ an ∧ an < 24) : yk (fX12_worthTo M set i an t) fun q => q.1 = sCt (M 95) set i an t ∧ ∀ o, o ≠ 101 → o ≠ 102 → q.2 o = M o := by
  have gb := g.1
  unfold gB at gb
  unfold fX12_worthTo
  rw [yk_xb2]
  refine yk.mono (twM_q g hs hi ht han (M 95 5).toNat xfuel M 0 0 (fun _ _ _ => rfl) (by omega) (by unfold xfuel; omega)) ?_
  intro q hq
  rw [yk_some]
  refine ⟨?_, hq.2⟩
  show q.1 = sTw (M 95) set i an t (M 95 5).toNat
  have e0 : sTw (M 95) set i an t 0 = 0 := rfl
  rw [hq.1, Nat.zero_add, e0]
  omega
section LB
variable {W : Int → Int} {set m : Int} {g : Bool}
theorem lb0_q {v3 : Int} (hW : 4 ≤ W 0 ∧ W 0 ≤ 24) (hm : 1 ≤ m ∧ m ≤ 30) (n : Nat) : ∀ (M : xM) (a : Int), M 95 = W → 0 ≤ a → a ≤ W 0 → W 0 - a < n → yk (fX12_laysBest_L3 n M set m v3 a) fun M' => (∀ o, o ≠ 104 → M' o = M o) ∧ ∀ j, M' 104 j = if 24 * m + a ≤ j ∧ j < 24 * m + W 0 then 0 else M 104 j := by
  induction n with
  | zero => intro M a hM h0 h1 h2; omega
  | succ n ih =>
    intro M a hM h0 h1 h2
    subst hM
    unfold fX12_laysBest_L3
    by_cases h : a < M 95 0
    · rw [if_pos (by rw [wr_id (by omega) (by omega), wr_id (by omega) (by omega)]; exact h), xwt_at (by omega) (by omega) (by omega)]
      refine yk.mono (ih _ (a + 1) (xup_o (by omega)) (by omega) (by omega) (by omega)) ?_
      intro M' q
      refine ⟨fun o ho => by rw [q.1 o ho, xup_o ho], ?_⟩
      intro j
      rw [q.2 j]
      by_cases hj : j = 24 * m + a
      · rw [xup_e hj, if_neg (by omega), if_pos (by omega)]
      · rw [xup_n hj]
        by_cases h5 : 24 * m + a ≤ j ∧ j < 24 * m + M 95 0
        · rw [if_pos (by omega), if_pos h5]
        · rw [if_neg (by omega), if_neg h5]
    · rw [if_neg (by rw [wr_id (by omega) (by omega), wr_id (by omega) (by omega)]; exact h)]
      exact ⟨_, rfl, fun _ _ => rfl, fun j => by rw [if_neg (by omega)]⟩
theorem lb1_e {M : xM} {v3 i a : Int} (gw : gW (M 95)) (hs : 0 ≤ set ∧ set < 2147483648) (hi : 0 ≤ i ∧ i < 30) (ha : 0 ≤ a ∧ a < M 95 0) : yk (fX12_laysBest_L60 xfuel M set v3 i a 0) fun M' => (∀ o, o ≠ 101 → o ≠ 102 → o ≠ 103 → M' o = M o) ∧ ∀ j, M' 103 j = if j = 72 * i + 3 * a + 0 then sCt (M 95) set i a 0 else if j = 72 * i + 3 * a + 1 ∨ j = 72 * i + 3 * a + 2 then sCt (M 95) set i a 1 else M 103 j := by
  have gb := gw.1
  unfold gB at gb
  have hx : ∃ y, xfuel = y + 1 + 1 + 1 + 1 := ⟨999996, by unfold xfuel; omega⟩
  obtain ⟨y, hy⟩ := hx
  have t0 : fX12_turnOf 0 = 0 := by decide
  have t1 : fX12_turnOf 1 = 1 := by decide
  have z1 : (0 : Int) + 1 = 1 := by omega
  have z2 : (1 : Int) + 1 = 2 := by omega
  have z3 : (2 : Int) + 1 = 3 := by omega
  rw [hy]
  unfold fX12_laysBest_L60 fX12_placeOf
  rw [if_pos (by decide), yk_xj, if_neg (by decide), yk_xb2, t0]
  refine yk.mono (twM_e gw hs (by omega) (by omega) (by omega)) ?_
  intro q0 h0
  have w0 := h0.2 95 (by omega) (by omega)
  dsimp only
  rw [xwt_at (by omega) (by omega) (by omega), z1]
  unfold fX12_laysBest_L60 fX12_placeOf
  rw [if_pos (by decide), yk_xj, if_neg (by decide), yk_xb2, t1]
  have w1 : xup q0.2 103 (72 * i + 3 * a + 0) q0.1 95 = M 95 := by rw [xup_o (by omega)]; exact w0
  refine yk.mono (twM_e (M := xup q0.2 103 (72 * i + 3 * a + 0) q0.1) (by rw [w1]; exact gw) hs (by omega) (by omega) (by rw [show (24 : Int) = 24 from rfl]; omega)) ?_
  intro q1 h1
  rw [w1] at h1
  dsimp only
  rw [xwt_at (by omega) (by omega) (by omega), z2]
  unfold fX12_laysBest_L60 fX12_placeOf
  rw [if_pos (by decide), yk_xj, if_pos (by decide), xrd_at (by omega) (by omega) (by omega)]
  dsimp only
  rw [xwt_at (by omega) (by omega) (by omega), xup_e rfl, z3]
  unfold fX12_laysBest_L60
  rw [if_neg (by decide), yk_some]
  refine ⟨?_, ?_⟩
  · intro o o1 o2 o3
    rw [xup_o o3, xup_o o3, h1.2 o o1 o2, xup_o o3, h0.2 o o1 o2]
  · intro j
    by_cases e2 : j = 72 * i + 3 * a + 2
    · rw [xup_e e2, if_neg (by omega), if_pos (by omega)]
      exact h1.1
    · rw [xup_n e2]
      by_cases e1 : j = 72 * i + 3 * a + 1
      · rw [xup_e e1, if_neg (by omega), if_pos (by omega)]
        exact h1.1
      · rw [xup_n e1, h1.2 103 (by omega) (by omega)]
        by_cases e0 : j = 72 * i + 3 * a + 0
        · rw [xup_e e0, if_pos e0]
          exact h0.1
        · rw [xup_n e0, if_neg e0, if_neg (by omega), h0.2 103 (by omega) (by omega)]
/-- a day's worths stand -/
def wOk (W : Int → Int) (set i : Int) (M : xM) : Prop := ∀ a k, 0 ≤ a → a < W 0 → 0 ≤ k → k ≤ 2 → M 103 (72 * i + 3 * a + k) = sCt W set i a (if k = 0 then 0 else 1)
theorem lb2_q {v3 i : Int} (gw : gW W) (hs : 0 ≤ set ∧ set < 2147483648) (hi : 0 ≤ i ∧ i < 30) (n : Nat) : ∀ (M : xM) (a : Int), M 95 = W → 0 ≤ a → a ≤ W 0 → W 0 - a < n → (∀ b k, 0 ≤ b → b < a → 0 ≤ k → k ≤ 2 → M 103 (72 * i + 3 * b + k) = sCt W set i b (if k = 0 then 0 else 1)) → yk (fX12_laysBest_L46 n M set v3 i a) fun M' => (∀ o, o ≠ 101 → o ≠ 102 → o ≠ 103 → M' o = M o) ∧ (∀ j, ¬ (72 * i ≤ j ∧ j < 72 * i + 72) → M' 103 j = M 103 j) ∧ wOk W set i M' := by
  have gb := gw.1
  unfold gB at gb
  induction n with
  | zero => intro M a hM h0 h1 h2; omega
  | succ n ih =>
    intro M a hM h0 h1 h2 hz
    subst hM
    unfold fX12_laysBest_L46
    by_cases h : a < M 95 0
    · rw [if_pos (by rw [wr_id (by omega) (by omega), wr_id (by omega) (by omega)]; exact h), yk_xb]
      refine yk.mono (lb1_e (v3 := v3) gw hs hi ⟨h0, h⟩) ?_
      intro M1 q1
      refine yk.mono (ih M1 (a + 1) (q1.1 95 (by omega) (by omega) (by omega)) (by omega) (by omega) (by omega) ?_) ?_
      · intro b k b0 b1 k0 k1
        rw [q1.2]
        by_cases e : b = a
        · subst e
          by_cases ek : k = 0
          · rw [if_pos (by omega), if_pos ek]
          · rw [if_neg (by omega), if_pos (by omega), if_neg ek]
        · rw [if_neg (by omega), if_neg (by omega)]
          exact hz b k b0 (by omega) k0 k1
      · intro M2 q2
        refine ⟨fun o o1 o2 o3 => by rw [q2.1 o o1 o2 o3, q1.1 o o1 o2 o3], ?_, q2.2.2⟩
        intro j hj
        rw [q2.2.1 j hj, q1.2, if_neg (by omega), if_neg (by omega)]
    · rw [if_neg (by rw [wr_id (by omega) (by omega), wr_id (by omega) (by omega)]; exact h)]
      exact ⟨_, rfl, fun _ _ _ _ => rfl, fun _ _ => rfl, fun b k b0 b1 k0 k1 => hz b k b0 (by omega) k0 k1⟩
theorem lb3_e {M : xM} {v3 i a : Int} {r : Nat} (gw : gW (M 95)) (hm : 1 ≤ m ∧ m ≤ 30) (hi : 0 ≤ i ∧ i < m) (hr : (r : Int) = m - (i + 1)) (hv : v3 = b2i g) (ha : 0 ≤ a ∧ a < M 95 0) (hw : wOk (M 95) set i M) (hb : ∀ q, 0 ≤ q → q < M 95 0 → M 104 (24 * (i + 1) + q) = sBf (M 95 0) (sCt (M 95) set) g m r q) : yk (fX12_laysBest_L147 xfuel M set v3 i a 0) fun M' => (∀ o, o ≠ 104 → M' o = M o) ∧ (∀ j, j ≠ 24 * i + a → M' 104 j = M 104 j) ∧ M' 104 (24 * i + a) = sBf (M 95 0) (sCt (M 95) set) g m (r + 1) a := by
  have gb := gw.1
  unfold gB at gb
  have em : m - ((r : Int) + 1) = i := by omega
  have es : sBf (M 95 0) (sCt (M 95) set) g m (r + 1) a = sOpt g (sVt (M 95 0) (sCt (M 95) set) g m r a 0) (sVt (M 95 0) (sCt (M 95) set) g m r a 1) (sVt (M 95 0) (sCt (M 95) set) g m r a (-1)) := rfl
  have vr : ∀ t, -3100000 ≤ sVt (M 95 0) (sCt (M 95) set) g m r a t ∧ sVt (M 95 0) (sCt (M 95) set) g m r a t ≤ 3100000 := by
    intro t
    have x := sCt_rng gw.1 set (m - (r + 1)) ((a + t) % M 95 0) (sTo1 t)
    have y := sBf_rng (N := M 95 0) (g := g) (m := m) (sCt_rng gw.1 set) r ((a + t) % M 95 0)
    unfold sVt
    omega
  have v0 := vr 0
  have v1 := vr 1
  have v2 := vr (-1)
  have val : ∀ (Q : xM) (k t : Int), (∀ o, o ≠ 104 → Q o = M o) → (∀ j, j ≠ 24 * i + a → Q 104 j = M 104 j) → 0 ≤ k → k ≤ 2 → fX12_turnOf k = t → -1 ≤ t → t ≤ 1 → (k = 0 ↔ t = 0) → fX12_modulo Q (a + fX12_turnOf k) = some ((a + t) % M 95 0) ∧ Q 103 (72 * i + 3 * ((a + t) % M 95 0) + k) + Q 104 (24 * (i + 1) + (a + t) % M 95 0) = sVt (M 95 0) (sCt (M 95) set) g m r a t ∧ (0 ≤ (a + t) % M 95 0 ∧ (a + t) % M 95 0 < M 95 0) := by
    intro Q k t f1 f2 k0 k1 ht t0 t1 hkt
    have md := md_rng (a := a + t) (n := M 95 0) (by omega)
    refine ⟨?_, ?_, md⟩
    · rw [ht, modulo_eq (by rw [f1 95 (by omega)]; omega) (by rw [f1 95 (by omega)]; omega) (by omega) (by omega), f1 95 (by omega)]
    · rw [f1 103 (by omega), f2 _ (by omega), hw _ _ md.1 md.2 k0 k1, hb _ md.1 md.2]
      unfold sVt sTo1
      rw [em]
      by_cases hk : k = 0
      · rw [if_pos hk, if_pos (hkt.mp hk)]
      · rw [if_neg hk, if_neg (fun w => hk (hkt.mpr w))]
  have hx : ∃ y, xfuel = y + 1 + 1 + 1 + 1 := ⟨999996, by unfold xfuel; omega⟩
  obtain ⟨y, hy⟩ := hx
  have z1 : (0 : Int) + 1 = 1 := by omega
  have z2 : (1 : Int) + 1 = 2 := by omega
  have z3 : (2 : Int) + 1 = 3 := by omega
  -- one turn of the loop behind the first
  have step : ∀ (n : Nat) (Q : xM) (k t cur : Int) (P : xM → Prop), (∀ o, o ≠ 104 → Q o = M o) → (∀ j, j ≠ 24 * i + a → Q 104 j = M 104 j) → Q 104 (24 * i + a) = cur → -3100000 ≤ cur → cur ≤ 3100000 → 1 ≤ k → k ≤ 2 → fX12_turnOf k = t → -1 ≤ t → t ≤ 1 → t ≠ 0 → (∀ Q' : xM, (∀ o, o ≠ 104 → Q' o = M o) → (∀ j, j ≠ 24 * i + a → Q' 104 j = M 104 j) → Q' 104 (24 * i + a) = (if g = true then max cur (sVt (M 95 0) (sCt (M 95) set) g m r a t) else min cur (sVt (M 95 0) (sCt (M 95) set) g m r a t)) → yk (fX12_laysBest_L147 n Q' set v3 i a (k + 1)) P) → yk (fX12_laysBest_L147 (n + 1) Q set v3 i a k) P := by
    intro n Q k t cur P f1 f2 f3 c0 c1 k0 k1 ht t0 t1 tn nx
    obtain ⟨a1, a2, a3⟩ := val Q k t f1 f2 (by omega) k1 ht t0 t1 (by omega)
    have vt := vr t
    conv => arg 1; unfold fX12_laysBest_L147 fX12_placeOf
    rw [if_pos (by rw [wr_id (by omega) (by omega), wr_id (by omega) (by omega)]; omega), a1, xb_some, xrd_at (by omega) (by omega) (by omega), xrd_at (by omega) (by omega) (by omega), yk_xj, a2, if_neg (show ¬ wr k = 0 by rw [wr_id (by omega) (by omega)]; omega), xrd_at (by omega) (by omega) (by omega), xrd_at (by omega) (by omega) (by omega), f3, wr_id (x := cur) (by omega) (by omega), wr_id (x := sVt (M 95 0) (sCt (M 95) set) g m r a t) (by omega) (by omega)]
    have wr' : yk (xwt Q 104 1464 (24 * i + a) (sVt (M 95 0) (sCt (M 95) set) g m r a t) fun M21 => fX12_laysBest_L147 n M21 set v3 i a (k + 1)) P ∨ ¬ (if g = true then max cur (sVt (M 95 0) (sCt (M 95) set) g m r a t) else min cur (sVt (M 95 0) (sCt (M 95) set) g m r a t)) = sVt (M 95 0) (sCt (M 95) set) g m r a t := by
      by_cases e : (if g = true then max cur (sVt (M 95 0) (sCt (M 95) set) g m r a t) else min cur (sVt (M 95 0) (sCt (M 95) set) g m r a t)) = sVt (M 95 0) (sCt (M 95) set) g m r a t
      · refine Or.inl ?_
        rw [xwt_at (by omega) (by omega) (by omega)]
        refine nx _ (fun o ho => by rw [xup_o ho, f1 o ho]) (fun j hj => by rw [xup_n hj, f2 j hj]) ?_
        rw [xup_e rfl, e]
      · exact Or.inr e
    subst hv
    cases g with
    | false =>
      rw [if_pos (by decide)]
      by_cases q : sVt (M 95 0) (sCt (M 95) set) false m r a t < cur
      · rw [if_pos q]
        refine wr'.resolve_right (fun w => w ?_)
        rw [if_neg (by decide)]
        omega
      · rw [if_neg q]
        refine nx Q f1 f2 ?_
        rw [if_neg (by decide), f3]
        omega
    | true =>
      rw [if_neg (by decide)]
      by_cases q : cur < sVt (M 95 0) (sCt (M 95) set) true m r a t
      · rw [if_pos q]
        refine wr'.resolve_right (fun w => w ?_)
        rw [if_pos rfl]
        omega
      · rw [if_neg q]
        refine nx Q f1 f2 ?_
        rw [if_pos rfl, f3]
        omega
  obtain ⟨a1, a2, a3⟩ := val M 0 0 (fun _ _ => rfl) (fun _ _ => rfl) (by omega) (by omega) (by decide) (by omega) (by omega) (by omega)
  rw [hy]
  conv => arg 1; unfold fX12_laysBest_L147 fX12_placeOf
  rw [if_pos (by decide), a1, xb_some, xrd_at (by omega) (by omega) (by omega), xrd_at (by omega) (by omega) (by omega), yk_xj, a2, if_pos (by decide), xwt_at (by omega) (by omega) (by omega), z1]
  refine step _ _ 1 1 _ _ (fun o ho => by rw [xup_o ho]) (fun j hj => by rw [xup_n hj]) (xup_e rfl) v0.1 v0.2 (by omega) (by omega) (by decide) (by omega) (by omega) (by omega) ?_
  intro Q1 f1 f2 f3
  rw [z2]
  refine step _ _ 2 (-1) _ _ f1 f2 f3 (by split <;> omega) (by split <;> omega) (by omega) (by omega) (by decide) (by omega) (by omega) (by omega) ?_
  intro Q2 g1 g2 g3
  rw [z3]
  unfold fX12_laysBest_L147
  rw [if_neg (by decide), yk_some]
  refine ⟨g1, g2, ?_⟩
  rw [g3, es]
  unfold sOpt
  split
  · omega
  · omega
end LB
