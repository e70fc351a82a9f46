/-! best, alone -/
section LC
variable {W : Int → Int} {set m : Int} {g : Bool}
theorem lb4_q {v3 i : Int} {r : Nat} (gw : gW W) (hm : 1 ≤ m ∧ m ≤ 30) (hi : 0 ≤ i ∧ i < m) (hr : (r : Int) = m - (i + 1)) (hv : v3 = b2i g) (n : Nat) : ∀ (M : xM) (a : Int), M 95 = W → 0 ≤ a → a ≤ W 0 → W 0 - a < n → wOk W set i M → (∀ q, 0 ≤ q → q < W 0 → M 104 (24 * (i + 1) + q) = sBf (W 0) (sCt W set) g m r q) → (∀ q, 0 ≤ q → q < a → M 104 (24 * i + q) = sBf (W 0) (sCt W set) g m (r + 1) q) → yk (fX12_laysBest_L133 n M set v3 i a) fun M' => (∀ o, o ≠ 104 → M' o = M o) ∧ (∀ j, ¬ (24 * i ≤ j ∧ j < 24 * i + 24) → M' 104 j = M 104 j) ∧ ∀ q, 0 ≤ q → q < W 0 → M' 104 (24 * i + q) = sBf (W 0) (sCt W set) g m (r + 1) q := by
  have gb := gw.1
  unfold gB at gb
  induction n with
  | zero => intro M a hM h0 h1 h2; omega
  | succ n ih =>
    intro M a hM h0 h1 h2 hw hb hz
    subst hM
    unfold fX12_laysBest_L133
    by_cases h : a < M 95 0
    · rw [if_pos (by rw [wr_id (by omega) (by omega), wr_id (by omega) (by omega)]; exact h), yk_xb]
      refine yk.mono (lb3_e (set := set) gw hm hi hr hv ⟨h0, h⟩ hw hb) ?_
      intro M1 q1
      refine yk.mono (ih M1 (a + 1) (q1.1 95 (by omega)) (by omega) (by omega) (by omega) (fun b k b0 b1 k0 k1 => by rw [q1.1 103 (by omega)]; exact hw b k b0 b1 k0 k1) (fun q q0 qq => by rw [q1.2.1 _ (by omega)]; exact hb q q0 qq) ?_) ?_
      · intro q q0 qq
        by_cases e : q = a
        · subst e; exact q1.2.2
        · rw [q1.2.1 _ (by omega)]
          exact hz q q0 (by omega)
      · intro M2 q2
        exact ⟨fun o ho => by rw [q2.1 o ho, q1.1 o ho], fun j hj => by rw [q2.2.1 j hj, q1.2.1 j (by omega)], q2.2.2⟩
    · rw [if_neg (by rw [wr_id (by omega) (by omega), wr_id (by omega) (by omega)]; exact h)]
      exact ⟨_, rfl, fun _ _ => rfl, fun _ _ => rfl, fun q q0 qq => hz q q0 (by omega)⟩
theorem lb5_q {v3 : Int} (gw : gW W) (hs : 0 ≤ set ∧ set < 2147483648) (hm : 1 ≤ m ∧ m ≤ 30) (hv : v3 = b2i g) (n : Nat) : ∀ (M : xM) (i : Int), M 95 = W → -1 ≤ i → i < m → i + 1 < n → (∀ d, i < d → d < m → wOk W set d M) → (∀ d q, i < d → d ≤ m → 0 ≤ q → q < W 0 → M 104 (24 * d + q) = sBf (W 0) (sCt W set) g m (m - d).toNat q) → yk (fX12_laysBest_L38 n M set v3 i) fun M' => (∀ o, (o < 101 ∨ 104 < o) → M' o = M o) ∧ (∀ d, 0 ≤ d → d < m → wOk W set d M') ∧ ∀ d q, 0 ≤ d → d ≤ m → 0 ≤ q → q < W 0 → M' 104 (24 * d + q) = sBf (W 0) (sCt W set) g m (m - d).toNat q := by
  have gb := gw.1
  unfold gB at gb
  induction n with
  | zero => intro M i hM h0 h1 h2; omega
  | succ n ih =>
    intro M i hM h0 h1 h2 hw hb
    unfold fX12_laysBest_L38
    by_cases h : i < 0
    · rw [if_pos (by rw [wr_id (by omega) (by omega)]; exact h)]
      exact ⟨_, rfl, fun _ _ => rfl, fun d d0 d1 => hw d (by omega) d1, fun d q d0 d1 q0 q1 => hb d q (by omega) d1 q0 q1⟩
    · have er : ((m - (i + 1)).toNat : Int) = m - (i + 1) := by omega
      rw [if_neg (by rw [wr_id (by omega) (by omega)]; exact h), yk_xb]
      refine yk.mono (lb2_q (v3 := v3) (i := i) gw hs (by omega) xfuel M 0 hM (by omega) (by omega) (by unfold xfuel; omega) (fun b k b0 b1 => by omega)) ?_
      intro M1 q1
      have w1 : M1 95 = W := by rw [q1.1 95 (by omega) (by omega) (by omega)]; exact hM
      rw [yk_xb]
      refine yk.mono (lb4_q (g := g) (r := (m - (i + 1)).toNat) gw hm (by omega) er hv xfuel M1 0 w1 (by omega) (by omega) (by unfold xfuel; omega) q1.2.2 (fun q q0 qq => by rw [q1.1 104 (by omega) (by omega) (by omega)]; exact hb (i + 1) q (by omega) (by omega) q0 qq) (fun q q0 qq => by omega)) ?_
      intro M2 q2
      have e4 : i + -1 = i - 1 := by omega
      rw [e4]
      refine yk.mono (ih M2 (i - 1) (by rw [q2.1 95 (by omega)]; exact w1) (by omega) (by omega) (by omega) ?_ ?_) ?_
      · intro d d0 d1
        by_cases e : d = i
        · subst e
          intro a k a0 a1 k0 k1
          rw [q2.1 103 (by omega)]
          exact q1.2.2 a k a0 a1 k0 k1
        · intro a k a0 a1 k0 k1
          rw [q2.1 103 (by omega), q1.2.1 _ (by omega)]
          exact hw d (by omega) d1 a k a0 a1 k0 k1
      · intro d q d0 d1 q0 qq
        by_cases e : d = i
        · subst e
          have e6 : (m - d).toNat = (m - (d + 1)).toNat + 1 := by omega
          rw [q2.2.2 q q0 qq, e6]
        · rw [q2.2.1 _ (by omega), q1.1 104 (by omega) (by omega) (by omega)]
          exact hb d q (by omega) d1 q0 qq
      · intro M3 q3
        exact ⟨fun o ho => by rw [q3.1 o ho, q2.1 o (by omega), q1.1 o (by omega) (by omega) (by omega)], q3.2⟩
theorem laysBest_e {M : xM} {v3 : Int} (gw : gW (M 95)) (hs : 0 ≤ set ∧ set < 2147483648) (hm : 1 ≤ m ∧ m ≤ 30) (hv : v3 = b2i g) : yk (fX12_laysBest M set m v3) fun M' => (∀ o, (o < 101 ∨ 104 < o) → M' o = M o) ∧ (∀ d, 0 ≤ d → d < m → wOk (M 95) set d M') ∧ ∀ d q, 0 ≤ d → d ≤ m → 0 ≤ q → q < M 95 0 → M' 104 (24 * d + q) = sBf (M 95 0) (sCt (M 95) set) g m (m - d).toNat q := by
  have gb := gw.1
  unfold gB at gb
  unfold fX12_laysBest
  rw [yk_xb]
  refine yk.mono (lb0_q (v3 := v3) (set := set) (by omega) hm xfuel M 0 rfl (by omega) (by omega) (by unfold xfuel; omega)) ?_
  intro M1 q1
  rw [yk_xb]
  refine yk.mono (lb5_q (g := g) gw hs hm hv xfuel M1 (m - 1) (q1.1 95 (by omega)) (by omega) (by omega) (by unfold xfuel; omega) (fun d d0 d1 => by omega) ?_) ?_
  · intro d q d0 d1 q0 qq
    have e : d = m := by omega
    subst e
    have e6 : (d - d).toNat = 0 := by omega
    rw [q1.2, if_pos (by omega), e6]
    rfl
  · intro M2 q2
    rw [yk_some]
    exact ⟨fun o ho => by rw [q2.1 o ho, q1.1 o (by omega)], q2.2⟩
theorem aloneM_e {M : xM} (gw : gW (M 95)) (hs : 0 ≤ set ∧ set < 2147483648) (hm : 1 ≤ m ∧ m ≤ 30) : yk (fX12_aloneOf M set m) fun q => q.1 = sBf (M 95 0) (sCt (M 95) set) (sEn (M 95) (sWt (M 95) set (M 95 5).toNat)) m m.toNat (M 95 1) ∧ ∀ o, (o < 101 ∨ 104 < o) → q.2 o = M o := by
  have gb := gw.1
  unfold gB at gb
  unfold fX12_aloneOf
  rw [enoughM_e gw.2.2.2.2.1 (by omega) hs, yk_xb, yk_some, yk_xb]
  refine yk.mono (laysBest_e (set := set) gw hs hm rfl) ?_
  intro M1 q1
  have w := q1.1 95 (by omega)
  have v := q1.2.2 0 (M 95 1) (by omega) (by omega) (by omega) (by omega)
  have e6 : 24 * (0 : Int) + M 95 1 = M 95 1 := by omega
  have e7 : m - 0 = m := by omega
  rw [e6, e7] at v
  rw [w, xrd_at (by omega) (by omega) (by omega), yk_some]
  exact ⟨v, q1.1⟩
theorem turnB_e {M : xM} {i an : Int} {r : Nat} (gw : gW (M 95)) (hm : 1 ≤ m ∧ m ≤ 30) (hi : 0 ≤ i ∧ i < m) (hr : (r : Int) = m - (i + 1)) (han : 0 ≤ an ∧ an < M 95 0) (hw : wOk (M 95) set i M) (hb : ∀ d q, 0 ≤ d → d ≤ m → 0 ≤ q → q < M 95 0 → M 104 (24 * d + q) = sBf (M 95 0) (sCt (M 95) set) g m (m - d).toNat q) : ∃ k, (0 ≤ k ∧ k ≤ 2) ∧ fX12_laysTurns_L27 xfuel M m an i 0 = some k ∧ fX12_turnOf k = sBt (M 95 0) (sCt (M 95) set) g m r an := by
  have gb := gw.1
  unfold gB at gb
  have em : m - ((r : Int) + 1) = i := by omega
  have er : (m - (i + 1)).toNat = r := by omega
  have er2 : (m - i).toNat = r + 1 := by omega
  have br := sBf_rng (N := M 95 0) (g := g) (m := m) (sCt_rng gw.1 set) (r + 1) an
  have vr : ∀ t, -3100000 ≤ sVt (M 95 0) (sCt (M 95) set) g m r an t ∧ sVt (M 95 0) (sCt (M 95) set) g m r an t ≤ 3100000 := by
    intro t
    have x := sCt_rng gw.1 set (m - (r + 1)) ((an + t) % M 95 0) (sTo1 t)
    have y := sBf_rng (N := M 95 0) (g := g) (m := m) (sCt_rng gw.1 set) r ((an + t) % M 95 0)
    unfold sVt
    omega
  have step : ∀ (n : Nat) (k t : Int), 0 ≤ k → k ≤ 2 → fX12_turnOf k = t → -1 ≤ t → t ≤ 1 → (k = 0 ↔ t = 0) → fX12_laysTurns_L27 (n + 1) M m an i k = if sVt (M 95 0) (sCt (M 95) set) g m r an t = sBf (M 95 0) (sCt (M 95) set) g m (r + 1) an then some k else fX12_laysTurns_L27 n M m an i (k + 1) := by
    intro n k t k0 k1 ht t0 t1 hkt
    have md := md_rng (a := an + t) (n := M 95 0) (by omega)
    have v := vr t
    have b1 := hb (i + 1) ((an + t) % M 95 0) (by omega) (by omega) md.1 md.2
    have b2 := hb i an (by omega) (by omega) han.1 han.2
    rw [er] at b1
    rw [er2] at b2
    have es : sCt (M 95) set i ((an + t) % M 95 0) (if k = 0 then 0 else 1) + sBf (M 95 0) (sCt (M 95) set) g m r ((an + t) % M 95 0) = sVt (M 95 0) (sCt (M 95) set) g m r an t := by
      unfold sVt sTo1
      rw [em]
      by_cases hk : k = 0
      · rw [if_pos hk, if_pos (hkt.mp hk)]
      · rw [if_neg hk, if_neg (fun w => hk (hkt.mpr w))]
    conv => lhs; unfold fX12_laysTurns_L27 fX12_placeOf
    rw [ht, modulo_eq (by omega) (by omega) (by omega) (by omega), xb_some, xrd_at (by omega) (by omega) (by omega), xb_some, xrd_at (by omega) (by omega) (by omega), xrd_at (by omega) (by omega) (by omega), hw _ _ md.1 md.2 k0 k1, b1, b2, es, wr_id (by omega) (by omega), wr_id (by omega) (by omega)]
  have hx : ∃ y, xfuel = y + 1 + 1 + 1 := ⟨999997, by unfold xfuel; omega⟩
  obtain ⟨y, hy⟩ := hx
  have z1 : (0 : Int) + 1 = 1 := by omega
  have z2 : (1 : Int) + 1 = 2 := by omega
  have bt := sBt_vt (M 95 0) (sCt (M 95) set) g m r an
  unfold sBt at bt ⊢
  rw [hy, step _ 0 0 (by omega) (by omega) (by decide) (by omega) (by omega) (by omega)]
  by_cases h0 : sVt (M 95 0) (sCt (M 95) set) g m r an 0 = sBf (M 95 0) (sCt (M 95) set) g m (r + 1) an
  · rw [if_pos h0, if_pos h0]
    exact ⟨0, by omega, rfl, by decide⟩
  · rw [if_neg h0] at bt ⊢
    rw [if_neg h0, z1, step _ 1 1 (by omega) (by omega) (by decide) (by omega) (by omega) (by omega)]
    by_cases h1 : sVt (M 95 0) (sCt (M 95) set) g m r an 1 = sBf (M 95 0) (sCt (M 95) set) g m (r + 1) an
    · rw [if_pos h1, if_pos h1]
      exact ⟨1, by omega, rfl, by decide⟩
    · rw [if_neg h1] at bt ⊢
      rw [if_neg h1, z2, step _ 2 (-1) (by omega) (by omega) (by decide) (by omega) (by omega) (by omega), if_pos bt]
      exact ⟨2, by omega, rfl, by decide⟩
theorem turnsBM_q {W : Int → Int} (gw : gW W) (hm : 1 ≤ m ∧ m ≤ 30) (k : Nat) : ∀ (n : Nat) (M : xM) (i an : Int), M 95 = W → 0 ≤ i → i + k = m → 0 ≤ an ∧ an < W 0 → k < n → (∀ d, 0 ≤ d → d < m → wOk W set d M) → (∀ d q, 0 ≤ d → d ≤ m → 0 ≤ q → q < W 0 → M 104 (24 * d + q) = sBf (W 0) (sCt W set) g m (m - d).toNat q) → yk (fX12_laysTurns_L19 n M m an i) fun M' => (∀ o, o ≠ 105 → M' o = M o) ∧ (∀ j, j < i → M' 105 j = M 105 j) ∧ ∀ j : Nat, j < k → M' 105 (i + j) = sBj (W 0) (sCt W set) g m k an j := by
  have gb := gw.1
  unfold gB at gb
  induction k with
  | zero =>
    intro n M i an hM h0 h1 h2 h3 hw hb
    obtain ⟨n', rfl⟩ : ∃ n', n = n' + 1 := ⟨n - 1, by omega⟩
    unfold fX12_laysTurns_L19
    rw [if_neg (by rw [wr_id (by omega) (by omega), wr_id (by omega) (by omega)]; omega)]
    exact ⟨_, rfl, fun o ho => rfl, fun j hj => rfl, fun j hj => by omega⟩
  | succ k ih =>
    intro n M i an hM h0 h1 h2 h3 hw hb
    obtain ⟨n', rfl⟩ : ∃ n', n = n' + 1 := ⟨n - 1, by omega⟩
    subst hM
    obtain ⟨t, t1, t2, t3⟩ := turnB_e (g := g) (r := k) (i := i) gw hm (by omega) (by omega) h2 (hw i h0 (by omega)) hb
    have br := sBt_rng (M 95 0) (sCt (M 95) set) g m k an
    have md := md_rng (a := an + sBt (M 95 0) (sCt (M 95) set) g m k an) (n := M 95 0) (by omega)
    have w2 : ∀ v, xup M 105 i v 95 = M 95 := fun v => xup_o (by omega)
    unfold fX12_laysTurns_L19
    rw [if_pos (by rw [wr_id (by omega) (by omega), wr_id (by omega) (by omega)]; omega), t2, xb_some, xwt_at (by omega) (by omega) (by omega), t3, modulo_eq (by rw [w2]; omega) (by rw [w2]; omega) (by omega) (by omega), w2, xb_some]
    refine yk.mono (ih n' _ (i + 1) _ (w2 _) (by omega) (by omega) md (by omega) (fun d d0 d1 a k a0 a1 k0 k1 => by rw [xup_o (by omega)]; exact hw d d0 d1 a k a0 a1 k0 k1) (fun d q d0 d1 q0 q1 => by rw [xup_o (by omega)]; exact hb d q d0 d1 q0 q1)) ?_
    intro M' q
    refine ⟨fun o ho => by rw [q.1 o ho, xup_o ho], fun j hj => by rw [q.2.1 j (by omega), xup_n (by omega)], ?_⟩
    intro j hj
    cases j with
    | zero =>
      have e0 : i + ((0 : Nat) : Int) = i := by omega
      rw [e0, q.2.1 i (by omega), xup_e rfl]
      rfl
    | succ j =>
      have e0 : i + ((j + 1 : Nat) : Int) = i + 1 + j := by omega
      rw [e0, q.2.2 j (by omega)]
      rfl
theorem laysTurns_e {M : xM} (gw : gW (M 95)) (hm : 1 ≤ m ∧ m ≤ 30) : yk (fX12_laysTurns M m) fun q => q.1 = sBf (M 95 0) (sCt (M 95) (sAll (M 95))) true m m.toNat (M 95 1) ∧ (∀ o, (o < 101 ∨ 105 < o) → q.2 o = M o) ∧ ∀ j : Nat, j < m.toNat → q.2 105 j = sBj (M 95 0) (sCt (M 95) (sAll (M 95))) true m m.toNat (M 95 1) j := by
  have gb := gw.1
  unfold gB at gb
  have ar := sAll_rng (W := M 95) (by omega)
  unfold fX12_laysTurns
  rw [allM_e (by omega), yk_xb]
  refine yk.mono (laysBest_e (g := true) (set := sAll (M 95)) gw (by omega) hm rfl) ?_
  intro M1 q1
  have w := q1.1 95 (by omega)
  rw [yk_xb, w]
  refine yk.mono (turnsBM_q (g := true) (set := sAll (M 95)) gw hm m.toNat xfuel M1 0 (M 95 1) w (by omega) (by omega) (by omega) (by unfold xfuel; omega) q1.2.1 q1.2.2) ?_
  intro M2 q2
  have w2 : M2 95 = M 95 := by rw [q2.1 95 (by omega)]; exact w
  have v := q1.2.2 0 (M 95 1) (by omega) (by omega) (by omega) (by omega)
  have e6 : 24 * (0 : Int) + M 95 1 = M 95 1 := by omega
  have e7 : m - 0 = m := by omega
  rw [e6, e7] at v
  rw [w2, xrd_at (by omega) (by omega) (by omega), yk_some]
  refine ⟨?_, fun o ho => (q2.1 o (by omega)).trans (q1.1 o (by omega)), ?_⟩
  · show M2 104 (M 95 1) = _
    rw [q2.1 104 (by omega)]
    exact v
  · intro j hj
    have := q2.2.2 j hj
    have e0 : (0 : Int) + (j : Int) = j := by omega
    rw [e0] at this
    exact this
end LC
