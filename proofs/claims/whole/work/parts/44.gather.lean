/-! what the turns of the next days are worth: the class gathers -/
def sTw (W : Int → Int) (set i an t : Int) : Nat → Int
  | 0 => 0
  | n + 1 => sTw W set i an t n + (if bt set n = 1 then sWorth W n (W 2 + i) an t else 0)
theorem sTw_rng (W : Int → Int) (set i an t : Int) (n : Nat) : -9999 * (n : Int) ≤ sTw W set i an t n ∧ sTw W set i an t n ≤ 9999 * (n : Int) := by
  induction n with
  | zero => exact ⟨Int.le_refl _, Int.le_refl _⟩
  | succ n ih =>
    have e : sTw W set i an t (n + 1) = sTw W set i an t n + (if bt set n = 1 then sWorth W n (W 2 + i) an t else 0) := rfl
    have := sWorth_rng W n (W 2 + i) an t
    rw [e]
    split <;> omega
def gix (m d r t : Int) : Int := (d * (2 * m + 1) + m + r) * 2 + (if t = 0 then 0 else 1)
theorem dm_rng {m d : Int} (hm : 1 ≤ m) (h0 : 0 ≤ d) (h1 : d ≤ m) : 0 ≤ d * (2 * m + 1) ∧ d * (2 * m + 1) ≤ m * (2 * m + 1) := ⟨Int.mul_nonneg h0 (by omega), Int.mul_le_mul_of_nonneg_right h1 (by omega)⟩
theorem dm_inj {D d d' x x' : Int} (hx : 0 ≤ x ∧ x < D) (hx' : 0 ≤ x' ∧ x' < D) (h : d * D + x = d' * D + x') : d = d' ∧ x = x' := by
  have e1 : (d * D + x) / D = d := by
    rw [Int.add_comm, Int.add_mul_ediv_right _ _ (by omega), Int.ediv_eq_zero_of_lt hx.1 hx.2]
    omega
  have e2 : (d' * D + x') / D = d' := by
    rw [Int.add_comm, Int.add_mul_ediv_right _ _ (by omega), Int.ediv_eq_zero_of_lt hx'.1 hx'.2]
    omega
  rw [h] at e1
  have e3 : d = d' := by omega
  subst e3
  exact ⟨rfl, by omega⟩
theorem gix_inj {m d r t d' r' t' : Int} (hr : -m ≤ r ∧ r ≤ m) (hr' : -m ≤ r' ∧ r' ≤ m) (h : gix m d r t = gix m d' r' t') : d = d' ∧ r = r' ∧ (t = 0 ↔ t' = 0) := by
  unfold gix at h
  have h2 : d * (2 * m + 1) + (m + r) = d' * (2 * m + 1) + (m + r') ∧ (t = 0 ↔ t' = 0) := by
    generalize d * (2 * m + 1) = X at *
    generalize d' * (2 * m + 1) = Y at *
    split at h <;> split at h <;> omega
  obtain ⟨e1, e2⟩ := dm_inj (by omega) (by omega) h2.1
  exact ⟨e1, by omega, h2.2⟩
theorem cellOf_e {M : xM} {m d r t : Int} (hm : M 50 1 = m) (ht : -1 ≤ t ∧ t ≤ 1) : fX3_cellOf M d r t = gix m d r t := by
  unfold fX3_cellOf gix
  rw [hm, wr_id (by omega) (by omega)]
  split <;> rfl
/-- of the island nothing has changed -/
def isl (M0 M : xM) : Prop := ∀ o, 1 ≤ o → o ≤ 35 → o ≠ 11 → o ≠ 22 → M o = M0 o
theorem gat1_a {W : Int → Int} {M0 : xM} {set d t rd an : Int} (i : rI M0 W) (g : gW W) (hs : 0 ≤ set ∧ set < 2147483648) (hd : 0 ≤ d ∧ d ≤ 40) (ht : 0 ≤ t ∧ t ≤ 1) (han : 0 ≤ an ∧ an < 24) (m : Nat) : ∀ (n : Nat) (M : xM) (p : Nat) (x c : Int), isl M0 M → rMemo c M W → c < 1900000000 - m → (p : Int) + m = W 5 → m < n → yk (fX3_gather_L61 n M set d t rd an x p) fun q => q.1 = x + (sTw W set d an t (p + m) - sTw W set d an t p) ∧ rMemo (c + m) q.2 W ∧ ∀ o, (o < 43 ∨ 49 < o) → q.2 o = M o := by
  have gb := g.1
  have iB := i.1
  unfold gB at gb
  unfold rB at iB
  induction m with
  | zero =>
    intro n M p x c hM me hc h1 h2
    obtain ⟨n', rfl⟩ : ∃ n', n = n' + 1 := ⟨n - 1, by omega⟩
    unfold fX3_gather_L61
    rw [hM 5 (by omega) (by omega) (by omega) (by omega), iB.2.1, if_neg (by rw [wr_id (by omega) (by omega), wr_id (by omega) (by omega)]; omega), yk_some]
    refine ⟨?_, rMemo_le me (by omega), fun _ _ => rfl⟩
    show x = x + (sTw W set d an t p - sTw W set d an t p)
    omega
  | succ m ih =>
    intro n M p x c hM me hc h1 h2
    obtain ⟨n', rfl⟩ : ∃ n', n = n' + 1 := ⟨n - 1, by omega⟩
    have e1 : sTw W set d an t (p + 1) = sTw W set d an t p + (if bt set p = 1 then sWorth W p (W 2 + d) an t else 0) := rfl
    have e2 : p + 1 + m = p + (m + 1) := by omega
    have e3 : (p : Int) + 1 = ((p + 1 : Nat) : Int) := by omega
    have b := bt_rng set p
    have iM : rI M W := rI_fr2 i g hM
    unfold fX3_gather_L61
    rw [if_pos (by rw [hM 5 (by omega) (by omega) (by omega) (by omega), iB.2.1, wr_id (by omega) (by omega), wr_id (by omega) (by omega)]; omega), bit_eq hs.1 hs.2 (by omega) (by omega), wr_id (x := bt set p) (by omega) (by omega), e3]
    by_cases hb : bt set p = 0
    · rw [if_pos hb]
      refine yk.mono (ih n' M (p + 1) x c hM me (by omega) (by omega) (by omega)) ?_
      intro q hq
      refine ⟨?_, rMemo_le hq.2.1 (by omega), hq.2.2⟩
      rw [hq.1, e2, e1, if_neg (by omega)]
      omega
    · rw [if_neg hb, yk_xb2, hM 1 (by omega) (by omega) (by omega) (by omega), iB.1.2.2.1]
      refine yk.mono (worthTo_e iM g me (by omega) (by omega) (by omega) (by omega) (by omega)) ?_
      intro q hq
      refine yk.mono (ih n' q.2 (p + 1) (x + q.1) (c + 1) (fun o h1 h2 h3 h4 => by rw [hq.2.2 o (by omega), hM o h1 h2 h3 h4]) hq.2.1 (by omega) (by omega) (by omega)) ?_
      intro z hz
      refine ⟨?_, rMemo_le hz.2.1 (by omega), fun o ho => by rw [hz.2.2 o ho, hq.2.2 o ho]⟩
      rw [hz.1, hq.1, e2, e1, if_pos (by omega)]
      omega
theorem gat2_a {W : Int → Int} {M0 : xM} {set d t m : Int} (i : rI M0 W) (g : gW W) (hs : 0 ≤ set ∧ set < 2147483648) (hm : 1 ≤ m ∧ m ≤ 30) (hd : 0 ≤ d ∧ d < m) (ht : 0 ≤ t ∧ t ≤ 1) (n : Nat) : ∀ (M : xM) (v c : Int), isl M0 M → M 50 1 = m → rMemo c M W → -d - t ≤ v → v ≤ d + t + 1 → d + t + 1 - v < n → c < 1800000000 - 10 * (d + t + 1 - v) → yk (fX3_gather_L29 n M set d t v) fun M' => (∀ o, (o < 43 ∨ 49 < o) → o ≠ 51 → M' o = M o) ∧ (∀ r, v ≤ r → r ≤ d + t → M' 51 (gix m d r t) = sTw W set d ((W 1 + r) % W 0) t (W 5).toNat) ∧ (∀ j, (∀ r, v ≤ r → r ≤ d + t → j ≠ gix m d r t) → M' 51 j = M 51 j) ∧ rMemo (c + 10 * (d + t + 1 - v)) M' W := by
  have gb := g.1
  have iB := i.1
  unfold gB at gb
  unfold rB at iB
  induction n with
  | zero => intro M v c hM e50 me h0 h1 h2; omega
  | succ n ih =>
    intro M v c hM e50 me h0 h1 h2 hc
    unfold fX3_gather_L29
    by_cases h : d + t < v
    · rw [if_pos (by rw [wr_id (by omega) (by omega), wr_id (by omega) (by omega)]; exact h)]
      exact ⟨_, rfl, fun _ _ _ => rfl, fun r r0 r1 => by omega, fun j hj => rfl, rMemo_le me (by omega)⟩
    · have md := md_rng (a := W 1 + v) (n := W 0) (by omega)
      rw [if_neg (by rw [wr_id (by omega) (by omega), wr_id (by omega) (by omega)]; exact h), hM 1 (by omega) (by omega) (by omega) (by omega), iB.1.2.1, iB.1.1, wrap_eq (by omega) (by omega) (by omega) (by omega), xb_some, yk_xb2]
      refine yk.mono (gat1_a i g hs (by omega) ht (by omega) (W 5).toNat xfuel M 0 0 c hM me (by omega) (by omega) (by unfold xfuel; omega)) ?_
      intro q hq
      have e50' : q.2 50 1 = m := by rw [hq.2.2 50 (by omega)]; exact e50
      have e0 : sTw W set d ((W 1 + v) % W 0) t 0 = 0 := rfl
      have ev : q.1 = sTw W set d ((W 1 + v) % W 0) t (W 5).toNat := by
        rw [hq.1, Nat.zero_add, e0]
        omega
      have dm := dm_rng hm.1 hd.1 (show d ≤ m by omega)
      have dm2 : d * (2 * m + 1) + (2 * m + 1) ≤ m * (2 * m + 1) := by
        have := Int.mul_le_mul_of_nonneg_right (show d + 1 ≤ m by omega) (show 0 ≤ 2 * m + 1 by omega)
        rw [Int.add_mul, Int.one_mul] at this
        exact this
      have dm3 : m * (2 * m + 1) * 2 ≤ 3660 := by
        have h9 : m ≤ 30 := hm.2
        have h8 := hm.1
        clear dm dm2 h h0 h1 h2 hd md ih hq ev e50' e0
        have := Int.mul_le_mul h9 (show 2 * m + 1 ≤ 2 * 30 + 1 by omega) (by omega) (by omega)
        omega
      have gr : 0 ≤ gix m d v t ∧ gix m d v t < 3660 := by
        unfold gix
        generalize d * (2 * m + 1) = Y at *
        generalize m * (2 * m + 1) = Z at *
        split <;> omega
      rw [cellOf_e e50' (by omega), xwt_at gr.1 gr.2 (by omega), ev]
      refine yk.mono (ih _ (v + 1) (c + (W 5).toNat) (fun o h1 h2 h3 h4 => by rw [xup_o (by omega), hq.2.2 o (by omega), hM o h1 h2 h3 h4]) (by rw [xup_o (by omega)]; exact e50') (rMemo_fr hq.2.1 g.2.2.2.2.2.2.2.2.2 ⟨xup_o (by omega), xup_o (by omega), xup_o (by omega), xup_o (by omega), xup_o (by omega)⟩ (fun k hk => xup_o (by omega)) (fun _ _ => rfl) (fun _ _ _ => rfl)) (by omega) (by omega) (by omega) (by omega)) ?_
      intro M' z
      refine ⟨fun o h1 h2 => by rw [z.1 o h1 h2, xup_o h2, hq.2.2 o h1], ?_, ?_, rMemo_le z.2.2.2 (by omega)⟩
      · intro r r0 r1
        by_cases e : r = v
        · subst e
          rw [z.2.2.1 _ (fun r' a b c => by have := (gix_inj (by omega) (by omega) c).2.1; omega), xup_e rfl]
        · exact z.2.1 r (by omega) r1
      · intro j hj
        rw [z.2.2.1 j (fun r' a b => hj r' (by omega) b), xup_n (hj v (by omega) (by omega)), hq.2.2 51 (by omega)]
theorem gat4_a {W : Int → Int} {M0 : xM} {set m : Int} (i : rI M0 W) (g : gW W) (hs : 0 ≤ set ∧ set < 2147483648) (hm : 1 ≤ m ∧ m ≤ 30) (n : Nat) : ∀ (M : xM) (v c : Int), isl M0 M → M 50 1 = m → rMemo c M W → 0 ≤ v → v ≤ m → m - v < n → c < 1700000000 - 2000 * (m - v) → (∀ d t r, 0 ≤ d → d < v → 0 ≤ t → t ≤ 1 → -d - t ≤ r → r ≤ d + t → M 51 (gix m d r t) = sTw W set d ((W 1 + r) % W 0) t (W 5).toNat) → yk (fX3_gather_L3 n M set v) fun M' => (∀ o, (o < 43 ∨ 49 < o) → o ≠ 51 → M' o = M o) ∧ (∀ d t r, 0 ≤ d → d < m → 0 ≤ t → t ≤ 1 → -d - t ≤ r → r ≤ d + t → M' 51 (gix m d r t) = sTw W set d ((W 1 + r) % W 0) t (W 5).toNat) ∧ rMemo (c + 2000 * (m - v)) M' W := by
  have gb := g.1
  unfold gB at gb
  induction n with
  | zero => intro M v c hM e50 me h0 h1 h2; omega
  | succ n ih =>
    intro M v c hM e50 me h0 h1 h2 hc hz
    unfold fX3_gather_L3
    by_cases h : v < m
    · rw [if_pos (by rw [e50, wr_id (by omega) (by omega), wr_id (by omega) (by omega)]; exact h), yk_xb]
      have hx : ∃ y, xfuel = y + 1 + 1 + 1 := ⟨999997, by unfold xfuel; omega⟩
      obtain ⟨y, hy⟩ := hx
      have hl15 : ∀ (k : Nat) (Q : xM) (t : Int), 0 ≤ t → t ≤ 1 → fX3_gather_L15 (k + 1) Q set v t = xb (fX3_gather_L29 xfuel Q set v t ((-v) - t)) fun M10 => fX3_gather_L15 k M10 set v (t + 1) := by
        intro k Q t t0 t1
        conv => lhs; unfold fX3_gather_L15
        rw [if_neg (by rw [wr_id (by omega) (by omega), wr_id (by omega) (by omega)]; omega)]
      have z1 : (0 : Int) + 1 = 1 := by omega
      have fin : ∀ (k : Nat) (Q : xM), fX3_gather_L15 (k + 1) Q set v (1 + 1) = some Q := by
        intro k Q
        unfold fX3_gather_L15
        rw [if_pos (by decide)]
      rw [hy, hl15 _ M 0 (by omega) (by omega), yk_xb, z1]
      refine yk.mono (gat2_a i g hs hm ⟨h0, h⟩ (t := 0) (by omega) xfuel M _ c hM e50 me (by omega) (by omega) (by unfold xfuel; omega) (by omega)) ?_
      intro M1 q1
      rw [hl15 _ M1 1 (by omega) (by omega), yk_xb]
      have hM1 : isl M0 M1 := fun o h1 h2 h3 h4 => by rw [q1.1 o (by omega) (by omega), hM o h1 h2 h3 h4]
      have e501 : M1 50 1 = m := by rw [q1.1 50 (by omega) (by omega)]; exact e50
      refine yk.mono (gat2_a i g hs hm ⟨h0, h⟩ (t := 1) (by omega) xfuel M1 _ _ hM1 e501 q1.2.2.2 (by omega) (by omega) (by unfold xfuel; omega) (by omega)) ?_
      intro M2 q2
      rw [fin, yk_some]
      refine yk.mono (ih M2 (v + 1) (c + 2000) (fun o h1 h2 h3 h4 => by rw [q2.1 o (by omega) (by omega), hM1 o h1 h2 h3 h4]) (by rw [q2.1 50 (by omega) (by omega)]; exact e501) (rMemo_le q2.2.2.2 (by omega)) (by omega) (by omega) (by omega) (by omega) ?_) ?_
      · intro d t r d0 d1 t0 t1 r0 r1
        have tt : t = 0 ∨ t = 1 := by omega
        by_cases e : d = v
        · subst e
          rcases tt with rfl | rfl
          · rw [q2.2.2.1 _ (fun r' a b c => by have := (gix_inj (by omega) (by omega) c).2.2; omega)]
            exact q1.2.1 r (by omega) (by omega)
          · exact q2.2.1 r (by omega) (by omega)
        · rw [q2.2.2.1 _ (fun r' a b c => by have := (gix_inj (by omega) (by omega) c).1; omega), q1.2.2.1 _ (fun r' a b c => by have := (gix_inj (by omega) (by omega) c).1; omega)]
          exact hz d t r d0 (by omega) t0 t1 r0 r1
      · intro M' z
        exact ⟨fun o h1 h2 => by rw [z.1 o h1 h2, q2.1 o h1 h2, q1.1 o h1 h2], z.2.1, rMemo_le z.2.2 (by omega)⟩
    · rw [if_neg (by rw [e50, wr_id (by omega) (by omega), wr_id (by omega) (by omega)]; exact h)]
      exact ⟨_, rfl, fun _ _ _ => rfl, fun d t r d0 d1 t0 t1 r0 r1 => hz d t r d0 (by omega) t0 t1 r0 r1, rMemo_le me (by omega)⟩
theorem gat1_b {W : Int → Int} {M0 : xM} {o3 : Nat} {set d t rd an : Int} (i : rI M0 W) (g : gW W) (hs : 0 ≤ set ∧ set < 2147483648) (hd : 0 ≤ d ∧ d ≤ 40) (ht : 0 ≤ t ∧ t ≤ 1) (han : 0 ≤ an ∧ an < 24) (m : Nat) : ∀ (n : Nat) (M : xM) (p : Nat) (x c : Int), isl M0 M → rMemo c M W → c < 1900000000 - m → (p : Int) + m = W 5 → m < n → yk (fX3_gather_i2_L61 n M set o3 d t rd an x p) fun q => q.1 = x + (sTw W set d an t (p + m) - sTw W set d an t p) ∧ rMemo (c + m) q.2 W ∧ ∀ o, (o < 43 ∨ 49 < o) → q.2 o = M o := by
  have gb := g.1
  have iB := i.1
  unfold gB at gb
  unfold rB at iB
  induction m with
  | zero =>
    intro n M p x c hM me hc h1 h2
    obtain ⟨n', rfl⟩ : ∃ n', n = n' + 1 := ⟨n - 1, by omega⟩
    unfold fX3_gather_i2_L61
    rw [hM 5 (by omega) (by omega) (by omega) (by omega), iB.2.1, if_neg (by rw [wr_id (by omega) (by omega), wr_id (by omega) (by omega)]; omega), yk_some]
    refine ⟨?_, rMemo_le me (by omega), fun _ _ => rfl⟩
    show x = x + (sTw W set d an t p - sTw W set d an t p)
    omega
  | succ m ih =>
    intro n M p x c hM me hc h1 h2
    obtain ⟨n', rfl⟩ : ∃ n', n = n' + 1 := ⟨n - 1, by omega⟩
    have e1 : sTw W set d an t (p + 1) = sTw W set d an t p + (if bt set p = 1 then sWorth W p (W 2 + d) an t else 0) := rfl
    have e2 : p + 1 + m = p + (m + 1) := by omega
    have e3 : (p : Int) + 1 = ((p + 1 : Nat) : Int) := by omega
    have b := bt_rng set p
    have iM : rI M W := rI_fr2 i g hM
    unfold fX3_gather_i2_L61
    rw [if_pos (by rw [hM 5 (by omega) (by omega) (by omega) (by omega), iB.2.1, wr_id (by omega) (by omega), wr_id (by omega) (by omega)]; omega), bit_eq hs.1 hs.2 (by omega) (by omega), wr_id (x := bt set p) (by omega) (by omega), e3]
    by_cases hb : bt set p = 0
    · rw [if_pos hb]
      refine yk.mono (ih n' M (p + 1) x c hM me (by omega) (by omega) (by omega)) ?_
      intro q hq
      refine ⟨?_, rMemo_le hq.2.1 (by omega), hq.2.2⟩
      rw [hq.1, e2, e1, if_neg (by omega)]
      omega
    · rw [if_neg hb, yk_xb2, hM 1 (by omega) (by omega) (by omega) (by omega), iB.1.2.2.1]
      refine yk.mono (worthTo_e iM g me (by omega) (by omega) (by omega) (by omega) (by omega)) ?_
      intro q hq
      refine yk.mono (ih n' q.2 (p + 1) (x + q.1) (c + 1) (fun o h1 h2 h3 h4 => by rw [hq.2.2 o (by omega), hM o h1 h2 h3 h4]) hq.2.1 (by omega) (by omega) (by omega)) ?_
      intro z hz
      refine ⟨?_, rMemo_le hz.2.1 (by omega), fun o ho => by rw [hz.2.2 o ho, hq.2.2 o ho]⟩
      rw [hz.1, hq.1, e2, e1, if_pos (by omega)]
      omega
theorem gat2_b {W : Int → Int} {M0 : xM} {o3 : Nat} {set d t m : Int} (i : rI M0 W) (g : gW W) (hs : 0 ≤ set ∧ set < 2147483648) (hm : 1 ≤ m ∧ m ≤ 6) (hd : 0 ≤ d ∧ d < m) (ht : 0 ≤ t ∧ t ≤ 1) (ho : 53 ≤ o3 ∧ o3 ≤ 62) (n : Nat) : ∀ (M : xM) (v c : Int), isl M0 M → M 50 1 = m → rMemo c M W → -d - t ≤ v → v ≤ d + t + 1 → d + t + 1 - v < n → c < 1800000000 - 10 * (d + t + 1 - v) → yk (fX3_gather_i2_L29 n M set o3 d t v) fun M' => (∀ o, (o < 43 ∨ 49 < o) → o ≠ o3 → M' o = M o) ∧ (∀ r, v ≤ r → r ≤ d + t → M' o3 (gix m d r t) = sTw W set d ((W 1 + r) % W 0) t (W 5).toNat) ∧ (∀ j, (∀ r, v ≤ r → r ≤ d + t → j ≠ gix m d r t) → M' o3 j = M o3 j) ∧ rMemo (c + 10 * (d + t + 1 - v)) M' W := by
  have gb := g.1
  have iB := i.1
  unfold gB at gb
  unfold rB at iB
  induction n with
  | zero => intro M v c hM e50 me h0 h1 h2; omega
  | succ n ih =>
    intro M v c hM e50 me h0 h1 h2 hc
    unfold fX3_gather_i2_L29
    by_cases h : d + t < v
    · rw [if_pos (by rw [wr_id (by omega) (by omega), wr_id (by omega) (by omega)]; exact h)]
      exact ⟨_, rfl, fun _ _ _ => rfl, fun r r0 r1 => by omega, fun j hj => rfl, rMemo_le me (by omega)⟩
    · have md := md_rng (a := W 1 + v) (n := W 0) (by omega)
      rw [if_neg (by rw [wr_id (by omega) (by omega), wr_id (by omega) (by omega)]; exact h), hM 1 (by omega) (by omega) (by omega) (by omega), iB.1.2.1, iB.1.1, wrap_eq (by omega) (by omega) (by omega) (by omega), xb_some, yk_xb2]
      refine yk.mono (gat1_b (o3 := o3) i g hs (by omega) ht (by omega) (W 5).toNat xfuel M 0 0 c hM me (by omega) (by omega) (by unfold xfuel; omega)) ?_
      intro q hq
      have e50' : q.2 50 1 = m := by rw [hq.2.2 50 (by omega)]; exact e50
      have e0 : sTw W set d ((W 1 + v) % W 0) t 0 = 0 := rfl
      have ev : q.1 = sTw W set d ((W 1 + v) % W 0) t (W 5).toNat := by
        rw [hq.1, Nat.zero_add, e0]
        omega
      have dm := dm_rng hm.1 hd.1 (show d ≤ m by omega)
      have dm2 : d * (2 * m + 1) + (2 * m + 1) ≤ m * (2 * m + 1) := by
        have := Int.mul_le_mul_of_nonneg_right (show d + 1 ≤ m by omega) (show 0 ≤ 2 * m + 1 by omega)
        rw [Int.add_mul, Int.one_mul] at this
        exact this
      have dm3 : m * (2 * m + 1) * 2 ≤ 156 := by
        have h9 : m ≤ 6 := hm.2
        have h8 := hm.1
        clear dm dm2 h h0 h1 h2 hd md ih hq ev e50' e0
        have := Int.mul_le_mul h9 (show 2 * m + 1 ≤ 2 * 6 + 1 by omega) (by omega) (by omega)
        omega
      have gr : 0 ≤ gix m d v t ∧ gix m d v t < 156 := by
        unfold gix
        generalize d * (2 * m + 1) = Y at *
        generalize m * (2 * m + 1) = Z at *
        split <;> omega
      rw [cellOf_e e50' (by omega), xwt_at gr.1 gr.2 (by omega), ev]
      refine yk.mono (ih _ (v + 1) (c + (W 5).toNat) (fun o h1 h2 h3 h4 => by rw [xup_o (by omega), hq.2.2 o (by omega), hM o h1 h2 h3 h4]) (by rw [xup_o (by omega)]; exact e50') (rMemo_fr hq.2.1 g.2.2.2.2.2.2.2.2.2 ⟨xup_o (by omega), xup_o (by omega), xup_o (by omega), xup_o (by omega), xup_o (by omega)⟩ (fun k hk => xup_o (by omega)) (fun _ _ => rfl) (fun _ _ _ => rfl)) (by omega) (by omega) (by omega) (by omega)) ?_
      intro M' z
      refine ⟨fun o h1 h2 => by rw [z.1 o h1 h2, xup_o h2, hq.2.2 o h1], ?_, ?_, rMemo_le z.2.2.2 (by omega)⟩
      · intro r r0 r1
        by_cases e : r = v
        · subst e
          rw [z.2.2.1 _ (fun r' a b c => by have := (gix_inj (by omega) (by omega) c).2.1; omega), xup_e rfl]
        · exact z.2.1 r (by omega) r1
      · intro j hj
        rw [z.2.2.1 j (fun r' a b => hj r' (by omega) b), xup_n (hj v (by omega) (by omega)), hq.2.2 o3 (by omega)]
theorem gat4_b {W : Int → Int} {M0 : xM} {o3 : Nat} {set m : Int} (i : rI M0 W) (g : gW W) (hs : 0 ≤ set ∧ set < 2147483648) (hm : 1 ≤ m ∧ m ≤ 6) (ho : 53 ≤ o3 ∧ o3 ≤ 62) (n : Nat) : ∀ (M : xM) (v c : Int), isl M0 M → M 50 1 = m → rMemo c M W → 0 ≤ v → v ≤ m → m - v < n → c < 1700000000 - 2000 * (m - v) → (∀ d t r, 0 ≤ d → d < v → 0 ≤ t → t ≤ 1 → -d - t ≤ r → r ≤ d + t → M o3 (gix m d r t) = sTw W set d ((W 1 + r) % W 0) t (W 5).toNat) → yk (fX3_gather_i2_L3 n M set o3 v) fun M' => (∀ o, (o < 43 ∨ 49 < o) → o ≠ o3 → M' o = M o) ∧ (∀ d t r, 0 ≤ d → d < m → 0 ≤ t → t ≤ 1 → -d - t ≤ r → r ≤ d + t → M' o3 (gix m d r t) = sTw W set d ((W 1 + r) % W 0) t (W 5).toNat) ∧ rMemo (c + 2000 * (m - v)) M' W := by
  have gb := g.1
  unfold gB at gb
  induction n with
  | zero => intro M v c hM e50 me h0 h1 h2; omega
  | succ n ih =>
    intro M v c hM e50 me h0 h1 h2 hc hz
    unfold fX3_gather_i2_L3
    by_cases h : v < m
    · rw [if_pos (by rw [e50, wr_id (by omega) (by omega), wr_id (by omega) (by omega)]; exact h), yk_xb]
      have hx : ∃ y, xfuel = y + 1 + 1 + 1 := ⟨999997, by unfold xfuel; omega⟩
      obtain ⟨y, hy⟩ := hx
      have hl15 : ∀ (k : Nat) (Q : xM) (t : Int), 0 ≤ t → t ≤ 1 → fX3_gather_i2_L15 (k + 1) Q set o3 v t = xb (fX3_gather_i2_L29 xfuel Q set o3 v t ((-v) - t)) fun M10 => fX3_gather_i2_L15 k M10 set o3 v (t + 1) := by
        intro k Q t t0 t1
        conv => lhs; unfold fX3_gather_i2_L15
        rw [if_neg (by rw [wr_id (by omega) (by omega), wr_id (by omega) (by omega)]; omega)]
      have z1 : (0 : Int) + 1 = 1 := by omega
      have fin : ∀ (k : Nat) (Q : xM), fX3_gather_i2_L15 (k + 1) Q set o3 v (1 + 1) = some Q := by
        intro k Q
        unfold fX3_gather_i2_L15
        rw [if_pos (by decide)]
      rw [hy, hl15 _ M 0 (by omega) (by omega), yk_xb, z1]
      refine yk.mono (gat2_b i g hs hm ⟨h0, h⟩ (t := 0) (by omega) ho xfuel M _ c hM e50 me (by omega) (by omega) (by unfold xfuel; omega) (by omega)) ?_
      intro M1 q1
      rw [hl15 _ M1 1 (by omega) (by omega), yk_xb]
      have hM1 : isl M0 M1 := fun o h1 h2 h3 h4 => by rw [q1.1 o (by omega) (by omega), hM o h1 h2 h3 h4]
      have e501 : M1 50 1 = m := by rw [q1.1 50 (by omega) (by omega)]; exact e50
      refine yk.mono (gat2_b i g hs hm ⟨h0, h⟩ (t := 1) (by omega) ho xfuel M1 _ _ hM1 e501 q1.2.2.2 (by omega) (by omega) (by unfold xfuel; omega) (by omega)) ?_
      intro M2 q2
      rw [fin, yk_some]
      refine yk.mono (ih M2 (v + 1) (c + 2000) (fun o h1 h2 h3 h4 => by rw [q2.1 o (by omega) (by omega), hM1 o h1 h2 h3 h4]) (by rw [q2.1 50 (by omega) (by omega)]; exact e501) (rMemo_le q2.2.2.2 (by omega)) (by omega) (by omega) (by omega) (by omega) ?_) ?_
      · intro d t r d0 d1 t0 t1 r0 r1
        have tt : t = 0 ∨ t = 1 := by omega
        by_cases e : d = v
        · subst e
          rcases tt with rfl | rfl
          · rw [q2.2.2.1 _ (fun r' a b c => by have := (gix_inj (by omega) (by omega) c).2.2; omega)]
            exact q1.2.1 r (by omega) (by omega)
          · exact q2.2.1 r (by omega) (by omega)
        · rw [q2.2.2.1 _ (fun r' a b c => by have := (gix_inj (by omega) (by omega) c).1; omega), q1.2.2.1 _ (fun r' a b c => by have := (gix_inj (by omega) (by omega) c).1; omega)]
          exact hz d t r d0 (by omega) t0 t1 r0 r1
      · intro M' z
        exact ⟨fun o h1 h2 => by rw [z.1 o h1 h2, q2.1 o h1 h2, q1.1 o h1 h2], z.2.1, rMemo_le z.2.2 (by omega)⟩
    · rw [if_neg (by rw [e50, wr_id (by omega) (by omega), wr_id (by omega) (by omega)]; exact h)]
      exact ⟨_, rfl, fun _ _ _ => rfl, fun d t r d0 d1 t0 t1 r0 r1 => hz d t r d0 (by omega) t0 t1 r0 r1, rMemo_le me (by omega)⟩
