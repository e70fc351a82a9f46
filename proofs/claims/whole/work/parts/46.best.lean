/-! the turns that are best -/
def sVt (N : Int) (C : Int → Int → Int → Int) (g : Bool) (m : Int) (r : Nat) (an t : Int) : Int := C (m - (r + 1)) ((an + t) % N) (sTo1 t) + sBf N C g m r ((an + t) % N)
def sBt (N : Int) (C : Int → Int → Int → Int) (g : Bool) (m : Int) (r : Nat) (an : Int) : Int := if sVt N C g m r an 0 = sBf N C g m (r + 1) an then 0 else if sVt N C g m r an 1 = sBf N C g m (r + 1) an then 1 else -1
def sBj (N : Int) (C : Int → Int → Int → Int) (g : Bool) (m : Int) : Nat → Int → Nat → Int
  | 0, _, _ => 0
  | r + 1, an, 0 => sBt N C g m r an
  | r + 1, an, j + 1 => sBj N C g m r ((an + sBt N C g m r an) % N) j
theorem sBf_vt (N : Int) (C : Int → Int → Int → Int) (g : Bool) (m : Int) (r : Nat) (an : Int) : sBf N C g m (r + 1) an = sOpt g (sVt N C g m r an 0) (sVt N C g m r an 1) (sVt N C g m r an (-1)) := rfl
theorem sBt_vt (N : Int) (C : Int → Int → Int → Int) (g : Bool) (m : Int) (r : Nat) (an : Int) : sVt N C g m r an (sBt N C g m r an) = sBf N C g m (r + 1) an := by
  have e := sBf_vt N C g m r an
  unfold sBt
  by_cases h0 : sVt N C g m r an 0 = sBf N C g m (r + 1) an
  · rw [if_pos h0]; exact h0
  · rw [if_neg h0]
    by_cases h1 : sVt N C g m r an 1 = sBf N C g m (r + 1) an
    · rw [if_pos h1]; exact h1
    · rw [if_neg h1]
      unfold sOpt at e
      split at e <;> omega
theorem sBt_rng (N : Int) (C : Int → Int → Int → Int) (g : Bool) (m : Int) (r : Nat) (an : Int) : -1 ≤ sBt N C g m r an ∧ sBt N C g m r an ≤ 1 := by
  unfold sBt
  repeat' split
  all_goals omega
theorem sBj_rng (N : Int) (C : Int → Int → Int → Int) (g : Bool) (m : Int) (r : Nat) : ∀ (an : Int) (j : Nat), -1 ≤ sBj N C g m r an j ∧ sBj N C g m r an j ≤ 1 := by
  induction r with
  | zero => intro an j; show -1 ≤ (0 : Int) ∧ (0 : Int) ≤ 1; omega
  | succ r ih =>
    intro an j
    cases j with
    | zero => exact sBt_rng N C g m r an
    | succ j => exact ih _ j
section BK
variable {N A m : Int} {C : Int → Int → Int → Int} {g : Bool}
theorem firstB_e {M : xM} {d r : Int} {k : Nat} (hC : ∀ d an t, -99990 ≤ C d an t ∧ C d an t ≤ 99990) (hm : 1 ≤ m ∧ m ≤ 30) (e50 : M 50 1 = m) (hc : cOk N A m C M) (ha : aOk N A m C g M (-1)) (hd : 0 ≤ d ∧ d < m) (hk : (k : Int) = m - (d + 1)) (hr : -d ≤ r ∧ r ≤ d) : fX3_firstTurn M d r = some (sBt N C g m k ((A + r) % N)) := by
  have ek : (m - (d + 1)).toNat = k := by omega
  have ek2 : (m - d).toNat = k + 1 := by omega
  have em : m - ((k : Int) + 1) = d := by omega
  have hv := ha d r (by omega) (by omega) hr.1 hr.2
  rw [ek2] at hv
  have ar := aix_rng (d := d) (r := r) hm (by omega) (by omega)
  have br := sBf_rng (N := N) (g := g) (m := m) hC (k + 1) ((A + r) % N)
  have wt : ∀ t, -1 ≤ t → t ≤ 1 → fX3_withTurn M d r t = some (sVt N C g m k ((A + r) % N) t) := by
    intro t t0 t1
    have := withT_e (g := g) (k := k) (t := t) hm e50 hc (fun r r0 r1 => by have := ha (d + 1) r (by omega) (by omega) r0 r1; rw [ek] at this; exact this) hd hr ⟨t0, t1⟩
    unfold sVt
    rw [em]
    exact this
  have vr : ∀ t, -3100000 ≤ sVt N C g m k ((A + r) % N) t ∧ sVt N C g m k ((A + r) % N) t ≤ 3100000 := by
    intro t
    have a := hC (m - (k + 1)) (((A + r) % N + t) % N) (sTo1 t)
    have b := sBf_rng (N := N) (g := g) (m := m) hC k (((A + r) % N + t) % N)
    unfold sVt
    omega
  have step : ∀ (n : Nat) (j t : Int), 0 ≤ j → j < 3 → ([0, 1, -1] : List Int).getD j.toNat 0 = t → -1 ≤ t ∧ t ≤ 1 → fX3_firstTurn_L2 (n + 1) M d r j = if sVt N C g m k ((A + r) % N) t = sBf N C g m (k + 1) ((A + r) % N) then some (.inr t) else fX3_firstTurn_L2 n M d r (j + 1) := by
    intro n j t j0 j1 ht ht2
    have v1 := vr t
    conv => lhs; unfold fX3_firstTurn_L2
    rw [if_pos (by rw [wr_id (by omega) (by omega), wr_id (by omega) (by omega)]; omega), xtb_at (by omega) (by omega) (by omega), ht, wt t ht2.1 ht2.2, xb_some, aheadOf_e e50, xrd_at ar.1 ar.2 (by omega), hv, xtb_at (by omega) (by omega) (by omega), ht, wr_id (by omega) (by omega), wr_id (by omega) (by omega)]
  have hx : ∃ y, xfuel = y + 1 + 1 + 1 + 1 := ⟨999996, by unfold xfuel; omega⟩
  obtain ⟨y, hy⟩ := hx
  have z1 : (0 : Int) + 1 = 1 := by omega
  have z2 : (1 : Int) + 1 = 2 := by omega
  have bt := sBt_vt N C g m k ((A + r) % N)
  unfold sBt at bt
  unfold fX3_firstTurn sBt
  rw [hy, step _ 0 0 (by omega) (by omega) rfl (by omega)]
  by_cases h0 : sVt N C g m k ((A + r) % N) 0 = sBf N C g m (k + 1) ((A + r) % N)
  · rw [if_pos h0, if_pos h0]
    rfl
  · rw [if_neg h0] at bt
    rw [if_neg h0, if_neg h0, z1, step _ 1 1 (by omega) (by omega) rfl (by omega)]
    by_cases h1 : sVt N C g m k ((A + r) % N) 1 = sBf N C g m (k + 1) ((A + r) % N)
    · rw [if_pos h1, if_pos h1]
      rfl
    · rw [if_neg h1] at bt
      rw [if_neg h1, if_neg h1, z2, step _ 2 (-1) (by omega) (by omega) rfl (by omega), if_pos bt]
      rfl
theorem turnsB_q {x : Int} (hC : ∀ d an t, -99990 ≤ C d an t ∧ C d an t ≤ 99990) (hm : 1 ≤ m ∧ m ≤ 30) (k : Nat) : ∀ (n : Nat) (M : xM) (d r : Int), 0 ≤ d → d + k = m → -d ≤ r → r ≤ d → k < n → M 50 1 = m → cOk N A m C M → aOk N A m C g M (-1) → yk (fX3_findBest_L33 n M x r d) fun M' => (∀ o, o ≠ 64 → M' o = M o) ∧ (∀ j, j < d → M' 64 j = M 64 j) ∧ ∀ j : Nat, j < k → M' 64 (d + j) = sBj N C g m k ((A + r) % N) j := by
  induction k with
  | zero =>
    intro n M d r h0 h1 h2 h3 h4 e50 hc ha
    obtain ⟨n', rfl⟩ : ∃ n', n = n' + 1 := ⟨n - 1, by omega⟩
    unfold fX3_findBest_L33
    rw [e50, if_neg (by rw [wr_id (by omega) (by omega), wr_id (by omega) (by omega)]; omega)]
    exact ⟨_, rfl, fun o ho => rfl, fun j hj => rfl, fun j hj => by omega⟩
  | succ k ih =>
    intro n M d r h0 h1 h2 h3 h4 e50 hc ha
    obtain ⟨n', rfl⟩ : ∃ n', n = n' + 1 := ⟨n - 1, by omega⟩
    have ft := firstB_e (k := k) (r := r) hC hm e50 hc ha (d := d) (by omega) (by omega) ⟨h2, h3⟩
    have br := sBt_rng N C g m k ((A + r) % N)
    unfold fX3_findBest_L33
    rw [if_pos (by rw [e50, wr_id (by omega) (by omega), wr_id (by omega) (by omega)]; omega), ft, xb_some, xwt_at (by omega) (by omega) (by omega), xrd_at (by omega) (by omega) (by omega), xup_e rfl]
    refine yk.mono (ih n' _ (d + 1) _ (by omega) (by omega) (by omega) (by omega) (by omega) (by rw [xup_o (by omega)]; exact e50) (fun d t r a b c e f g => by rw [xup_o (by omega)]; exact hc d t r a b c e f g) (fun e r a b c f => by rw [xup_o (by omega)]; exact ha e r a b c f)) ?_
    intro M' q
    refine ⟨fun o ho => by rw [q.1 o ho, xup_o ho], fun j hj => by rw [q.2.1 j (by omega), xup_n (by omega)], ?_⟩
    intro j hj
    cases j with
    | zero =>
      have e0 : d + ((0 : Nat) : Int) = d := by omega
      rw [e0, q.2.1 d (by omega), xup_e rfl]
      rfl
    | succ j =>
      have e0 : d + ((j + 1 : Nat) : Int) = d + 1 + j := by omega
      have e1 : (A + (r + sBt N C g m k ((A + r) % N))) % N = ((A + r) % N + sBt N C g m k ((A + r) % N)) % N := by rw [Int.emod_add_emod, Int.add_assoc]
      rw [e0, q.2.2 j (by omega), e1]
      rfl
end BK
def sCt (W : Int → Int) (set : Int) : Int → Int → Int → Int := fun d an t => sTw W set d an t (W 5).toNat
theorem sCt_rng {W : Int → Int} (g : gB W) (set : Int) : ∀ d an t, -99990 ≤ sCt W set d an t ∧ sCt W set d an t ≤ 99990 := by
  intro d an t
  unfold gB at g
  have := sTw_rng W set d an t (W 5).toNat
  unfold sCt
  omega
/-- what the class finds best -/
theorem findBest_e {W : Int → Int} {M : xM} {m c : Int} (i : rI M W) (g : gW W) (me : rMemo c M W) (hc : c < 1600000000) (hm : 1 ≤ m ∧ m ≤ 30) : yk (fX3_findBest M m) fun q => q.1 = sBf (W 0) (sCt W (sAll W)) true m m.toNat (W 1) ∧ (∀ o, (o < 43 ∨ 64 < o ∨ o = 52 ∨ (53 ≤ o ∧ o ≤ 62)) → q.2 o = M o) ∧ q.2 50 1 = m ∧ (∀ j : Nat, j < m.toNat → q.2 64 j = sBj (W 0) (sCt W (sAll W)) true m m.toNat (W 1) j) ∧ rMemo (c + 60000) q.2 W := by
  have gb := g.1
  have iB := i.1
  unfold gB at gb
  unfold rB at iB
  have ar := sAll_rng (W := W) (by omega)
  unfold fX3_findBest fX3_gather
  rw [yk_xlet, allK_e (W := W) (by rw [xup_o (by omega)]; exact iB.2.1) (by omega), yk_xb, yk_xb]
  have isl0 : isl M (xup M 50 1 m) := fun o h1 h2 h3 h4 => xup_o (by omega)
  have me0 : rMemo c (xup M 50 1 m) W := rMemo_fr me g.2.2.2.2.2.2.2.2.2 ⟨xup_o (by omega), xup_o (by omega), xup_o (by omega), xup_o (by omega), xup_o (by omega)⟩ (fun k hk => xup_o (by omega)) (fun _ _ => rfl) (fun _ _ _ => rfl)
  refine yk.mono (gat4_a (set := sAll W) i g (by omega) hm xfuel _ 0 c isl0 (xup_e rfl) me0 (by omega) (by omega) (by unfold xfuel; omega) (by omega) (fun d t r d0 d1 => by omega)) ?_
  intro M1 q1
  rw [yk_some, yk_xb2]
  have e501 : M1 50 1 = m := by rw [q1.1 50 (by omega) (by omega), xup_e rfl]
  have hcOk : cOk (W 0) (W 1) m (sCt W (sAll W)) M1 := fun d t r a b c e f g => q1.2.1 d t r a b c e f g
  refine yk.mono (reckon_e (N := W 0) (A := W 1) (g := true) (sCt_rng g.1 _) hm rfl (by omega) e501 hcOk) ?_
  intro q hq
  have e502 : q.2 50 1 = m := by rw [hq.2.1 50 (by omega)]; exact e501
  rw [yk_xb]
  refine yk.mono (turnsB_q (N := W 0) (A := W 1) (g := true) (C := sCt W (sAll W)) (sCt_rng g.1 _) hm m.toNat xfuel q.2 0 0 (by omega) (by omega) (by omega) (by omega) (by unfold xfuel; omega) e502 (fun d t r a b c e f g => by rw [hq.2.1 51 (by omega)]; exact hcOk d t r a b c e f g) hq.2.2) ?_
  intro M3 q3
  rw [yk_some]
  have f3 : ∀ o, o ≠ 64 → o ≠ 63 → M3 o = M1 o := fun o h1 h2 => by rw [q3.1 o h1, hq.2.1 o h2]
  refine ⟨hq.1, ?_, ?_, ?_, ?_⟩
  · intro o ho
    show M3 o = M o
    rw [f3 o (by omega) (by omega), q1.1 o (by omega) (by omega), xup_o (by omega)]
  · show M3 50 1 = m
    rw [f3 50 (by omega) (by omega)]
    exact e501
  · intro j hj
    have := q3.2.2 j hj
    have e0 : (0 : Int) + (j : Int) = j := by omega
    rw [e0, Int.add_zero, Int.emod_eq_of_lt (by omega) (by omega)] at this
    exact this
  · show rMemo _ M3 W
    exact rMemo_le (rMemo_fr q1.2.2 g.2.2.2.2.2.2.2.2.2 ⟨f3 _ (by omega) (by omega), f3 _ (by omega) (by omega), f3 _ (by omega) (by omega), f3 _ (by omega) (by omega), f3 _ (by omega) (by omega)⟩ (fun k hk => f3 _ (by omega) (by omega)) (fun _ _ => rfl) (fun _ _ _ => rfl)) (by omega)
