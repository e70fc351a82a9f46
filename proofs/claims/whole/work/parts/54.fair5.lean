/-! fair, both -/
def fR0 : fR := (false, 0, 0, [])
theorem fLeaf_true {low sum : Int} {path : List Int} {R : fR} : (fLeaf low sum path R).1 = true := by
  unfold fLeaf
  split
  · rfl
  · rename_i h
    cases hb : R.1
    · exact (h (Or.inl hb)).elim
    · rfl
theorem sFa_true {W : Int → Int} {m : Int} (r : Nat) : ∀ (s : Nat → Int) (an : Int) (path : List Int) (R : fR), (sFa W m r s an path R).1 = true := by
  induction r with
  | zero => intro s an path R; exact fLeaf_true
  | succ r ih => intro s an path R; exact ih _ _ _ _
def sFair (W : Int → Int) (m : Int) : fR := sFa W m m.toNat (fun _ => 0) (W 1) [] fR0
theorem findFair_e {W : Int → Int} {M : xM} {m c : Int} (i : rI M W) (g : gW W) (me : rMemo c M W) (hc : c < 1400000000) (hm : 1 ≤ m ∧ m ≤ 6) : yk (fX3_findFair M m) fun M' => (∀ o, (o < 43 ∨ 73 < o) → M' o = M o) ∧ kRel m (sFair W m) M' ∧ rMemo (c + 120000) M' W := by
  have gb := g.1
  have iB := i.1
  unfold gB at gb
  unfold rB at iB
  unfold fX3_findFair fX3_gatherEach
  rw [yk_xlet, yk_xb, yk_xb]
  have isl0 : isl M (xup M 50 1 m) := fun o h1 h2 h3 h4 => xup_o (by omega)
  have me0 : rMemo c (xup M 50 1 m) W := rMemo_fr me g.2.2.2.2.2.2.2.2.2 ⟨xup_o (by omega), xup_o (by omega), xup_o (by omega), xup_o (by omega), xup_o (by omega)⟩ (fun k hk => xup_o (by omega)) (fun _ _ => rfl) (fun _ _ _ => rfl)
  refine yk.mono (each_q i g hm xfuel _ 0 c isl0 (xup_e rfl) me0 (by omega) (by omega) (by unfold xfuel; omega) (by omega) (fun p d t r p0 => by omega)) ?_
  intro M1 q1
  have e0 : 67 + (wr 0).toNat = 67 := by decide
  rw [yk_some, yk_xlet, xix_at (by omega) (by omega) (by omega), e0, fJ7_fill_53178_i4_e, yk_xb, yk_some, yk_xb]
  have f1 : ∀ o, (o < 43 ∨ 62 < o ∨ o = 50 ∨ o = 51 ∨ o = 52) → M1 o = xup M 50 1 m o := fun o ho => q1.1 o (by omega) (by omega)
  have e5 : xfi (xup M1 50 11 0) 67 10 0 5 0 = ((W 5).toNat : Int) := by
    rw [xfi_o (by omega), xup_o (by omega), f1 5 (by omega), xup_o (by omega), iB.2.1]
    omega
  have e501 : xfi (xup M1 50 11 0) 67 10 0 50 1 = m := by
    rw [xfi_o (by omega), xup_n (by omega), f1 50 (by omega), xup_e rfl]
  rw [e5]
  have tq := tryT_q (W := W) (m := m) g.1 hm m.toNat 40 (xfi (xup M1 50 11 0) 67 10 0) 0 0 (fun _ => 0) [] fR0 (by omega) (by omega) (by omega) (by omega) e501 (fun p d t r a b c e f g' h' => by rw [xfi_o (by omega), xup_o (by omega)]; exact q1.2.1 p d t r a b c e f g' h') (fun p hp => by rw [xfi_e (by omega) (by omega)]) (fun p => by omega) rfl (fun j hj => by omega) ⟨by rw [xfi_o (by omega), xup_e rfl]; rfl, fun h => by cases h⟩ ⟨by decide, by decide⟩
  have z0 : ((0 : Nat) : Int) = 0 := rfl
  rw [z0, Int.add_zero, Int.emod_eq_of_lt (by omega) (by omega)] at tq
  refine yk.mono tq ?_
  intro M2 q2
  rw [yk_some]
  have f2 : ∀ o, (o < 50 ∨ 73 < o) → M2 o = M1 o := fun o ho => by rw [q2.1 o (by omega) (by omega) (by omega) (by omega), xfi_o (by omega), xup_o (by omega)]
  refine ⟨fun o ho => by rw [f2 o (by omega), f1 o (by omega), xup_o (by omega)], q2.2.2.2, ?_⟩
  exact rMemo_le (rMemo_fr q1.2.2 g.2.2.2.2.2.2.2.2.2 ⟨f2 _ (by omega), f2 _ (by omega), f2 _ (by omega), f2 _ (by omega), f2 _ (by omega)⟩ (fun k hk => f2 _ (by omega)) (fun _ _ => rfl) (fun _ _ _ => rfl)) (by omega)
theorem fairM_e {M : xM} {m : Int} (gw : gW (M 95)) (s0 : rSum0 M) (hm : 1 ≤ m ∧ m ≤ 6) : yk (fX12_triesFair 40 (xup M 94 30 0) 0 m (M 95 1)) fun M' => (∀ o, o ≠ 94 → o ≠ 101 → o ≠ 102 → (o < 106 ∨ 107 < o) → M' o = M o) ∧ (∀ j, j ≠ 28 → j ≠ 29 → j ≠ 30 → M' 94 j = M 94 j) ∧ mRel m (sFair (M 95) m) M' := by
  have gb := gw.1
  unfold gB at gb
  have tq := triesM_q (W := M 95) (m := m) gw hm m.toNat 40 (xup M 94 30 0) 0 (M 95 1) (fun _ => 0) [] fR0 (by omega) (by omega) (xup_o (by omega)) (by omega) (fun p hp => by rw [xup_o (by omega)]; exact s0 p (by omega)) (fun p => by omega) rfl (fun j hj => by omega) ⟨by rw [xup_e rfl]; rfl, fun h => by cases h⟩ ⟨by decide, by decide⟩
  refine yk.mono tq ?_
  intro M2 q2
  refine ⟨?_, fun j j1 j2 j3 => by rw [q2.2.1 j j1 j2 j3, xup_n j3], q2.2.2.2.2⟩
  intro o o1 o2 o3 o4
  by_cases e : o = 108
  · subst e
    rw [q2.2.2.2.1, xup_o (by omega)]
  · rw [q2.1 o o1 o2 o3 (by omega), xup_o o1]
theorem tc_fair {ph : Bool} {c : Int} {M : xM} {a b : Int} (I : Inv ph c M) (hc : c < 1300000000) (ha : -2147483648 ≤ a ∧ a < 2147483648) (hb : -2147483648 ≤ b ∧ b < 2147483648) : yk (fX11_fair M a b) fun q => yk (fX12_fair q.2 a b) fun z => q.1 = z.1 ∧ Inv ph (c + 120000) z.2 := by
  have iB := I.1.1
  have gb := I.2.1.1
  unfold rB at iB
  unfold gB at gb
  by_cases g : (1 ≤ a ∧ a ≤ 6) ∧ (b = 0 ∨ b = 1 ∨ (10 ≤ b ∧ b ≤ 9 + a))
  · have eb : wr b = b := wr_id (by omega) (by omega)
    have e1 : wr 1 = 1 := by decide
    have tr : (sFair (M 95) a).1 = true := sFa_true _ _ _ _ _
    have bodyK : yk (xb (fX3_findFair M a) fun M3 => (if wr b = 0 then some (M3 50 9, M3) else (if wr b = wr 1 then some (M3 50 10, M3) else (xrd M3 64 30 (b - 10) fun r4 => some (r4 + 2, M3))))) fun z => z.1 = (if b = 0 then (sFair (M 95) a).2.1 else if b = 1 then (sFair (M 95) a).2.2.1 else (sFair (M 95) a).2.2.2.getD (b - 10).toNat 0 + 2) ∧ rMemo (c + 120000) z.2 (M 95) ∧ ∀ o, (o < 43 ∨ 73 < o) → z.2 o = M o := by
      rw [yk_xb]
      refine yk.mono (findFair_e I.1 I.2.1 I.2.2.2.2.1 (by omega) g.1) ?_
      intro M3 q
      have k := q.2.1.2 tr
      rw [eb, e1]
      by_cases b0 : b = 0
      · rw [if_pos b0, if_pos b0, yk_some]
        exact ⟨k.1, q.2.2, q.1⟩
      · rw [if_neg b0, if_neg b0]
        by_cases b1 : b = 1
        · rw [if_pos b1, if_pos b1, yk_some]
          exact ⟨k.2.1, q.2.2, q.1⟩
        · have t := k.2.2 (b - 10).toNat (by omega)
          have e8 : (((b - 10).toNat : Nat) : Int) = b - 10 := by omega
          rw [e8] at t
          rw [if_neg b1, if_neg b1, xrd_at (by omega) (by omega) (by omega), t, yk_some]
          exact ⟨rfl, q.2.2, q.1⟩
    have finK : yk (fX11_fair M a b) fun z => z.1 = (if b = 0 then (sFair (M 95) a).2.1 else if b = 1 then (sFair (M 95) a).2.2.1 else (sFair (M 95) a).2.2.2.getD (b - 10).toNat 0 + 2) ∧ rMemo (c + 120000) z.2 (M 95) ∧ ∀ o, (o < 43 ∨ 73 < o) → z.2 o = M o := by
      unfold fX11_fair fX11_isTurnOf
      rw [within_eq (by omega) (by omega) (by omega) (by omega) (by omega) (by omega), if_pos (show decide (1 ≤ a ∧ a ≤ 6) = true by rw [decide_eq_true_eq]; exact g.1), within_eq (by omega) (by omega) (by omega) (by omega) (by omega) (by omega), yk_xj]
      by_cases b0 : b = 0
      · rw [if_pos (show wr b = 0 by rw [eb]; exact b0)]
        exact bodyK
      · rw [if_neg (show ¬ wr b = 0 by rw [eb]; exact b0)]
        by_cases b1 : b = 1
        · rw [if_pos (show wr b = wr 1 by rw [eb, e1]; exact b1)]
          exact bodyK
        · rw [if_neg (show ¬ wr b = wr 1 by rw [eb, e1]; exact b1), if_pos (show decide (10 ≤ b ∧ b ≤ 10 + a - 1) = true by rw [decide_eq_true_eq]; omega)]
          exact bodyK
    refine yk.mono finK ?_
    intro q hq
    have w := hq.2.2 95 (by omega)
    have s0 : rSum0 q.2 := fun j hj => by rw [hq.2.2 108 (by omega)]; exact I.2.2.2.2.2.1 j hj
    have bodyM : yk (xlet (xup q.2 94 30 0) fun M2 => xb (fX12_triesFair 40 M2 0 a (M2 95 1)) fun M4 => (if wr b = 0 then some (M4 94 28, M4) else (if wr b = wr 1 then some (M4 94 29, M4) else (xrd M4 107 6 (b - 10) fun r5 => some (r5 + 2, M4))))) fun z => z.1 = q.1 ∧ (∀ o, o ≠ 94 → o ≠ 101 → o ≠ 102 → (o < 106 ∨ 107 < o) → z.2 o = q.2 o) ∧ ∀ j, j ≠ 28 → j ≠ 29 → j ≠ 30 → z.2 94 j = q.2 94 j := by
      have fm := fairM_e (M := q.2) (m := a) (by rw [w]; exact I.2.1) s0 g.1
      have w3 : xup q.2 94 30 0 95 1 = q.2 95 1 := by rw [xup_o (by omega)]
      rw [yk_xlet, yk_xb, w3]
      refine yk.mono fm ?_
      intro M4 r
      rw [w] at r
      have k := r.2.2.2 tr
      rw [eb, e1, hq.1]
      by_cases b0 : b = 0
      · rw [if_pos b0, if_pos b0, yk_some]
        exact ⟨k.1, r.1, r.2.1⟩
      · rw [if_neg b0, if_neg b0]
        by_cases b1 : b = 1
        · rw [if_pos b1, if_pos b1, yk_some]
          exact ⟨k.2.1, r.1, r.2.1⟩
        · have t := k.2.2 (b - 10).toNat (by omega)
          have e8 : (((b - 10).toNat : Nat) : Int) = b - 10 := by omega
          rw [e8] at t
          rw [if_neg b1, if_neg b1, xrd_at (by omega) (by omega) (by omega), t, yk_some]
          exact ⟨rfl, r.1, r.2.1⟩
    have finM : yk (fX12_fair q.2 a b) fun z => z.1 = q.1 ∧ (∀ o, o ≠ 94 → o ≠ 101 → o ≠ 102 → (o < 106 ∨ 107 < o) → z.2 o = q.2 o) ∧ ∀ j, j ≠ 28 → j ≠ 29 → j ≠ 30 → z.2 94 j = q.2 94 j := by
      unfold fX12_fair
      rw [isIn_eq (by omega) (by omega) (by omega) (by omega) (by omega) (by omega), if_pos (show decide (1 ≤ a ∧ a ≤ 6) = true by rw [decide_eq_true_eq]; exact g.1), isIn_eq (by omega) (by omega) (by omega) (by omega) (by omega) (by omega), isIn_eq (by omega) (by omega) (by omega) (by omega) (by omega) (by omega), yk_xj]
      by_cases b01 : 0 ≤ b ∧ b ≤ 1
      · rw [if_pos (show decide (0 ≤ b ∧ b ≤ 1) = true by rw [decide_eq_true_eq]; exact b01)]
        exact bodyM
      · rw [if_neg (show ¬ decide (0 ≤ b ∧ b ≤ 1) = true by rw [decide_eq_true_eq]; exact b01), if_pos (show decide (10 ≤ b ∧ b ≤ 9 + a) = true by rw [decide_eq_true_eq]; omega)]
        exact bodyM
    refine yk.mono finM ?_
    intro z hz
    have e94 : ∀ j, j ≠ 28 → j ≠ 29 → j ≠ 30 → z.2 94 j = M 94 j := fun j j1 j2 j3 => by rw [hz.2.2 j j1 j2 j3, hq.2.2 94 (by omega)]
    refine ⟨hz.1.symm, scr_end I hq.2.1 (fun o h1 _ _ => hq.2.2 o (by omega)) (fun o h1 h2 => hz.2.1 o h2 (by omega) (by omega) (by omega)) ⟨e94 _ (by omega) (by omega) (by omega), e94 _ (by omega) (by omega) (by omega), e94 _ (by omega) (by omega) (by omega), e94 _ (by omega) (by omega) (by omega), e94 _ (by omega) (by omega) (by omega)⟩ (by rw [hz.2.1 108 (by omega) (by omega) (by omega) (by omega), hq.2.2 108 (by omega)])⟩
  · have e1 : fX11_fair M a b = some (-1000000, M) := by
      have e1 : wr 1 = 1 := by decide
      unfold fX11_fair fX11_isTurnOf
      rw [within_eq (by omega) (by omega) (by omega) (by omega) (by omega) (by omega)]
      by_cases h1 : 1 ≤ a ∧ a ≤ 6
      · rw [if_pos (show decide (1 ≤ a ∧ a ≤ 6) = true by rw [decide_eq_true_eq]; exact h1), within_eq (by omega) (by omega) (by omega) (by omega) (by omega) (by omega), xj_e, if_neg (show ¬ wr b = 0 by rw [wr_id (by omega) (by omega)]; omega), if_neg (show ¬ wr b = wr 1 by rw [wr_id (by omega) (by omega), e1]; omega), if_neg (show ¬ decide (10 ≤ b ∧ b ≤ 10 + a - 1) = true by rw [decide_eq_true_eq]; omega)]
      · rw [if_neg (show ¬ decide (1 ≤ a ∧ a ≤ 6) = true by rw [decide_eq_true_eq]; exact h1)]
    have e2 : fX12_fair M a b = some (-1000000, M) := by
      unfold fX12_fair
      rw [isIn_eq (by omega) (by omega) (by omega) (by omega) (by omega) (by omega)]
      by_cases h1 : 1 ≤ a ∧ a ≤ 6
      · rw [if_pos (show decide (1 ≤ a ∧ a ≤ 6) = true by rw [decide_eq_true_eq]; exact h1), isIn_eq (by omega) (by omega) (by omega) (by omega) (by omega) (by omega), isIn_eq (by omega) (by omega) (by omega) (by omega) (by omega) (by omega), xj_e, if_neg (show ¬ decide (0 ≤ b ∧ b ≤ 1) = true by rw [decide_eq_true_eq]; omega), if_neg (show ¬ decide (10 ≤ b ∧ b ≤ 9 + a) = true by rw [decide_eq_true_eq]; omega)]
      · rw [if_neg (show ¬ decide (1 ≤ a ∧ a ≤ 6) = true by rw [decide_eq_true_eq]; exact h1)]
    exact ⟨_, e1, _, e2, rfl, Inv_le I (by omega)⟩
