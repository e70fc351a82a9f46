/-! what the steps of a want come to, in the reference's pile -/
theorem wl_i {x : Int} (h1 : -9223372036854775808 ≤ x) (h2 : x < 9223372036854775808) : wl x = x := by unfold wl; omega
theorem xnot_e {a : Int} (h1 : -2147483648 ≤ a) (h2 : a < 2147483648) : xxor a (-1) = -a - 1 := by
  unfold xxor
  have e : Int32.ofInt (-1) = -1 := rfl
  rw [e, Int32.xor_neg_one, Int32.toInt_not, wr_toInt, wr_id h1 h2]
  have : (2 : Nat) ^ 32 = 4294967296 := rfl
  rw [this, Int.bmod_def]
  split <;> omega
theorem month_e {d : Int} (h1 : 0 ≤ d) (h2 : d < 2147483648) : xrem (xdiv d 30) 12 = d / 30 % 12 := by
  unfold xrem xdiv
  rw [wr_id (x := d) (by omega) h2, wr_id (x := 30) (by omega) (by omega), wr_id (x := 12) (by omega) (by omega), Int.tdiv_eq_ediv_of_nonneg h1, wr_id (by omega) (by omega), Int.tmod_eq_emod_of_nonneg (by omega)]
def onSt (P : Int → Int) : List Int → Prop
  | [] => True
  | a :: r => P r.length = a ∧ onSt P r
theorem onSt_fr {P P' : Int → Int} {st : List Int} (h : onSt P st) (e : ∀ j : Int, 0 ≤ j → j < st.length → P' j = P j) : onSt P' st := by
  induction st with
  | nil => trivial
  | cons a r ih =>
    have hl : ((a :: r).length : Int) = r.length + 1 := by simp
    refine ⟨?_, ih h.2 (fun j h0 h1 => e j h0 (by omega))⟩
    rw [e _ (by omega) (by omega)]
    exact h.1
theorem onSt_push {M : xM} {o : Nat} {t x : Int} {st : List Int} (h : onSt (M o) st) (ht : t = st.length) : onSt (xup M o t x o) (x :: st) := by
  subst ht
  refine ⟨xup_e rfl, onSt_fr h (fun j h0 h1 => xup_n (by omega))⟩
def vTy : List Int → List Bool → Prop
  | [], [] => True
  | a :: r, t :: s => (t = true → a = 0 ∨ a = 1) ∧ vTy r s
  | _, _ => False
theorem vTy_len {st : List Int} : ∀ {ts : List Bool}, vTy st ts → st.length = ts.length := by
  induction st with
  | nil => intro ts h; cases ts with
    | nil => rfl
    | cons _ _ => exact h.elim
  | cons a r ih => intro ts h; cases ts with
    | nil => exact h.elim
    | cons t s => simp [ih h.2]
theorem vTy_c {st : List Int} {t : Bool} {s : List Bool} (h : vTy st (t :: s)) : ∃ a r, st = a :: r ∧ (t = true → a = 0 ∨ a = 1) ∧ vTy r s := by
  cases st with
  | nil => exact h.elim
  | cons a r => exact ⟨a, r, rfl, h.1, h.2⟩
theorem tyS_inv {q : Int × Int} {ts h' : List Bool} (h : tyS q ts = some h') :
    (((0 ≤ q.1 ∧ q.1 ≤ 7) ∧ (q.1 = 0 → 0 ≤ q.2 ∧ q.2 ≤ 9999) ∧ ts.length < 26) ∧ h' = false :: ts)
    ∨ ((q.1 = 16 ∧ 0 < q.2 ∧ q.2 ≤ 9999) ∧ ∃ r, ts = false :: r ∧ h' = false :: r)
    ∨ (q.1 = 20 ∧ ∃ r, ts = true :: r ∧ h' = true :: r)
    ∨ ((13 ≤ q.1 ∧ q.1 ≤ 15) ∧ ∃ r, ts = false :: false :: r ∧ h' = false :: r)
    ∨ ((17 ≤ q.1 ∧ q.1 ≤ 19) ∧ ∃ r, ts = false :: false :: r ∧ h' = true :: r)
    ∨ ((21 ≤ q.1 ∧ q.1 ≤ 22) ∧ ∃ r, ts = true :: true :: r ∧ h' = true :: r) := by
  unfold tyS at h
  by_cases h1 : q.1 < 13
  · rw [if_pos h1] at h
    split at h
    · rename_i g
      cases h
      exact Or.inl ⟨⟨g.1, g.2.1, g.2.2⟩, rfl⟩
    · cases h
  · rw [if_neg h1] at h
    by_cases h2 : q.1 = 16
    · rw [if_pos h2] at h
      split at h
      · rename_i r
        split at h
        · rename_i g
          cases h
          exact Or.inr (Or.inl ⟨⟨h2, g.1, g.2⟩, r, rfl, rfl⟩)
        · cases h
      · cases h
    · rw [if_neg h2] at h
      by_cases h3 : q.1 = 20
      · rw [if_pos h3] at h
        split at h
        · rename_i r
          cases h
          exact Or.inr (Or.inr (Or.inl ⟨h3, r, rfl, rfl⟩))
        · cases h
      · rw [if_neg h3] at h
        by_cases h4 : q.1 ≤ 15
        · rw [if_pos h4] at h
          split at h
          · rename_i r
            cases h
            exact Or.inr (Or.inr (Or.inr (Or.inl ⟨by omega, r, rfl, rfl⟩)))
          · cases h
        · rw [if_neg h4] at h
          by_cases h5 : q.1 ≤ 19
          · rw [if_pos h5] at h
            split at h
            · rename_i r
              cases h
              exact Or.inr (Or.inr (Or.inr (Or.inr (Or.inl ⟨by omega, r, rfl, rfl⟩))))
            · cases h
          · rw [if_neg h5] at h
            by_cases h6 : q.1 ≤ 22
            · rw [if_pos h6] at h
              split at h
              · rename_i r
                cases h
                exact Or.inr (Or.inr (Or.inr (Or.inr (Or.inr ⟨by omega, r, rfl, rfl⟩))))
              · cases h
            · rw [if_neg h6] at h
              cases h
theorem tyR_c {q : Int × Int} {l : List (Int × Int)} {ts ts' : List Bool} (h : tyR (q :: l) ts = some ts') : ∃ h', tyS q ts = some h' ∧ tyR l h' = some ts' := by
  unfold tyR at h
  split at h
  · cases h
  · rename_i h' e
    exact ⟨h', e, h⟩
theorem both_cmp {s a b : Int} (h : 17 ≤ s ∧ s ≤ 19) : fX12_both s a b = 0 ∨ fX12_both s a b = 1 := by
  have e : s = 17 ∨ s = 18 ∨ s = 19 := by omega
  unfold fX12_both
  rcases e with rfl | rfl | rfl
  all_goals
    simp (disch := omega) only [wr_id, if_pos, if_neg, ↓reduceIte]
    split
    · exact Or.inr rfl
    · exact Or.inl rfl
theorem both_log {s a b : Int} (h : 21 ≤ s ∧ s ≤ 22) (ha : a = 0 ∨ a = 1) (hb : b = 0 ∨ b = 1) : fX12_both s a b = 0 ∨ fX12_both s a b = 1 := by
  have e : s = 21 ∨ s = 22 := by omega
  rcases e with rfl | rfl <;> rcases ha with rfl | rfl <;> rcases hb with rfl | rfl <;> decide
theorem sStep_push {F : Int → Int} {q : Int × Int} {st : List Int} (h : q.1 ≤ 7) : sStep F q st = (if q.1 = 0 then q.2 else F q.1) :: st := by unfold sStep; rw [if_pos (by omega)]
theorem sStep_part {F : Int → Int} {q : Int × Int} {a : Int} {r : List Int} (h : q.1 = 16) : sStep F q (a :: r) = xdiv a q.2 :: r := by unfold sStep; rw [if_neg (by omega), if_pos h]
theorem sStep_not {F : Int → Int} {q : Int × Int} {a : Int} {r : List Int} (h : q.1 = 20) : sStep F q (a :: r) = (1 - a) :: r := by unfold sStep; rw [if_neg (by omega), if_neg (by omega), if_pos h]
theorem sStep_both {F : Int → Int} {q : Int × Int} {a b : Int} {r : List Int} (h1 : 13 ≤ q.1) (h2 : q.1 ≠ 16) (h3 : q.1 ≠ 20) : sStep F q (b :: a :: r) = fX12_both q.1 a b :: r := by unfold sStep; rw [if_neg (by omega), if_neg h2, if_neg h3]
theorem sStep_ty {F : Int → Int} {q : Int × Int} {st : List Int} {ts h' : List Bool} (h : tyS q ts = some h') (v : vTy st ts) : vTy (sStep F q st) h' := by
  rcases tyS_inv h with ⟨g, rfl⟩ | ⟨g, r, rfl, rfl⟩ | ⟨g, r, rfl, rfl⟩ | ⟨g, r, rfl, rfl⟩ | ⟨g, r, rfl, rfl⟩ | ⟨g, r, rfl, rfl⟩
  · rw [sStep_push g.1.2]
    exact ⟨(by intro e; cases e), v⟩
  · obtain ⟨a, s, rfl, _, v2⟩ := vTy_c v
    rw [sStep_part g.1]
    exact ⟨(by intro e; cases e), v2⟩
  · obtain ⟨a, s, rfl, w, v2⟩ := vTy_c v
    rw [sStep_not g]
    refine ⟨fun _ => ?_, v2⟩
    rcases w rfl with rfl | rfl
    · exact Or.inr rfl
    · exact Or.inl rfl
  · obtain ⟨b, s, rfl, _, v2⟩ := vTy_c v
    obtain ⟨a, s2, rfl, _, v3⟩ := vTy_c v2
    rw [sStep_both (by omega) (by omega) (by omega)]
    exact ⟨(by intro e; cases e), v3⟩
  · obtain ⟨b, s, rfl, _, v2⟩ := vTy_c v
    obtain ⟨a, s2, rfl, _, v3⟩ := vTy_c v2
    rw [sStep_both (by omega) (by omega) (by omega)]
    exact ⟨fun _ => both_cmp g, v3⟩
  · obtain ⟨b, s, rfl, w1, v2⟩ := vTy_c v
    obtain ⟨a, s2, rfl, w2, v3⟩ := vTy_c v2
    rw [sStep_both (by omega) (by omega) (by omega)]
    exact ⟨fun _ => both_log g (w2 rfl) (w1 rfl), v3⟩
theorem sRun_ty {F : Int → Int} (l : List (Int × Int)) : ∀ {st : List Int} {ts ts' : List Bool}, tyR l ts = some ts' → vTy st ts → vTy (sRun F l st) ts' := by
  induction l with
  | nil => intro st ts ts' h v; cases h; exact v
  | cons q l ih =>
    intro st ts ts' h v
    obtain ⟨h', e1, e2⟩ := tyR_c h
    exact ih e2 (sStep_ty e1 v)
theorem tyR_27 {q : Int × Int} {ts h' : List Bool} (h : tyS q ts = some h') (hl : ts.length ≤ 26) : h'.length ≤ 26 := by
  rcases tyS_inv h with ⟨g, rfl⟩ | ⟨g, r, rfl, rfl⟩ | ⟨g, r, rfl, rfl⟩ | ⟨g, r, rfl, rfl⟩ | ⟨g, r, rfl, rfl⟩ | ⟨g, r, rfl, rfl⟩ <;> simp only [List.length_cons] at * <;> omega
section CM
variable {M0 : xM} {k e : Int} {F : Int → Int}
theorem comes_q (hk : 0 ≤ k ∧ k < 4) (he : e ≤ 405) (hF : ∀ s, 1 ≤ s → s ≤ 7 → M0 102 s = F s) (m : Nat) : ∀ (n : Nat) (M : xM) (i t : Int) (st : List Int) (ts ts' : List Bool), (∀ o, o ≠ 101 → M o = M0 o) → 0 ≤ i → i + m = e → m < n → vTy st ts → ts.length ≤ 26 → t = st.length → onSt (M 101) st → tyR (sL (M0 95) k i m) ts = some ts' → yk (fX12_comesTo_L6 n M k e t i) fun M' => (∀ o, o ≠ 101 → M' o = M0 o) ∧ onSt (M' 101) (sRun F (sL (M0 95) k i m) st) := by
  induction m with
  | zero =>
    intro n M i t st ts ts' hM h0 h1 h2 hv hl ht hs hr
    obtain ⟨n', rfl⟩ : ∃ n', n = n' + 1 := ⟨n - 1, by omega⟩
    unfold fX12_comesTo_L6
    simp (disch := omega) only [wr_id, if_neg, yk_some]
    exact ⟨hM, hs⟩
  | succ m ih =>
    intro n M i t st ts ts' hM h0 h1 h2 hv hl ht hs hr
    obtain ⟨n', rfl⟩ : ∃ n', n = n' + 1 := ⟨n - 1, by omega⟩
    obtain ⟨h', e1, e2⟩ := tyR_c hr
    have hv' := sStep_ty (F := F) e1 hv
    have hl' := tyR_27 e1 hl
    have hlen := vTy_len hv
    have a1 : 2540 + 820 * k + 2 * i + 1 = 2540 + 820 * k + (2 * i + 1) := by omega
    have w := hM 95 (by omega)
    have w2 := hM 102 (by omega)
    have step : ∀ (M2 : xM) (t2 : Int), (∀ o, o ≠ 101 → M2 o = M0 o) → t2 = ((sStep F (M0 95 (2540 + 820 * k + 2 * i), M0 95 (2540 + 820 * k + 2 * i + 1)) st).length : Int) → onSt (M2 101) (sStep F (M0 95 (2540 + 820 * k + 2 * i), M0 95 (2540 + 820 * k + 2 * i + 1)) st) → yk (fX12_comesTo_L6 n' M2 k e t2 (i + 1)) fun M' => (∀ o, o ≠ 101 → M' o = M0 o) ∧ onSt (M' 101) (sRun F (sL (M0 95) k i (m + 1)) st) := fun M2 t2 f1 f2 f3 => ih n' M2 (i + 1) t2 _ h' ts' f1 (by omega) (by omega) (by omega) hv' hl' f2 f3 e2
    have hq := tyS_inv e1
    dsimp only at hq
    rcases hq with ⟨g, rfl⟩ | ⟨g, r, rfl, rfl⟩ | ⟨g, r, rfl, rfl⟩ | ⟨g, r, rfl, rfl⟩ | ⟨g, r, rfl, rfl⟩ | ⟨g, r, rfl, rfl⟩
    · unfold fX12_comesTo_L6
      by_cases hz : M0 95 (2540 + 820 * k + 2 * i) = 0
      · simp (disch := omega) only [wr_id, if_pos, xrd_at, xwt_at, w, w2, xj]
        refine step _ _ (fun o ho => by rw [xup_o ho]; exact hM o ho) ?_ ?_
        · rw [sStep_push (by dsimp only; omega)]
          simp only [List.length_cons]
          omega
        · rw [sStep_push (by dsimp only; omega), if_pos hz]
          exact onSt_push hs ht
      · have f := hF (M0 95 (2540 + 820 * k + 2 * i)) (by omega) (by omega)
        simp (disch := omega) only [wr_id, if_pos, if_neg, xrd_at, xwt_at, w, w2, xj, f]
        refine step _ _ (fun o ho => by rw [xup_o ho]; exact hM o ho) ?_ ?_
        · rw [sStep_push (by dsimp only; omega)]
          simp only [List.length_cons]
          omega
        · rw [sStep_push (by dsimp only; omega), if_neg hz]
          exact onSt_push hs ht
    · obtain ⟨a, st2, rfl, _, v2⟩ := vTy_c hv
      simp only [List.length_cons] at ht hlen hl
      have r1 : M 101 (t - 1) = a := by
        have := hs.1
        have e9 : t - 1 = (st2.length : Int) := by omega
        rw [e9]
        exact this
      unfold fX12_comesTo_L6
      simp (disch := omega) only [wr_id, if_pos, if_neg, xrd_at, xwt_at, xnz_at, w, w2, r1]
      refine step _ _ (fun o ho => by rw [xup_o ho]; exact hM o ho) ?_ ?_
      · rw [sStep_part g.1]
        simp only [List.length_cons]
        omega
      · rw [sStep_part g.1]
        exact onSt_push hs.2 (by omega)
    · obtain ⟨a, st2, rfl, _, v2⟩ := vTy_c hv
      simp only [List.length_cons] at ht hlen hl
      have r1 : M 101 (t - 1) = a := by
        have := hs.1
        have e9 : t - 1 = (st2.length : Int) := by omega
        rw [e9]
        exact this
      unfold fX12_comesTo_L6
      simp (disch := omega) only [wr_id, if_pos, if_neg, xrd_at, xwt_at, w, w2, r1]
      refine step _ _ (fun o ho => by rw [xup_o ho]; exact hM o ho) ?_ ?_
      · rw [sStep_not g]
        simp only [List.length_cons]
        omega
      · rw [sStep_not g]
        exact onSt_push hs.2 (by omega)
    · obtain ⟨b, st2, rfl, _, v2⟩ := vTy_c hv
      obtain ⟨a, st3, rfl, _, v3⟩ := vTy_c v2
      simp only [List.length_cons] at ht hlen hl
      have r1 : M 101 (t + -1 - 1) = a := by
        have := hs.2.1
        have e9 : t + -1 - 1 = (st3.length : Int) := by omega
        rw [e9]
        exact this
      have r2 : M 101 (t + -1) = b := by
        have := hs.1
        have e9 : t + -1 = ((a :: st3).length : Int) := by simp only [List.length_cons]; omega
        rw [e9]
        exact this
      unfold fX12_comesTo_L6
      simp (disch := omega) only [wr_id, if_pos, if_neg, xrd_at, xwt_at, w, w2, r1, r2]
      refine step _ _ (fun o ho => by rw [xup_o ho]; exact hM o ho) ?_ ?_
      · rw [sStep_both (by dsimp only; omega) (by dsimp only; omega) (by dsimp only; omega)]
        simp only [List.length_cons]
        omega
      · rw [sStep_both (by dsimp only; omega) (by dsimp only; omega) (by dsimp only; omega)]
        exact onSt_push hs.2.2 (by omega)
    · obtain ⟨b, st2, rfl, _, v2⟩ := vTy_c hv
      obtain ⟨a, st3, rfl, _, v3⟩ := vTy_c v2
      simp only [List.length_cons] at ht hlen hl
      have r1 : M 101 (t + -1 - 1) = a := by
        have := hs.2.1
        have e9 : t + -1 - 1 = (st3.length : Int) := by omega
        rw [e9]
        exact this
      have r2 : M 101 (t + -1) = b := by
        have := hs.1
        have e9 : t + -1 = ((a :: st3).length : Int) := by simp only [List.length_cons]; omega
        rw [e9]
        exact this
      unfold fX12_comesTo_L6
      simp (disch := omega) only [wr_id, if_pos, if_neg, xrd_at, xwt_at, w, w2, r1, r2]
      refine step _ _ (fun o ho => by rw [xup_o ho]; exact hM o ho) ?_ ?_
      · rw [sStep_both (by dsimp only; omega) (by dsimp only; omega) (by dsimp only; omega)]
        simp only [List.length_cons]
        omega
      · rw [sStep_both (by dsimp only; omega) (by dsimp only; omega) (by dsimp only; omega)]
        exact onSt_push hs.2.2 (by omega)
    · obtain ⟨b, st2, rfl, _, v2⟩ := vTy_c hv
      obtain ⟨a, st3, rfl, _, v3⟩ := vTy_c v2
      simp only [List.length_cons] at ht hlen hl
      have r1 : M 101 (t + -1 - 1) = a := by
        have := hs.2.1
        have e9 : t + -1 - 1 = (st3.length : Int) := by omega
        rw [e9]
        exact this
      have r2 : M 101 (t + -1) = b := by
        have := hs.1
        have e9 : t + -1 = ((a :: st3).length : Int) := by simp only [List.length_cons]; omega
        rw [e9]
        exact this
      unfold fX12_comesTo_L6
      simp (disch := omega) only [wr_id, if_pos, if_neg, xrd_at, xwt_at, w, w2, r1, r2]
      refine step _ _ (fun o ho => by rw [xup_o ho]; exact hM o ho) ?_ ?_
      · rw [sStep_both (by dsimp only; omega) (by dsimp only; omega) (by dsimp only; omega)]
        simp only [List.length_cons]
        omega
      · rw [sStep_both (by dsimp only; omega) (by dsimp only; omega) (by dsimp only; omega)]
        exact onSt_push hs.2.2 (by omega)
theorem comes_e (hk : 0 ≤ k ∧ k < 4) (he : e ≤ 405) (hF : ∀ s, 1 ≤ s → s ≤ 7 → M0 102 s = F s) {M : xM} {i : Int} {b : Bool} (hM : ∀ o, o ≠ 101 → M o = M0 o) (h0 : 0 ≤ i) (h1 : i ≤ e) (ht : tyR (sL (M0 95) k i (e - i).toNat) [] = some [b]) : yk (fX12_comesTo M k i e) fun q => q.1 = (sRun F (sL (M0 95) k i (e - i).toNat) []).headD 0 ∧ ∀ o, o ≠ 101 → q.2 o = M0 o := by
  unfold fX12_comesTo
  rw [yk_xb]
  refine yk.mono (comes_q (F := F) hk he hF (e - i).toNat xfuel M i 0 [] [] [b] hM h0 (by omega) (by unfold xfuel; omega) trivial (by decide) rfl trivial ht) ?_
  intro M' h
  rw [yk_some]
  refine ⟨?_, h.1⟩
  obtain ⟨a, r, e5, _, v⟩ := vTy_c (sRun_ty (F := F) (sL (M0 95) k i (e - i).toNat) (st := []) ht trivial)
  have e6 := vTy_len v
  have h2 := h.2
  rw [e5] at h2 ⊢
  have e7 : (r.length : Int) = 0 := by rw [e6]; rfl
  have := h2.1
  rw [e7] at this
  exact this
end CM
