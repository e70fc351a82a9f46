/-! what a want comes to, as the class's code has it -/
section CS
variable {M : xM} {o0 n : Nat} {s t i x : Int} {P : Int × xM → Prop}
theorem cs_end (hL : i = M o0 1) (hL2 : 0 ≤ M o0 1 ∧ M o0 1 ≤ 400) (k : P (s, M)) : yk (fX9_valueOf_L8 (n + 1) M o0 s t i) P := by
  unfold fX9_valueOf_L8
  simp (disch := omega) only [wr_id, if_neg, yk_some]
  exact k
theorem cs_num (h0 : 0 ≤ i) (hL : i < M o0 1) (hL2 : M o0 1 ≤ 400) (hx : M (o0 + 1) i = x) (hx2 : 0 ≤ x ∧ x ≤ 9999) (ht : 0 ≤ t ∧ t < 40) (k : yk (fX9_valueOf_L8 n (xup M 49 t x) o0 s (t + 1) (i + 1)) P) : yk (fX9_valueOf_L8 (n + 1) M o0 s t i) P := by
  unfold fX9_valueOf_L8
  simp (disch := omega) only [wr_id, if_pos, xrd_at, hx, xnot_e, xj, xwt_at]
  exact k
theorem cs_fact (h0 : 0 ≤ i) (hL : i < M o0 1) (hL2 : M o0 1 ≤ 400) {q : Int} (hq : 1 ≤ q ∧ q ≤ 7) (hx : M (o0 + 1) i = -q) (hf : M 48 (q - 1) = x) (ht : 0 ≤ t ∧ t < 40) (k : yk (fX9_valueOf_L8 n (xup M 49 t x) o0 s (t + 1) (i + 1)) P) : yk (fX9_valueOf_L8 (n + 1) M o0 s t i) P := by
  have e : - -q - 1 = q - 1 := by omega
  unfold fX9_valueOf_L8
  simp (disch := omega) only [wr_id, if_pos, if_neg, xrd_at, hx, xnot_e, e, xj, xwt_at, hf]
  exact k
theorem cs_bin (h0 : 0 ≤ i) (hL : i < M o0 1) (hL2 : M o0 1 ≤ 400) {kd a b r : Int} (hkd : (9 ≤ kd ∧ kd ≤ 10) ∨ (14 ≤ kd ∧ kd ≤ 22)) (hx : M (o0 + 1) i = -kd - 1) (ht : 2 ≤ t ∧ t < 40) (ha : M 49 (t - 2) = a) (hb : M 49 (t - 1) = b) (hj : fX9_joined kd a b = some r) (k : yk (fX9_valueOf_L8 n (xup M 49 (t - 2) r) o0 s (t - 1) (i + 1)) P) : yk (fX9_valueOf_L8 (n + 1) M o0 s t i) P := by
  have e : -(-kd - 1) - 1 = kd := by omega
  have e1 : t - 1 - 1 = t - 2 := by omega
  have e2 : t + -1 = t - 1 := by omega
  unfold fX9_valueOf_L8
  simp (disch := omega) only [wr_id, if_pos, if_neg, xrd_at, hx, xnot_e, e, e2, e1, xj, xwt_at, ha, hb, hj, xb]
  exact k
theorem cs_not (h0 : 0 ≤ i) (hL : i < M o0 1) (hL2 : M o0 1 ≤ 400) {a : Int} (hx : M (o0 + 1) i = -12) (ht : 1 ≤ t ∧ t < 40) (ha : M 49 (t - 1) = a) (k : yk (fX9_valueOf_L8 n (xup M 49 (t - 1) (1 - a)) o0 s t (i + 1)) P) : yk (fX9_valueOf_L8 (n + 1) M o0 s t i) P := by
  have e : -(-12) - 1 = (11 : Int) := by omega
  unfold fX9_valueOf_L8
  simp (disch := omega) only [wr_id, if_pos, if_neg, xrd_at, hx, xnot_e, e, xj, xwt_at, ha]
  exact k
theorem cs_semi (h0 : 0 ≤ i) (hL : i < M o0 1) (hL2 : M o0 1 ≤ 400) {a : Int} (hx : M (o0 + 1) i = -14) (ht : 1 ≤ t ∧ t < 40) (ha : M 49 (t - 1) = a) (k : yk (fX9_valueOf_L8 n M o0 (s + wr a) (t - 1) (i + 1)) P) : yk (fX9_valueOf_L8 (n + 1) M o0 s t i) P := by
  have e : -(-14) - 1 = (13 : Int) := by omega
  have e2 : t + -1 = t - 1 := by omega
  unfold fX9_valueOf_L8
  simp (disch := omega) only [wr_id (x := i), wr_id (x := t), wr_id (x := M o0 1), wr_id (x := 13), wr_id (x := 7), wr_id (x := 1), wr_id (x := 11), if_pos, if_neg, xrd_at, hx, xnot_e, e, e2, xj, ha]
  exact k
theorem cs_when (h0 : 0 ≤ i) (hL : i < M o0 1) (hL2 : M o0 1 ≤ 400) {a b : Int} (hx : M (o0 + 1) i = -9) (ht : 2 ≤ t ∧ t < 40) (ha : M 49 (t - 2) = a) (hb : M 49 (t - 1) = b) (hb2 : b = 0 ∨ b = 1) (k : yk (fX9_valueOf_L8 n M o0 (s + if b = 1 then wr a else 0) (t - 2) (i + 1)) P) : yk (fX9_valueOf_L8 (n + 1) M o0 s t i) P := by
  have e : -(-9) - 1 = (8 : Int) := by omega
  have e2 : t + -2 = t - 2 := by omega
  have e3 : t - 2 + 1 = t - 1 := by omega
  have e4 : wr b = b := wr_id (by omega) (by omega)
  unfold fX9_valueOf_L8
  simp (disch := omega) only [wr_id (x := i), wr_id (x := t), wr_id (x := M o0 1), wr_id (x := 13), wr_id (x := 7), wr_id (x := 8), wr_id (x := 2), wr_id (x := 11), if_pos, if_neg, xrd_at, hx, xnot_e, e, e2, e3, xj, ha, hb, e4]
  rcases hb2 with rfl | rfl
  · exact k
  · exact k
end CS
theorem joined_e {s a b : Int} (h : (13 ≤ s ∧ s ≤ 15) ∨ (17 ≤ s ∧ s ≤ 19) ∨ (21 ≤ s ∧ s ≤ 22)) : fX9_joined (trK s) a b = some (fX12_both s a b) := by
  have e : s = 13 ∨ s = 14 ∨ s = 15 ∨ s = 17 ∨ s = 18 ∨ s = 19 ∨ s = 21 ∨ s = 22 := by omega
  unfold fX9_joined fX12_both trK
  rcases e with rfl | rfl | rfl | rfl | rfl | rfl | rfl | rfl
  all_goals
    simp (disch := omega) only [if_pos, if_neg, ↓reduceIte, wr_id (x := 14), wr_id (x := 15), wr_id (x := 13), wr_id (x := 16), wr_id (x := 17), wr_id (x := 18), wr_id (x := 19), wr_id (x := 21), wr_id (x := 22), wr_id (x := 13 + 1), wr_id (x := 14 + 1), wr_id (x := 15 + 1), wr_id (x := 17 + 3), wr_id (x := 18 + 3), wr_id (x := 19 + 3), wr_id (x := 31 - 21), wr_id (x := 31 - 22)]
    try (split <;> rfl)
def cAt (C : Int → Int) (i : Int) : List Int → Prop
  | [] => True
  | x :: l => C i = x ∧ cAt C (i + 1) l
theorem cAt_app {C : Int → Int} (a b : List Int) : ∀ i : Int, cAt C i (a ++ b) → cAt C i a ∧ cAt C (i + a.length) b := by
  induction a with
  | nil =>
    intro i h
    refine ⟨trivial, ?_⟩
    have e : i + (([] : List Int).length : Int) = i := by simp
    rw [e]
    exact h
  | cons x a ih =>
    intro i h
    have := ih (i + 1) h.2
    refine ⟨⟨h.1, this.1⟩, ?_⟩
    have e : i + ((x :: a).length : Int) = i + 1 + a.length := by simp only [List.length_cons]; omega
    rw [e]
    exact this.2
theorem cAt_of {C : Int → Int} (l : List Int) : ∀ i : Int, (∀ j : Nat, j < l.length → C (i + j) = l.getD j 0) → cAt C i l := by
  induction l with
  | nil => intro i h; trivial
  | cons x l ih =>
    intro i h
    refine ⟨?_, ih (i + 1) ?_⟩
    · have := h 0 (by simp)
      simpa using this
    · intro j hj
      have := h (j + 1) (by simp only [List.length_cons]; omega)
      have e : i + ((j + 1 : Nat) : Int) = i + 1 + j := by omega
      rw [e] at this
      rw [this]
      simp
section CR
variable {M0 : xM} {o0 : Nat} {F : Int → Int} {L : Int}
theorem crun (ho : o0 < 48) (hL : M0 o0 1 = L) (hL2 : 0 ≤ L ∧ L ≤ 400) (hF : ∀ s, 1 ≤ s → s ≤ 7 → M0 48 (s - 1) = F s) {base : List Int} (hb : base.length ≤ 1) {P : Int × xM → Prop} {s : Int} (l : List (Int × Int)) : ∀ (n : Nat) (M : xM) (i t : Int) (st : List Int) (ts ts' : List Bool), (∀ o, o ≠ 49 → M o = M0 o) → 0 ≤ i → cAt (M0 (o0 + 1)) i (trL l) → i + (trL l).length ≤ L → L - i < n → vTy st ts → ts.length ≤ 26 → tyR l ts = some ts' → t = ((st ++ base).length : Int) → onSt (M 49) (st ++ base) → (∀ (n' : Nat) (M' : xM) (t' : Int), (∀ o, o ≠ 49 → M' o = M0 o) → L - (i + (trL l).length) < n' → t' = ((sRun F l st ++ base).length : Int) → onSt (M' 49) (sRun F l st ++ base) → yk (fX9_valueOf_L8 n' M' o0 s t' (i + (trL l).length)) P) → yk (fX9_valueOf_L8 n M o0 s t i) P := by
  induction l with
  | nil =>
    intro n M i t st ts ts' hM h0 hc hl hn hv ht26 hr ht hs k
    have e : i + ((trL []).length : Int) = i := by simp [trL]
    rw [e] at k
    exact k n M t hM hn ht hs
  | cons q l ih =>
    intro n M i t st ts ts' hM h0 hc hl hn hv ht26 hr ht hs k
    obtain ⟨h', e1, e2⟩ := tyR_c hr
    have hv' := sStep_ty (F := F) e1 hv
    have hl' := tyR_27 e1 ht26
    have hlen := vTy_len hv
    have ec : trL (q :: l) = trS q ++ trL l := rfl
    rw [ec] at hc hl k
    obtain ⟨c1, c2⟩ := cAt_app _ _ _ hc
    have el : ((trS q ++ trL l).length : Int) = (trS q).length + (trL l).length := by simp
    rw [el] at hl k
    have w := hM o0 (by omega)
    have w1 := hM (o0 + 1) (by omega)
    have w2 := hM 48 (by omega)
    simp only [List.length_append] at ht
    -- what is left when this step is done
    have next : ∀ (n2 : Nat) (M2 : xM) (i2 t2 : Int), (∀ o, o ≠ 49 → M2 o = M0 o) → i2 = i + (trS q).length → L - i2 < n2 → t2 = ((sStep F q st ++ base).length : Int) → onSt (M2 49) (sStep F q st ++ base) → yk (fX9_valueOf_L8 n2 M2 o0 s t2 i2) P := by
      intro n2 M2 i2 t2 f1 f2 f3 f4 f5
      subst f2
      refine ih n2 M2 _ t2 _ h' ts' f1 (by omega) c2 (by omega) f3 hv' hl' e2 f4 f5 ?_
      intro n' M' t' g1 g2 g3 g4
      have e9 : i + ((trS q).length : Int) + (trL l).length = i + ((trS q).length + (trL l).length) := by omega
      rw [e9] at g2 ⊢
      exact k n' M' t' g1 g2 g3 g4
    have fr : ∀ (M2 : xM) (j v : Int), (∀ o, o ≠ 49 → M2 o = M0 o) → ∀ o, o ≠ 49 → xup M2 49 j v o = M0 o := fun M2 j v h o ho => by rw [xup_o ho]; exact h o ho
    have hq := tyS_inv e1
    rcases hq with ⟨g, rfl⟩ | ⟨g, r, rfl, rfl⟩ | ⟨g, r, rfl, rfl⟩ | ⟨g, r, rfl, rfl⟩ | ⟨g, r, rfl, rfl⟩ | ⟨g, r, rfl, rfl⟩
    · by_cases hz : q.1 = 0
      · have et : trS q = [q.2] := if_pos hz
        rw [et] at c1 hl
        simp only [List.length_cons, List.length_nil] at hl
        obtain ⟨n2, rfl⟩ : ∃ n2, n = n2 + 1 := ⟨n - 1, by omega⟩
        refine cs_num (x := q.2) h0 (by rw [w, hL]; omega) (by rw [w, hL]; omega) (by rw [w1]; exact c1.1) (g.2.1 hz) (by omega) ?_
        refine next _ _ _ _ (fr _ _ _ hM) (by rw [et]; rfl) (by omega) ?_ ?_
        · rw [sStep_push g.1.2]
          simp only [List.cons_append, List.length_cons, List.length_append]
          omega
        · rw [sStep_push g.1.2, if_pos hz, List.cons_append]
          exact onSt_push hs (by simp only [List.length_append]; omega)
      · have et : trS q = [-q.1] := by unfold trS; rw [if_neg hz, if_pos g.1.2]
        rw [et] at c1 hl
        simp only [List.length_cons, List.length_nil] at hl
        obtain ⟨n2, rfl⟩ : ∃ n2, n = n2 + 1 := ⟨n - 1, by omega⟩
        refine cs_fact (q := q.1) (x := F q.1) h0 (by rw [w, hL]; omega) (by rw [w, hL]; omega) (by omega) (by rw [w1]; exact c1.1) (by rw [w2]; exact hF _ (by omega) (by omega)) (by omega) ?_
        refine next _ _ _ _ (fr _ _ _ hM) (by rw [et]; rfl) (by omega) ?_ ?_
        · rw [sStep_push g.1.2]
          simp only [List.cons_append, List.length_cons, List.length_append]
          omega
        · rw [sStep_push g.1.2, if_neg hz, List.cons_append]
          exact onSt_push hs (by simp only [List.length_append]; omega)
    · obtain ⟨a, st2, rfl, _, v2⟩ := vTy_c hv
      have et : trS q = [q.2, -18] := by unfold trS; rw [if_neg (by omega), if_neg (by omega), if_pos g.1]
      rw [et] at c1 hl
      simp only [List.length_cons, List.length_nil, List.cons_append] at hl ht hlen ht26 hs
      obtain ⟨n2, rfl⟩ : ∃ n2, n = n2 + 1 + 1 := ⟨n - 2, by omega⟩
      have r1 : M 49 (t - 1) = a := by
        have := hs.1
        have e9 : t - 1 = ((st2 ++ base).length : Int) := by simp only [List.length_append]; omega
        rw [e9]
        exact this
      refine cs_num (x := q.2) h0 (by rw [w, hL]; omega) (by rw [w, hL]; omega) (by rw [w1]; exact c1.1) (by omega) (by omega) ?_
      refine cs_bin (kd := 17) (a := a) (b := q.2) (r := xdiv a q.2) (by omega) (by rw [xup_o (by omega), w, hL]; omega) (by rw [xup_o (by omega), w, hL]; omega) (by omega) (by rw [xup_o (by omega), w1]; exact c1.2.1) (by omega) ?_ ?_ ?_ ?_
      · have e9 : t + 1 - 2 = t - 1 := by omega
        rw [e9, xup_n (by omega)]
        exact r1
      · exact xup_e (by omega)
      · unfold fX9_joined
        simp (disch := omega) only [wr_id (x := q.2), wr_id (x := 17), if_pos, if_neg, xnz_at, ↓reduceIte]
      · refine next _ _ _ _ (fr _ _ _ (fr _ _ _ hM)) (by rw [et]; simp only [List.length_cons, List.length_nil]; omega) (by omega) ?_ ?_
        · rw [sStep_part g.1]
          simp only [List.cons_append, List.length_cons, List.length_append]
          omega
        · rw [sStep_part g.1, List.cons_append]
          refine onSt_push ?_ (by simp only [List.length_append]; omega)
          refine onSt_fr hs.2 ?_
          intro j h0 h1
          simp only [List.length_append] at h1
          exact xup_n (by omega)
    · obtain ⟨a, st2, rfl, _, v2⟩ := vTy_c hv
      have et : trS q = [-12] := by unfold trS trK; rw [g]; rfl
      rw [et] at c1 hl
      simp only [List.length_cons, List.length_nil, List.cons_append] at hl ht hlen ht26 hs
      obtain ⟨n2, rfl⟩ : ∃ n2, n = n2 + 1 := ⟨n - 1, by omega⟩
      have r1 : M 49 (t - 1) = a := by
        have := hs.1
        have e9 : t - 1 = ((st2 ++ base).length : Int) := by simp only [List.length_append]; omega
        rw [e9]
        exact this
      refine cs_not h0 (by rw [w, hL]; omega) (by rw [w, hL]; omega) (by rw [w1]; exact c1.1) (by omega) r1 ?_
      refine next _ _ _ _ (fr _ _ _ hM) (by rw [et]; rfl) (by omega) ?_ ?_
      · rw [sStep_not g]
        simp only [List.cons_append, List.length_cons, List.length_append]
        omega
      · rw [sStep_not g, List.cons_append]
        exact onSt_push hs.2 (by simp only [List.length_append]; omega)
    · obtain ⟨b, st2, rfl, _, v2⟩ := vTy_c hv
      obtain ⟨a, st3, rfl, _, v3⟩ := vTy_c v2
      have et : trS q = [-(trK q.1) - 1] := by unfold trS; rw [if_neg (by omega), if_neg (by omega), if_neg (by omega)]
      have ek : (9 ≤ trK q.1 ∧ trK q.1 ≤ 10) ∨ (14 ≤ trK q.1 ∧ trK q.1 ≤ 22) := by unfold trK; repeat' split <;> omega
      rw [et] at c1 hl
      simp only [List.length_cons, List.length_nil, List.cons_append] at hl ht hlen ht26 hs
      obtain ⟨n2, rfl⟩ : ∃ n2, n = n2 + 1 := ⟨n - 1, by omega⟩
      have r1 : M 49 (t - 2) = a := by
        have := hs.2.1
        have e9 : t - 2 = ((st3 ++ base).length : Int) := by simp only [List.length_append]; omega
        rw [e9]
        exact this
      have r2 : M 49 (t - 1) = b := by
        have := hs.1
        have e9 : t - 1 = ((a :: (st3 ++ base)).length : Int) := by simp only [List.length_cons, List.length_append]; omega
        rw [e9]
        exact this
      refine cs_bin (kd := trK q.1) h0 (by rw [w, hL]; omega) (by rw [w, hL]; omega) ek (by rw [w1]; exact c1.1) (by omega) r1 r2 (joined_e (by omega)) ?_
      refine next _ _ _ _ (fr _ _ _ hM) (by rw [et]; rfl) (by omega) ?_ ?_
      · rw [sStep_both (by omega) (by omega) (by omega)]
        simp only [List.cons_append, List.length_cons, List.length_append]
        omega
      · rw [sStep_both (by omega) (by omega) (by omega), List.cons_append]
        exact onSt_push hs.2.2 (by simp only [List.length_append]; omega)
    · obtain ⟨b, st2, rfl, _, v2⟩ := vTy_c hv
      obtain ⟨a, st3, rfl, _, v3⟩ := vTy_c v2
      have et : trS q = [-(trK q.1) - 1] := by unfold trS; rw [if_neg (by omega), if_neg (by omega), if_neg (by omega)]
      have ek : (9 ≤ trK q.1 ∧ trK q.1 ≤ 10) ∨ (14 ≤ trK q.1 ∧ trK q.1 ≤ 22) := by unfold trK; repeat' split <;> omega
      rw [et] at c1 hl
      simp only [List.length_cons, List.length_nil, List.cons_append] at hl ht hlen ht26 hs
      obtain ⟨n2, rfl⟩ : ∃ n2, n = n2 + 1 := ⟨n - 1, by omega⟩
      have r1 : M 49 (t - 2) = a := by
        have := hs.2.1
        have e9 : t - 2 = ((st3 ++ base).length : Int) := by simp only [List.length_append]; omega
        rw [e9]
        exact this
      have r2 : M 49 (t - 1) = b := by
        have := hs.1
        have e9 : t - 1 = ((a :: (st3 ++ base)).length : Int) := by simp only [List.length_cons, List.length_append]; omega
        rw [e9]
        exact this
      refine cs_bin (kd := trK q.1) h0 (by rw [w, hL]; omega) (by rw [w, hL]; omega) ek (by rw [w1]; exact c1.1) (by omega) r1 r2 (joined_e (by omega)) ?_
      refine next _ _ _ _ (fr _ _ _ hM) (by rw [et]; rfl) (by omega) ?_ ?_
      · rw [sStep_both (by omega) (by omega) (by omega)]
        simp only [List.cons_append, List.length_cons, List.length_append]
        omega
      · rw [sStep_both (by omega) (by omega) (by omega), List.cons_append]
        exact onSt_push hs.2.2 (by simp only [List.length_append]; omega)
    · obtain ⟨b, st2, rfl, _, v2⟩ := vTy_c hv
      obtain ⟨a, st3, rfl, _, v3⟩ := vTy_c v2
      have et : trS q = [-(trK q.1) - 1] := by unfold trS; rw [if_neg (by omega), if_neg (by omega), if_neg (by omega)]
      have ek : (9 ≤ trK q.1 ∧ trK q.1 ≤ 10) ∨ (14 ≤ trK q.1 ∧ trK q.1 ≤ 22) := by unfold trK; repeat' split <;> omega
      rw [et] at c1 hl
      simp only [List.length_cons, List.length_nil, List.cons_append] at hl ht hlen ht26 hs
      obtain ⟨n2, rfl⟩ : ∃ n2, n = n2 + 1 := ⟨n - 1, by omega⟩
      have r1 : M 49 (t - 2) = a := by
        have := hs.2.1
        have e9 : t - 2 = ((st3 ++ base).length : Int) := by simp only [List.length_append]; omega
        rw [e9]
        exact this
      have r2 : M 49 (t - 1) = b := by
        have := hs.1
        have e9 : t - 1 = ((a :: (st3 ++ base)).length : Int) := by simp only [List.length_cons, List.length_append]; omega
        rw [e9]
        exact this
      refine cs_bin (kd := trK q.1) h0 (by rw [w, hL]; omega) (by rw [w, hL]; omega) ek (by rw [w1]; exact c1.1) (by omega) r1 r2 (joined_e (by omega)) ?_
      refine next _ _ _ _ (fr _ _ _ hM) (by rw [et]; rfl) (by omega) ?_ ?_
      · rw [sStep_both (by omega) (by omega) (by omega)]
        simp only [List.cons_append, List.length_cons, List.length_append]
        omega
      · rw [sStep_both (by omega) (by omega) (by omega), List.cons_append]
        exact onSt_push hs.2.2 (by simp only [List.length_append]; omega)
end CR
