/-! leave, the class's sets one after the other -/
theorem lv_key {n : Nat} {M : xM} {X S A A' B B' ge wt sg v9 al F : Int} {o : Nat} {bE : Bool} {c15 c20 : xM → Prop} {post : Int × xM → Prop} (ho : o < 10) (h74 : M 74 o = ge) (h7 : M 7 o = wt) (eA : A + sg * ge = A') (eB : B + sg * wt = B') (hS : 0 ≤ S ∧ S < 1024) (xr : X = -1 ∨ (0 ≤ X ∧ X < 1024)) (rA : -2000000 ≤ A' ∧ A' ≤ 2000000) (rF : -2000000 ≤ F ∧ F ≤ 2000000) (add : yk (fX3_addOwn M o sg) c15) (en : ∀ N, c15 N → fX4_isEnough N B' = some bE) (rk : ∀ N, c15 N → yk (fX3_reckon N (b2i bE)) fun z => z.1 = F ∧ c20 z.2) (n1 : ∀ N, c15 N → ¬ (X = -1 ∨ cnt S 24 < cnt X 24 ∨ (cnt S 24 = cnt X 24 ∧ S < X)) → yk (fX3_findLeavers_L51 n N al X S A' B' v9) post) (n2 : ∀ N, c20 N → (X = -1 ∨ cnt S 24 < cnt X 24 ∨ (cnt S 24 = cnt X 24 ∧ S < X)) → A' < F → yk (fX3_findLeavers_L51 n N al S S A' B' v9) post) (n3 : ∀ N, c20 N → (X = -1 ∨ cnt S 24 < cnt X 24 ∨ (cnt S 24 = cnt X 24 ∧ S < X)) → ¬ A' < F → yk (fX3_findLeavers_L51 n N al X S A' B' v9) post) : yk (xrd M 74 10 (o : Int) fun r12 => xrd M 7 10 (o : Int) fun r13 => xb (fX3_addOwn M (o : Int) sg) fun M15 => (if (fX3_isAhead S X) = true then (xb (fX4_isEnough M15 (B + (sg * r13))) fun r17 => xb2 (fX3_reckon M15 (b2i r17)) fun r19 M20 => (if wr (A + (sg * r12)) < wr r19 then fX3_findLeavers_L51 n M20 al S S (A + (sg * r12)) (B + (sg * r13)) v9 else fX3_findLeavers_L51 n M20 al X S (A + (sg * r12)) (B + (sg * r13)) v9)) else fX3_findLeavers_L51 n M15 al X S (A + (sg * r12)) (B + (sg * r13)) v9)) post := by
  rw [xrd_at (by omega) (by omega) (by omega), h74, xrd_at (by omega) (by omega) (by omega), h7, eA, eB, ahead_e hS xr, yk_xb]
  refine yk.mono add ?_
  intro N hN
  by_cases ah : X = -1 ∨ cnt S 24 < cnt X 24 ∨ (cnt S 24 = cnt X 24 ∧ S < X)
  · rw [if_pos (decide_eq_true ah), en N hN, xb_some, yk_xb2]
    refine yk.mono (rk N hN) ?_
    intro z hz
    rw [hz.1, wr_id (x := A') (by omega) (by omega), wr_id (x := F) (by omega) (by omega)]
    by_cases c : A' < F
    · rw [if_pos c]; exact n2 z.2 hz.2 ah c
    · rw [if_neg c]; exact n3 z.2 hz.2 ah c
  · rw [if_neg (by rw [decide_eq_true_eq]; exact ah)]
    exact n1 N hN ah
section LK2
variable {W : Int → Int} {m : Int}
theorem lv_nums (g : gW W) (hm : 1 ≤ m ∧ m ≤ 6) {u : Nat} (hu : ((u + 1 : Nat) : Int) ≤ sAll W) : (u < 1023 ∧ ((ozN (u + 1) : Nat) : Int) < W 5 ∧ (1 ≤ (gy (u + 1) : Int) ∧ (gy (u + 1) : Int) ≤ sAll W)) ∧ (-2000000 ≤ sBs (sGet W m) (gy (u + 1)) (W 5).toNat ∧ sBs (sGet W m) (gy (u + 1)) (W 5).toNat ≤ 2000000) ∧ (0 ≤ sWt W (gy (u + 1)) (W 5).toNat ∧ sWt W (gy (u + 1)) (W 5).toNat ≤ 90) ∧ (-2000000 ≤ sBf (W 0) (sCt W (gy (u + 1))) (sEn W (sWt W (gy (u + 1)) (W 5).toNat)) m m.toNat (W 1) ∧ sBf (W 0) (sCt W (gy (u + 1))) (sEn W (sWt W (gy (u + 1)) (W 5).toNat)) m m.toNat (W 1) ≤ 2000000) := by
  have h5 := g.1.2.1
  have ar := sAll_rng (W := W) h5
  have ea : sAll W = ((2 ^ (W 5).toNat : Nat) : Int) - 1 := by unfold sAll; simp
  have gl := gy_lt (W 5).toNat (by omega) (u + 1) (by omega) (by omega)
  have sr := sBs_rng (f := sGet W m) (set := (gy (u + 1) : Int)) (B := 159993) (by omega) (fun p => sGet_rng g.2.2.2.2.2.1 hm p) (W 5).toNat
  have wr1 := sWt_rng g.2.2.2.2.1 (gy (u + 1) : Int) (W 5).toNat (by omega)
  have bfr := sBf_rng (N := W 0) (g := sEn W (sWt W (gy (u + 1)) (W 5).toNat)) (m := m) (sCt_rng g.1 (gy (u + 1))) m.toNat (W 1)
  generalize sBf (W 0) (sCt W (gy (u + 1))) (sEn W (sWt W (gy (u + 1)) (W 5).toNat)) m m.toNat (W 1) = F at *
  generalize sBs (sGet W m) (gy (u + 1)) (W 5).toNat = A at *
  generalize sWt W (gy (u + 1)) (W 5).toNat = B at *
  generalize sAll W = al at *
  generalize gy (u + 1) = G at *
  generalize ozN (u + 1) = O at *
  clear g
  generalize 2 ^ (W 5).toNat = P at *
  refine ⟨⟨by omega, by omega, by omega, by omega⟩, ⟨by omega, by omega⟩, ⟨by omega, by omega⟩, ⟨by omega, by omega⟩⟩
theorem lv51_q (g : gW W) (hm : 1 ≤ m ∧ m ≤ 6) (k : Nat) : ∀ (n : Nat) (M : xM) (u : Nat) (X : Int), ((u + 1 : Nat) : Int) + k = sAll W + 1 → rI M W → M 50 1 = m → oOk W m M (W 5) → (∀ q : Nat, (q : Int) < W 5 → M 74 q = sGet W m q) → cOk (W 0) (W 1) m (sCt W (gy u)) M → lmin (fun y => (∃ s : Nat, 1 ≤ s ∧ s ≤ u ∧ y = (gy s : Int)) ∧ lvS W m y) X → k < n → yk (fX3_findLeavers_L51 n M (sAll W) X (gy u) (sBs (sGet W m) (gy u) (W 5).toNat) (sWt W (gy u) (W 5).toNat) ((u + 1 : Nat) : Int)) fun q => lmin (lvS W m) q.1 ∧ ∀ o, o ≠ 51 → o ≠ 63 → q.2 o = M o := by
  have h5 := g.1.2.1
  have ar := sAll_rng (W := W) h5
  induction k with
  | zero =>
    intro n M u X hu iM h50 ho h74 hc hX hn
    obtain ⟨n, rfl⟩ : ∃ x, n = x + 1 := ⟨n - 1, by omega⟩
    clear ho h74 hc iM h50
    unfold fX3_findLeavers_L51
    rw [if_pos (by rw [wr_id (by omega) (by omega), wr_id (by omega) (by omega)]; omega), yk_some]
    refine ⟨lmin_iff (fun y => ⟨fun w => w.2, fun w => ⟨?_, w⟩⟩) hX, fun _ _ _ => rfl⟩
    have w1 := w.1
    clear w hX
    have ea : sAll W = ((2 ^ (W 5).toNat : Nat) : Int) - 1 := by unfold sAll; simp
    have gg := gi_e (W 5).toNat (by omega) y.toNat (by omega) (by omega)
    generalize gi y.toNat = G at gg
    exact ⟨G, gg.2.1, by omega, by rw [gg.1]; omega⟩
  | succ k ih =>
    intro n M u X hu iM h50 ho h74 hc hX hn
    obtain ⟨n, rfl⟩ : ∃ x, n = x + 1 := ⟨n - 1, by omega⟩
    have hall : ((u + 1 : Nat) : Int) ≤ sAll W := by omega
    have wu : wr ((u + 1 : Nat) : Int) = ((u + 1 : Nat) : Int) := wr_id (by omega) (by omega)
    have wa : wr (sAll W) = sAll W := wr_id (by omega) (by omega)
    have hk1 : ((u + 1 + 1 : Nat) : Int) + k = sAll W + 1 := by omega
    have hn1 : k < n := by omega
    obtain ⟨⟨hu2, hoz, hgy⟩, rA, rB, rF⟩ := lv_nums g hm (u := u) hall
    have hgn : 0 ≤ (gy (u + 1) : Int) ∧ (gy (u + 1) : Int) < 1024 := ⟨Int.natCast_nonneg _, Int.lt_of_le_of_lt hgy.2 (Int.lt_of_le_of_lt ar.2 (by decide))⟩
    obtain ⟨⟨s1, s2⟩, s3, s4⟩ := gy_step u hu2
    have bo := gy_bits u hu2 (ozN (u + 1)) s2
    rw [if_pos rfl] at bo
    have gb5 : ∀ p : Nat, p < (W 5).toNat → p < 10 := fun p hp => by omega
    have fl := fun (f : Nat → Int) => sBs_flip (f := f) (s := (gy u : Int)) (s' := (gy (u + 1) : Int)) (o := ozN (u + 1)) (W 5).toNat (fun p hp => gy_bits u hu2 p (gb5 p hp))
    have oz5 : ozN (u + 1) < (W 5).toNat := by omega
    have f1 := fl (sGet W m)
    have f2 := fl (fun p => W (21 + 4 * (p : Int)))
    rw [← sWt_bs, ← sWt_bs] at f2
    rw [if_pos oz5] at f1 f2
    have cf := fun (d an t : Int) => sCt_flip (W := W) hu2 g.1 (d := d) (an := an) (t := t) hoz
    have br := bt_rng (gy u : Int) (ozN (u + 1) : Int)
    have pl := (iM.2.2.2.2.1 (ozN (u + 1)) (Int.natCast_nonneg _) hoz).2.1
    have ge := h74 (ozN (u + 1)) hoz
    have hX' := hX
    have xr : X = -1 ∨ (0 ≤ X ∧ X < 1024) := by
      rcases hX with ⟨a, _⟩ | ⟨a, b, _⟩
      · exact Or.inl a
      · have := b.2.1
        clear cf f1 f2 fl rA rB rF b bo br s1 s3
        omega
    have nx : ∀ (M' : xM) (Y : Int), (∀ o, o ≠ 51 → o ≠ 63 → M' o = M o) → cOk (W 0) (W 1) m (sCt W (gy (u + 1))) M' → lmin (fun y => ((∃ s : Nat, 1 ≤ s ∧ s ≤ u ∧ y = (gy s : Int)) ∧ lvS W m y) ∨ (y = (gy (u + 1) : Int) ∧ lvS W m (gy (u + 1)))) Y → yk (fX3_findLeavers_L51 n M' (sAll W) Y (gy (u + 1)) (sBs (sGet W m) (gy (u + 1)) (W 5).toNat) (sWt W (gy (u + 1)) (W 5).toNat) ((u + 1 + 1 : Nat) : Int)) fun q => lmin (lvS W m) q.1 ∧ ∀ o, o ≠ 51 → o ≠ 63 → q.2 o = M o := by
      intro M' Y hf hc' hY
      clear cf f1 f2 fl rA rB rF bo br s1 s3 hX xr hu hn pl ge hc
      refine yk.mono (ih n M' (u + 1) Y hk1 (rI_fr2 iM g (fun o a b _ _ => hf o (by omega) (by omega))) (by rw [hf 50 (by decide) (by decide)]; exact h50) (fun q d t r a b c e f g' h' => ?_) (fun q hq => by rw [hf 74 (by decide) (by decide)]; exact h74 q hq) hc' (lmin_iff (fun y => ?_) hY) hn1) ?_
      · have q1 : (q : Int) < 10 := by clear e f g' h' c b hY hc' hf; omega
        have n1 : 53 + q ≠ 51 := by clear e f g' h' c b hY hc' hf; omega
        have n2 : 53 + q ≠ 63 := by clear e f g' h' c b hY hc' hf; omega
        rw [hf (53 + q) n1 n2]
        exact ho q d t r a b c e f g' h'
      · constructor
        · rintro (⟨⟨s, a, b, c⟩, w⟩ | ⟨w1, w2⟩)
          · exact ⟨⟨s, a, Nat.le_succ_of_le b, c⟩, w⟩
          · rw [w1]; exact ⟨⟨u + 1, Nat.succ_le_succ (Nat.zero_le u), Nat.le_refl _, rfl⟩, w2⟩
        · rintro ⟨⟨s, a, b, c⟩, w⟩
          by_cases e : s = u + 1
          · rw [e] at c
            rw [c] at w
            exact Or.inr ⟨c, w⟩
          · exact Or.inl ⟨⟨s, a, by clear w c hY hc' hf; omega, c⟩, w⟩
      · intro q hq
        exact ⟨hq.1, fun o a b => by rw [hq.2 o a b, hf o a b]⟩
    have key : ∀ sg, sg = 1 - 2 * bt (gy u : Int) (ozN (u + 1) : Int) → yk (xrd M 74 10 (ozN (u + 1) : Int) fun r12 => xrd M 7 10 (ozN (u + 1) : Int) fun r13 => xb (fX3_addOwn M (ozN (u + 1) : Int) sg) fun M15 => (if (fX3_isAhead (gy (u + 1) : Int) X) = true then (xb (fX4_isEnough M15 (sWt W (gy u) (W 5).toNat + (sg * r13))) fun r17 => xb2 (fX3_reckon M15 (b2i r17)) fun r19 M20 => (if wr (sBs (sGet W m) (gy u) (W 5).toNat + (sg * r12)) < wr r19 then fX3_findLeavers_L51 n M20 (sAll W) (gy (u + 1)) (gy (u + 1)) (sBs (sGet W m) (gy u) (W 5).toNat + (sg * r12)) (sWt W (gy u) (W 5).toNat + (sg * r13)) ((u + 1 + 1 : Nat) : Int) else fX3_findLeavers_L51 n M20 (sAll W) X (gy (u + 1)) (sBs (sGet W m) (gy u) (W 5).toNat + (sg * r12)) (sWt W (gy u) (W 5).toNat + (sg * r13)) ((u + 1 + 1 : Nat) : Int))) else fX3_findLeavers_L51 n M15 (sAll W) X (gy (u + 1)) (sBs (sGet W m) (gy u) (W 5).toNat + (sg * r12)) (sWt W (gy u) (W 5).toNat + (sg * r13)) ((u + 1 + 1 : Nat) : Int))) fun q => lmin (lvS W m) q.1 ∧ ∀ o, o ≠ 51 → o ≠ 63 → q.2 o = M o := by
      intro sg hsg
      rw [← hsg] at f1 f2
      have i5 : M 5 0 = W 5 := iM.1.2.1
      have gA : 0 ≤ W 1 ∧ W 1 < W 0 := g.1.1.2.1
      clear hX hu hn s1 s3 fl wu wa bo ih
      refine lv_key (M := M) (o := ozN (u + 1)) (F := sBf (W 0) (sCt W (gy (u + 1))) (sEn W (sWt W (gy (u + 1)) (W 5).toNat)) m m.toNat (W 1)) (bE := sEn W (sWt W (gy (u + 1)) (W 5).toNat)) (c15 := fun N => (∀ o, o ≠ 51 → N o = M o) ∧ cOk (W 0) (W 1) m (sCt W (gy (u + 1))) N) (c20 := fun N => (∀ o, o ≠ 51 → o ≠ 63 → N o = M o) ∧ cOk (W 0) (W 1) m (sCt W (gy (u + 1))) N) s2 ge pl f1.symm f2.symm hgn xr rA rF ?_ ?_ ?_ ?_ ?_ ?_
      · refine yk.mono (addOwn_e (M := M) (p := ozN (u + 1)) (sg := sg) hm h50 s2) ?_
        intro N q15
        refine ⟨q15.1, ?_⟩
        clear f1 f2 rA rB rF nx
        intro d t r a b c e f g'
        have rr : -m ≤ r ∧ r ≤ m := by clear q15 cf; omega
        have gx := gix_6 (m := m) (d := d) (r := r) (t := t) hm ⟨a, b⟩ rr
        rw [q15.2 _ gx.1 gx.2.1, hc d t r a b c e f g', ho (ozN (u + 1)) d t r hoz a b c e f g', cf, hsg]
      · intro N hN
        have i15 : rI N W := rI_fr2 iM g (fun o a b _ _ => hN.1 o (by clear f1 f2 rA rB rF nx cf hN; omega))
        refine enoughK_e i15.2.2.2.2.1 g.2.2.2.2.1 h5 (by rw [hN.1 5 (by decide)]; exact i5) ?_
        clear f1 f2 rA rF nx cf hN
        omega
      · intro N hN
        refine yk.mono (reckon_e (N := W 0) (A := W 1) (g := sEn W (sWt W (gy (u + 1)) (W 5).toNat)) (sCt_rng g.1 _) ⟨hm.1, by clear f1 f2 rA rB rF nx cf hN; omega⟩ rfl gA (by rw [hN.1 50 (by decide)]; exact h50) hN.2) ?_
        intro z hz
        refine ⟨hz.1, fun o a b => by rw [hz.2.1 o b, hN.1 o a], fun d t r a b c e f g' => ?_⟩
        rw [hz.2.1 51 (by decide)]
        exact hN.2 d t r a b c e f g'
      · intro N hN ah
        refine nx N X (fun o a _ => hN.1 o a) hN.2 (lmin_keep hX' (fun _ => ?_))
        clear f1 f2 rA rB rF nx cf hN
        omega
      · intro N hN ah c
        have lv : lvS W m (gy (u + 1)) := ⟨hgy, c⟩
        refine nx N _ hN.1 hN.2 (lmin_iff (fun y => ?_) (lmin_take hX' hgn.1 ah))
        constructor
        · rintro (w | w)
          · exact Or.inl w
          · exact Or.inr ⟨w, lv⟩
        · rintro (w | w)
          · exact Or.inl w
          · exact Or.inr w.1
      · intro N hN ah c
        exact nx N X hN.1 hN.2 (lmin_keep hX' (fun w => absurd w.2 c))
    have eu : ((u + 1 : Nat) : Int) + 1 = ((u + 1 + 1 : Nat) : Int) := rfl
    unfold fX3_findLeavers_L51
    rw [s1, s3, wu, wa, if_neg (Int.not_lt.2 hall), yk_xj, bit_eq hgn.1 (Int.lt_trans hgn.2 (by decide)) (Int.natCast_nonneg _) (Int.lt_trans (Int.ofNat_lt.2 s2) (by decide)), bo, eu]
    rcases br with b0 | b0
    · have e1 : ¬ (wr (1 - bt (gy u : Int) (ozN (u + 1) : Int)) = 0) := by rw [b0]; decide
      rw [if_neg e1]
      exact key 1 (by rw [b0]; decide)
    · have e1 : wr (1 - bt (gy u : Int) (ozN (u + 1) : Int)) = 0 := by rw [b0]; decide
      rw [if_pos e1]
      exact key (-1) (by rw [b0]; decide)
end LK2
