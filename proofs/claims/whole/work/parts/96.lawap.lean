/-! the law's loop, where no image is kept yet: it comes to its end -/
theorem lawA_q {xs : Nat → Int32} {L : Nat} (hL : L ≤ 3072) (n : Nat) : ∀ (M : xM) (v3 c : Int), Inv false c M → 0 ≤ v3 → v3 ≤ L → (L : Int) - v3 < 6 * n → c + 180000 * n ≤ 1200000000 → yk (fL_A xs L n M v3) fun E => ∃ M', E = .inl M' := by
  induction n with
  | zero => intro M v3 c _ _ h1 h2; omega
  | succ n ih =>
    intro M v3 c I h0 h1 h2 hc
    rw [fL_A]
    rw [wr_id (x := (L : Int) - 6) (by omega) (by omega), wr_id (x := v3) (by omega) (by omega)]
    by_cases he : (L : Int) - 6 < v3
    · rw [if_pos he, yk_some]
      exact ⟨M, rfl⟩
    · rw [if_neg he]
      have nx : ∀ (N : xM) (c' : Int), Inv false c' N → c' ≤ c + 180000 → yk (fL_A xs L n N (v3 + 6)) fun E => ∃ M', E = .inl M' := fun N c' hI hcc => ih N (v3 + 6) (c + 180000) (Inv_le hI hcc) (by omega) (by omega) (by omega) (by omega)
      have e0 : ∀ F : Int → Option ((xM) ⊕ (Bool × xM)), xsc xs L v3 F = F ((xs v3.toNat).toInt) := fun F => xsc_at hL h0 (by omega)
      have e1 : ∀ F : Int → Option ((xM) ⊕ (Bool × xM)), xsc xs L (v3 + 1) F = F ((xs (v3 + 1).toNat).toInt) := fun F => xsc_at hL (by omega) (by omega)
      have e2 : ∀ F : Int → Option ((xM) ⊕ (Bool × xM)), xsc xs L (v3 + 2) F = F ((xs (v3 + 2).toNat).toInt) := fun F => xsc_at hL (by omega) (by omega)
      have e3 : ∀ F : Int → Option ((xM) ⊕ (Bool × xM)), xsc xs L (v3 + 3) F = F ((xs (v3 + 3).toNat).toInt) := fun F => xsc_at hL (by omega) (by omega)
      have e4 : ∀ F : Int → Option ((xM) ⊕ (Bool × xM)), xsc xs L (v3 + 4) F = F ((xs (v3 + 4).toNat).toInt) := fun F => xsc_at hL (by omega) (by omega)
      have e5 : ∀ F : Int → Option ((xM) ⊕ (Bool × xM)), xsc xs L (v3 + 5) F = F ((xs (v3 + 5).toNat).toInt) := fun F => xsc_at hL (by omega) (by omega)
      have r1 := i32r (xs (v3 + 1).toNat)
      have r2 := i32r (xs (v3 + 2).toNat)
      have r3 := i32r (xs (v3 + 3).toNat)
      have r4 := i32r (xs (v3 + 4).toNat)
      have r5 := i32r (xs (v3 + 5).toNat)
      simp only [xj, e0, e1, e2, e3, e4, e5]
      generalize (xs (v3 + 1).toNat).toInt = a1 at *
      generalize (xs (v3 + 2).toNat).toInt = a2 at *
      generalize (xs (v3 + 3).toNat).toInt = a3 at *
      generalize (xs (v3 + 4).toNat).toInt = a4 at *
      generalize (xs (v3 + 5).toNat).toInt = a5 at *
      generalize wr (xand (xs v3.toNat).toInt 31) = t
      clear e0 e1 e2 e3 e4 e5
      by_cases t0 : t = 0
      · rw [if_pos t0]
        exact st_b (tc_notches I r1) (fun N hN => nx N _ hN (by omega))
      rw [if_neg t0]
      by_cases t1 : t = 1
      · rw [if_pos t1]
        exact st_b (tc_sky I r1 r2 r3 r4) (fun N hN => nx N _ hN (by omega))
      rw [if_neg t1]
      by_cases t2 : t = 2
      · rw [if_pos t2]
        exact st_i (tc_plot I r1 r2 r3 r4) (fun N hN => nx N _ hN (by omega))
      rw [if_neg t2]
      by_cases t3 : t = 3
      · rw [if_pos t3]
        exact st_b (tc_set I r1 r2) (fun N hN => nx N _ hN (by omega))
      rw [if_neg t3]
      by_cases t4 : t = 4
      · rw [if_pos t4]
        exact st_i (tc_feed I r1 r2 r3 r4 r5) (fun N hN => nx N _ hN (by omega))
      rw [if_neg t4]
      by_cases t5 : t = 5
      · rw [if_pos t5]
        exact st_b (tc_end I r1) (fun N hN => nx N _ hN (by omega))
      rw [if_neg t5]
      by_cases t6 : t = 6
      · rw [if_pos t6]
        exact st_i (tc_text I r1) (fun N hN => nx N _ hN (by omega))
      rw [if_neg t6]
      by_cases t7 : t = 7
      · rw [if_pos t7, tc_fault I, if_pos rfl]
        exact nx M _ I (by omega)
      rw [if_neg t7]
      by_cases t8 : t = 8
      · rw [if_pos t8]
        exact st_i (tc_worth I (by omega) r1 r2 r3 r4) (fun N hN => nx N _ hN (by omega))
      rw [if_neg t8]
      by_cases t9 : t = 9
      · rw [if_pos t9]
        exact st_b (tc_sell I r1 r2 r3 r4 r5) (fun N hN => nx N _ hN (by omega))
      rw [if_neg t9]
      by_cases t10 : t = 10
      · rw [if_pos t10]
        exact st_i (tc_promise I r1 r2 r3 r4) (fun N hN => nx N _ hN (by omega))
      rw [if_neg t10]
      by_cases t11 : t = 11
      · rw [if_pos t11]
        exact st_b (tc_drop I r1) (fun N hN => nx N _ hN (by omega))
      rw [if_neg t11]
      by_cases t12 : t = 12
      · rw [if_pos t12]
        exact st_i (tc_votes I (by omega) r1) (fun N hN => nx N _ hN (by omega))
      rw [if_neg t12]
      by_cases t13 : t = 13
      · rw [if_pos t13]
        exact st_0 (tc_holder I r1 r2) (nx M _ I (by omega))
      rw [if_neg t13]
      by_cases t14 : t = 14
      · rw [if_pos t14]
        exact st_i (tc_noons I (by omega) r1) (fun N hN => nx N _ hN (by omega))
      rw [if_neg t14]
      by_cases t15 : t = 15
      · rw [if_pos t15]
        exact st_0 (tc_of I r1 r2) (nx M _ I (by omega))
      rw [if_neg t15]
      by_cases t16 : t = 16
      · rw [if_pos t16]
        exact st_0 (tc_turned I r1) (nx M _ I (by omega))
      rw [if_neg t16]
      by_cases t17 : t = 17
      · rw [if_pos t17]
        exact st_i (tc_best I (by omega) r1 r2) (fun N hN => nx N _ hN (by omega))
      rw [if_neg t17]
      by_cases t18 : t = 18
      · rw [if_pos t18]
        exact st_i (tc_fair I (by omega) r1 r2) (fun N hN => nx N _ hN (by omega))
      rw [if_neg t18]
      by_cases t19 : t = 19
      · rw [if_pos t19]
        exact st_i (tc_alone I (by omega) r1 r2) (fun N hN => nx N _ hN (by omega))
      rw [if_neg t19]
      by_cases t20 : t = 20
      · rw [if_pos t20]
        exact st_b (tc_pay I r1 r2) (fun N hN => nx N _ hN (by omega))
      rw [if_neg t20]
      by_cases t21 : t = 21
      · rw [if_pos t21]
        exact st_i (tc_leave I (by omega) r1) (fun N hN => nx N _ hN (by omega))
      rw [if_neg t21]
      by_cases t22 : t = 22
      · rw [if_pos t22]
        exact st_0 (tc_quarrel I) (nx M _ I (by omega))
      rw [if_neg t22]
      by_cases t23 : t = 23
      · rw [if_pos t23]
        exact st_f (tc_fewest I r1) (fun N hN => nx N _ hN (by omega))
      rw [if_neg t23]
      by_cases t24 : t = 24
      · rw [if_pos t24]
        exact st_b (tc_plan I r1 r2) (fun N hN => nx N _ hN (by omega))
      rw [if_neg t24]
      by_cases t25 : t = 25
      · rw [if_pos t25]
        exact st_0 (tc_boat I r1 r2 r3) (nx M _ I (by omega))
      rw [if_neg t25]
      by_cases t26 : t = 26
      · rw [if_pos t26]
        exact st_b (tc_log I r1 r2 r3) (fun N hN => nx N _ hN (by omega))
      rw [if_neg t26]
      by_cases t27 : t = 27
      · rw [if_pos t27]
        exact st_l (tc_back I r1 r2 r3) (fun N hN => nx N _ hN (by omega))
      rw [if_neg t27]
      by_cases t28 : t = 28
      · rw [if_pos t28]
        exact st_b (tc_undo I) (fun N hN => nx N _ hN (by omega))
      rw [if_neg t28]
      by_cases t29 : t = 29
      · rw [if_pos t29]
        by_cases z : wr a1 = 0
        · have z' : (wr a1 = 0) = True := eq_true z
          simp only [z', ↓reduceIte]
          rw [imgA_f I, yk_xb2, yk_some]
          dsimp only
          rw [if_pos rfl]
          exact nx M _ I (by omega)
        · have z' : (wr a1 = 0) = False := eq_false z
          simp only [z', ↓reduceIte]
          rw [yk_xb]
          refine yk.mono (imgA_t I) ?_
          intro N hN
          rw [yk_xb2]
          refine yk.mono hN ?_
          intro y hy
          rw [hy.1, if_pos rfl]
          exact lawB_q hL n y.2 (v3 + 6) c hy.2 (by omega) (by omega) (by omega) (by omega)
      rw [if_neg t29]
      by_cases t30 : t = 30
      · rw [if_pos t30]
        exact st_0 (tc_look I r1) (nx M _ I (by omega))
      rw [if_neg t30]
      exact nx M _ I (by omega)
