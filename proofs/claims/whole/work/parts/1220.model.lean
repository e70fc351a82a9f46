def fX4_orders (M : xM) (v1 : Int) : Option Int := (if (fX11_within v1 0 (10 - 1)) = true then (if (fX11_within (((M 5 0) - 1) - v1) 0 (10 - 1)) = true then (xtb [1, 1, 2, 6, 24, 120, 720, 5040, 40320, 362880] 10 v1 fun r1 => xtb [1, 1, 2, 6, 24, 120, 720, 5040, 40320, 362880] 10 (((M 5 0) - 1) - v1) fun r2 => some (r1 * r2)) else some 0) else some 0)
set_option maxRecDepth 20000 in
set_option maxHeartbeats 1000000 in
theorem fX4_orders_c {S : xS} {kp : Option Nat} (hS : xSk kp 6 S) {M : xM} {v1 : Int} {E : Int} (h : fX4_orders M v1 = some E) :
    V Y_X4_orders 1 0 0 0 (xarg 0 [vR (some 5), vI v1]) [] S M (xqR S M (some (vI E))) := by
  unfold fX4_orders at h
  show V Y_X4_orders 1 0 0 0 [(0, vR (some 5)), (1, vI v1)] [] S M _
  refine V_aload_n dX4_orders_0 rfl (xm 0 rfl) ?_
  refine V_getI (kI := 0) dX4_orders_1 fl_X4_30 (sk_5 hS (by decide)) rfl rfl ?_
  refine V_iconst dX4_orders_4 ?_
  refine V_isub dX4_orders_5 ?_
  refine V_iload_n dX4_orders_6 rfl (xm 1 rfl) ?_
  refine V_isub dX4_orders_7 ?_
  refine V_istore_n (ls' := [(2, vI (((M 5 0) - 1) - v1)), (0, vR (some 5)), (1, vI v1)]) dX4_orders_8 rfl (by decide) rfl ?_
  refine V_iload_n dX4_orders_9 rfl (xm 2 rfl) ?_
  refine V_iconst dX4_orders_10 ?_
  refine V_gets dX4_orders_11 (by decide +kernel : ("TurnedIsland$Plots", "FACTORIALS", "[I", 2) ∈ xZR) (xsg4 187 rfl rfl) ?_
  refine V_tlen (tb := [1, 1, 2, 6, 24, 120, 720, 5040, 40320, 362880]) dX4_orders_14 (by decide +kernel) rfl ?_
  refine V_iconst dX4_orders_15 ?_
  refine V_isub dX4_orders_16 ?_
  refine T_callSNI (host := "TurnedIsland") dX4_orders_17 ok_X11_within lk_X4_40.1 lk_X4_40.2 (hV := ((fX11_within_c (hS.le (by decide)) rfl).mono (by decide) (Nat.le_refl _) (Nat.le_refl _))) rfl (Nat.le_of_ble_eq_true rfl) rfl (Nat.le_of_ble_eq_true rfl) ?_
  refine V_if_eqB (tgt := 37) dX4_orders_20 (by decide) h (fun _ h => ?_) (fun _ h => ?_)
  · refine V_iload_n dX4_orders_23 rfl (xm 0 rfl) ?_
    refine V_iconst dX4_orders_24 ?_
    refine V_gets dX4_orders_25 (by decide +kernel : ("TurnedIsland$Plots", "FACTORIALS", "[I", 2) ∈ xZR) (xsg4 187 rfl rfl) ?_
    refine V_tlen (tb := [1, 1, 2, 6, 24, 120, 720, 5040, 40320, 362880]) dX4_orders_28 (by decide +kernel) rfl ?_
    refine V_iconst dX4_orders_29 ?_
    refine V_isub dX4_orders_30 ?_
    refine T_callSNI (host := "TurnedIsland") dX4_orders_31 ok_X11_within lk_X4_40.1 lk_X4_40.2 (hV := ((fX11_within_c (hS.le (by decide)) rfl).mono (by decide) (Nat.le_refl _) (Nat.le_refl _))) rfl (Nat.le_of_ble_eq_true rfl) rfl (Nat.le_of_ble_eq_true rfl) ?_
    refine V_if_neB (tgt := 39) dX4_orders_34 (by decide) h (fun _ h => ?_) (fun _ h => ?_)
    · refine V_gets dX4_orders_39 (by decide +kernel : ("TurnedIsland$Plots", "FACTORIALS", "[I", 2) ∈ xZR) (xsg4 187 rfl rfl) ?_
      refine V_iload_n dX4_orders_42 rfl (xm 2 rfl) ?_
      refine T_tald (tb := [1, 1, 2, 6, 24, 120, 720, 5040, 40320, 362880]) dX4_orders_43 (by decide +kernel) rfl h (fun r1 h => ?_)
      refine V_gets dX4_orders_44 (by decide +kernel : ("TurnedIsland$Plots", "FACTORIALS", "[I", 2) ∈ xZR) (xsg4 187 rfl rfl) ?_
      refine V_iload_n dX4_orders_47 rfl (xm 0 rfl) ?_
      refine T_tald (tb := [1, 1, 2, 6, 24, 120, 720, 5040, 40320, 362880]) dX4_orders_48 (by decide +kernel) rfl h (fun r2 h => ?_)
      refine V_imul dX4_orders_49 ?_
      exact V_ireti dX4_orders_50 rfl (q_pI h)
    · refine V_iconst dX4_orders_37 ?_
      exact V_ireti dX4_orders_38 rfl (q_pI h)
  · refine V_iconst dX4_orders_37 ?_
    exact V_ireti dX4_orders_38 rfl (q_pI h)
def fX4_power_L20 (n : Nat) (M : xM) (v1 : Int) (v2 : Int) (v3 : Int) (v4 : Int) (v5 : Int) (v6 : Int) : Option (Int) := match n with
  | 0 => none
  | n + 1 => (if wr v3 < wr v6 then some v5 else (xb (fX4_weightOf M v6) fun r4 => (if wr (xand (xshr v6 v1) 1) = 0 then (if wr v4 < wr r4 then fX4_power_L20 n M v1 v2 v3 v4 v5 (v6 + 1) else (xrd M 7 10 v1 fun r5 => (if wr v4 < wr (r4 + r5) then (if wr v2 = 0 then fX4_power_L20 n M v1 v2 v3 v4 (v5 + 1) (v6 + 1) else (xb (fX4_orders M (fJ6_bitCount_0f7a4 v6)) fun r7 => fX4_power_L20 n M v1 v2 v3 v4 (v5 + r7) (v6 + 1))) else fX4_power_L20 n M v1 v2 v3 v4 v5 (v6 + 1)))) else fX4_power_L20 n M v1 v2 v3 v4 v5 (v6 + 1))))
set_option maxRecDepth 20000 in
set_option maxHeartbeats 1000000 in
theorem fX4_power_L20_c {S : xS} {kp : Option Nat} (hS : xSk kp 8 S) {Q : Option xV → xS → xM → Prop} :
    ∀ (n : Nat) (M : xM) (v1 : Int) (v2 : Int) (v3 : Int) (v4 : Int) (v5 : Int) (v6 : Int) {x5 : Int}, fX4_power_L20 n M v1 v2 v3 v4 v5 v6 = some x5 → V Y_X4_power 2 0 0 92 [(5, vI x5)] [] S M Q → V Y_X4_power 2 0 0 20 [(0, vR (some 5)), (1, vI v1), (2, vI v2), (3, vI v3), (4, vI v4), (5, vI v5), (6, vI v6)] [] S M Q := by
  intro n
  induction n with
  | zero =>
    intro M v1 v2 v3 v4 v5 v6 x5 h k
    cases h
  | succ n ih =>
    intro M v1 v2 v3 v4 v5 v6 x5 h k
    rw [fX4_power_L20] at h
    refine V_iload dX4_power_20 (xm 6 rfl) ?_
    refine V_iload_n dX4_power_22 rfl (xm 3 rfl) ?_
    refine V_icmp_gt (tgt := 92) dX4_power_23 (by decide) h (fun _ h => ?_) (fun _ h => ?_)
    · cases h
      refine V.pick [5] rfl ?_
      exact k
    · refine V_aload_n dX4_power_26 rfl (xm 0 rfl) ?_
      refine V_iload dX4_power_27 (xm 6 rfl) ?_
      refine xbE h (fun r4 h3 h => ?_)
      refine T_callVI dX4_power_29 ok_X4_weightOf (by exact ⟨by decide, rfl⟩) lk_X4_48.1 lk_X4_48.2 (sk_5 hS (by decide)) (hV := ((fX4_weightOf_c (hS.le (by decide)) h3).mono (by decide) (Nat.le_refl _) (Nat.le_refl _))) rfl (Nat.le_of_ble_eq_true rfl) rfl (Nat.le_of_ble_eq_true rfl) ?_
      refine V_istore (ls' := [(7, vI r4), (0, vR (some 5)), (1, vI v1), (2, vI v2), (3, vI v3), (4, vI v4), (5, vI v5), (6, vI v6)]) dX4_power_32 (by decide) rfl ?_
      refine V_iload dX4_power_34 (xm 7 rfl) ?_
      refine V_iload_n dX4_power_36 rfl (xm 2 rfl) ?_
      refine V_ishr dX4_power_37 ?_
      refine V_iconst dX4_power_38 ?_
      refine V_iand dX4_power_39 ?_
      refine V_if_ne (tgt := 86) dX4_power_40 (by decide) h (fun _ h => ?_) (fun _ h => ?_)
      · refine V_iload dX4_power_43 (xm 0 rfl) ?_
        refine V_iload dX4_power_45 (xm 5 rfl) ?_
        refine V_icmp_gt (tgt := 86) dX4_power_47 (by decide) h (fun _ h => ?_) (fun _ h => ?_)
        · refine V_iinc (ls' := [(6, vI (v6 + 1)), (7, vI r4), (0, vR (some 5)), (1, vI v1), (2, vI v2), (3, vI v3), (4, vI v4), (5, vI v5)]) dX4_power_86 (xm 7 rfl) (by decide) rfl ?_
          refine V_goto (tgt := 20) dX4_power_89 (by decide) ?_
          refine V.pick [2, 3, 4, 5, 6, 7, 0] rfl ?_
          exact ih M v1 v2 v3 v4 v5 (v6 + 1) h k
        · refine V_iload dX4_power_50 (xm 0 rfl) ?_
          refine V_aload_n dX4_power_52 rfl (xm 1 rfl) ?_
          refine V_getR dX4_power_53 fl_X4_15 (sk_5 hS (by decide)) rfl ?_
          refine V_iload_n dX4_power_56 rfl (xm 2 rfl) ?_
          refine T_iald dX4_power_57 (sk_7 hS (by decide)) rfl h (fun r5 h => ?_)
          refine V_iadd dX4_power_58 ?_
          refine V_iload dX4_power_59 (xm 5 rfl) ?_
          refine V_icmp_le (tgt := 86) dX4_power_61 (by decide) h (fun _ h => ?_) (fun _ h => ?_)
          · refine V_iload dX4_power_64 (xm 6 rfl) ?_
            refine V_iload_n dX4_power_66 rfl (xm 3 rfl) ?_
            refine V_if_eq (tgt := 82) dX4_power_67 (by decide) h (fun _ h => ?_) (fun _ h => ?_)
            · refine V_iconst dX4_power_82 ?_
              refine V_iadd dX4_power_83 ?_
              refine V_istore (ls' := [(5, vI (v5 + 1)), (7, vI r4), (0, vR (some 5)), (1, vI v1), (2, vI v2), (3, vI v3), (4, vI v4), (6, vI v6)]) dX4_power_84 (by decide) rfl ?_
              refine V_iinc (ls' := [(6, vI (v6 + 1)), (5, vI (v5 + 1)), (7, vI r4), (0, vR (some 5)), (1, vI v1), (2, vI v2), (3, vI v3), (4, vI v4)]) dX4_power_86 (xm 7 rfl) (by decide) rfl ?_
              refine V_goto (tgt := 20) dX4_power_89 (by decide) ?_
              refine V.pick [3, 4, 5, 6, 7, 1, 0] rfl ?_
              exact ih M v1 v2 v3 v4 (v5 + 1) (v6 + 1) h k
            · refine V_aload_n dX4_power_70 rfl (xm 1 rfl) ?_
              refine V_iload dX4_power_71 (xm 7 rfl) ?_
              refine T_callSI (host := "") dX4_power_73 ok_J6_bitCount_0f7a4 lk_X4_56.1 lk_X4_56.2 (hV := ((fJ6_bitCount_0f7a4_c (hS.le (by decide)) rfl).mono (by decide) (Nat.le_refl _) (Nat.le_refl _))) rfl (Nat.le_of_ble_eq_true rfl) rfl (Nat.le_of_ble_eq_true rfl) ?_
              refine xbE h (fun r7 h6 h => ?_)
              refine T_callVI dX4_power_76 ok_X4_orders (by exact ⟨by decide, rfl⟩) lk_X4_61.1 lk_X4_61.2 (sk_5 hS (by decide)) (hV := ((fX4_orders_c (hS.le (by decide)) h6).mono (by decide) (Nat.le_refl _) (Nat.le_refl _))) rfl (Nat.le_of_ble_eq_true rfl) rfl (Nat.le_of_ble_eq_true rfl) ?_
              refine V_goto (tgt := 83) dX4_power_79 (by decide) ?_
              refine V_iadd dX4_power_83 ?_
              refine V_istore (ls' := [(5, vI (v5 + r7)), (7, vI r4), (0, vR (some 5)), (1, vI v1), (2, vI v2), (3, vI v3), (4, vI v4), (6, vI v6)]) dX4_power_84 (by decide) rfl ?_
              refine V_iinc (ls' := [(6, vI (v6 + 1)), (5, vI (v5 + r7)), (7, vI r4), (0, vR (some 5)), (1, vI v1), (2, vI v2), (3, vI v3), (4, vI v4)]) dX4_power_86 (xm 7 rfl) (by decide) rfl ?_
              refine V_goto (tgt := 20) dX4_power_89 (by decide) ?_
              refine V.pick [3, 4, 5, 6, 7, 1, 0] rfl ?_
              exact ih M v1 v2 v3 v4 (v5 + r7) (v6 + 1) h k
          · refine V_iinc (ls' := [(6, vI (v6 + 1)), (7, vI r4), (0, vR (some 5)), (1, vI v1), (2, vI v2), (3, vI v3), (4, vI v4), (5, vI v5)]) dX4_power_86 (xm 7 rfl) (by decide) rfl ?_
            refine V_goto (tgt := 20) dX4_power_89 (by decide) ?_
            refine V.pick [2, 3, 4, 5, 6, 7, 0] rfl ?_
            exact ih M v1 v2 v3 v4 v5 (v6 + 1) h k
      · refine V_iinc (ls' := [(6, vI (v6 + 1)), (7, vI r4), (0, vR (some 5)), (1, vI v1), (2, vI v2), (3, vI v3), (4, vI v4), (5, vI v5)]) dX4_power_86 (xm 7 rfl) (by decide) rfl ?_
        refine V_goto (tgt := 20) dX4_power_89 (by decide) ?_
        refine V.pick [2, 3, 4, 5, 6, 7, 0] rfl ?_
        exact ih M v1 v2 v3 v4 v5 (v6 + 1) h k
theorem fX4_power_L20_ci {S : xS} {kp : Option Nat} (hS : xSk kp 8 S) {Q : Option xV → xS → xM → Prop} {n : Nat} {M : xM} {v1 : Int} {v2 : Int} {v3 : Int} {v4 : Int} {v5 : Int} {v6 : Int} {x5 : Int} (hl : fX4_power_L20 n M v1 v2 v3 v4 v5 v6 = some x5) (k : V Y_X4_power 2 0 0 92 [(5, vI x5)] [] S M Q) : V Y_X4_power 2 0 0 20 [(0, vR (some 5)), (1, vI v1), (2, vI v2), (3, vI v3), (4, vI v4), (5, vI v5), (6, vI v6)] [] S M Q := fX4_power_L20_c hS _ _ _ _ _ _ _ _ hl k
def fX4_power (M : xM) (v1 : Int) (v2 : Int) : Option Int := xb (fX4_weightOf M (fX4_all M)) fun r2 => xb (fX4_power_L20 xfuel M v1 v2 (fX4_all M) (xdiv r2 2) 0 0) fun y8 => some y8
set_option maxRecDepth 20000 in
set_option maxHeartbeats 1000000 in
theorem fX4_power_c {S : xS} {kp : Option Nat} (hS : xSk kp 8 S) {M : xM} {v1 : Int} {v2 : Int} {E : Int} (h : fX4_power M v1 v2 = some E) :
    V Y_X4_power 2 0 0 0 (xarg 0 [vR (some 5), vI v1, vI v2]) [] S M (xqR S M (some (vI E))) := by
  unfold fX4_power at h
  show V Y_X4_power 2 0 0 0 [(0, vR (some 5)), (1, vI v1), (2, vI v2)] [] S M _
  refine V_aload_n dX4_power_0 rfl (xm 0 rfl) ?_
  refine T_callVI dX4_power_1 ok_X4_all (by exact ⟨by decide, rfl⟩) lk_X4_44.1 lk_X4_44.2 (sk_5 hS (by decide)) (hV := ((fX4_all_c (hS.le (by decide)) rfl).mono (by decide) (Nat.le_refl _) (Nat.le_refl _))) rfl (Nat.le_of_ble_eq_true rfl) rfl (Nat.le_of_ble_eq_true rfl) ?_
  refine V_istore_n (ls' := [(3, vI (fX4_all M)), (0, vR (some 5)), (1, vI v1), (2, vI v2)]) dX4_power_4 rfl (by decide) rfl ?_
  refine V_aload_n dX4_power_5 rfl (xm 1 rfl) ?_
  refine V_iload_n dX4_power_6 rfl (xm 0 rfl) ?_
  refine xbE h (fun r2 h1 h => ?_)
  refine T_callVI dX4_power_7 ok_X4_weightOf (by exact ⟨by decide, rfl⟩) lk_X4_48.1 lk_X4_48.2 (sk_5 hS (by decide)) (hV := ((fX4_weightOf_c (hS.le (by decide)) h1).mono (by decide) (Nat.le_refl _) (Nat.le_refl _))) rfl (Nat.le_of_ble_eq_true rfl) rfl (Nat.le_of_ble_eq_true rfl) ?_
  refine V_iconst dX4_power_10 ?_
  refine V_idivK dX4_power_11 (by decide) ?_
  refine V_istore (ls' := [(4, vI (xdiv r2 2)), (3, vI (fX4_all M)), (0, vR (some 5)), (1, vI v1), (2, vI v2)]) dX4_power_12 (by decide) rfl ?_
  refine V_iconst dX4_power_14 ?_
  refine V_istore (ls' := [(5, vI 0), (4, vI (xdiv r2 2)), (3, vI (fX4_all M)), (0, vR (some 5)), (1, vI v1), (2, vI v2)]) dX4_power_15 (by decide) rfl ?_
  refine V_iconst dX4_power_17 ?_
  refine V_istore (ls' := [(6, vI 0), (5, vI 0), (4, vI (xdiv r2 2)), (3, vI (fX4_all M)), (0, vR (some 5)), (1, vI v1), (2, vI v2)]) dX4_power_18 (by decide) rfl ?_
  refine xbE h (fun y8 h9 h => ?_)
  refine V.pick [4, 5, 6, 3, 2, 1, 0] rfl ?_
  refine fX4_power_L20_ci (hS.le (by decide)) h9 ?_
  refine V_iload dX4_power_92 (xm 0 rfl) ?_
  exact V_ireti dX4_power_94 rfl (q_pI h)
def fX11_of (M : xM) (v1 : Int) (v2 : Int) : Option Int := (if (fX4_has M v1) = true then (if wr v2 = 0 then (xrd M 6 10 v1 fun r1 => some r1) else (if wr v2 = 1 then (xrd M 7 10 v1 fun r2 => some r2) else (if wr v2 = 2 then (xrd M 8 10 v1 fun r3 => some r3) else (if wr v2 = 3 then (xrd M 9 10 v1 fun r4 => some r4) else (if wr v2 = 4 then (xb (fX1_angleOf M v1 (M 1 1)) fun r6 => some r6) else (if wr v2 = 5 then (xb (fX4_power M v1 1) fun r8 => some r8) else (if wr v2 = 6 then (xb (fX4_power M v1 0) fun r10 => some r10) else some ((-100000))))))))) else some ((-100000)))
set_option maxRecDepth 20000 in
set_option maxHeartbeats 1000000 in
theorem fX11_of_c {S : xS} {kp : Option Nat} (hS : xSk kp 94 S) {M : xM} {v1 : Int} {v2 : Int} {E : Int} (h : fX11_of M v1 v2 = some E) :
    V Y_X11_of 3 0 0 0 (xarg 0 [vR (some 0), vI v1, vI v2]) [] S M (xqR S M (some (vI E))) := by
  unfold fX11_of at h
  show V Y_X11_of 3 0 0 0 [(0, vR (some 0)), (1, vI v1), (2, vI v2)] [] S M _
  refine V_aload_n dX11_of_0 rfl (xm 0 rfl) ?_
  refine V_getR dX11_of_1 fl_X11_12 (sk_0 hS (by decide)) rfl ?_
  refine V_getR dX11_of_4 fl_X11_82 (sk_1 hS (by decide)) rfl ?_
  refine V_iload_n dX11_of_7 rfl (xm 1 rfl) ?_
  refine T_callVI dX11_of_8 ok_X4_has (by exact ⟨by decide, rfl⟩) lk_X11_145.1 lk_X11_145.2 (sk_5 hS (by decide)) (hV := ((fX4_has_c (hS.le (by decide)) rfl).mono (by decide) (Nat.le_refl _) (Nat.le_refl _))) rfl (Nat.le_of_ble_eq_true rfl) rfl (Nat.le_of_ble_eq_true rfl) ?_
  refine V_if_neB (tgt := 17) dX11_of_11 (by decide) h (fun _ h => ?_) (fun _ h => ?_)
  · refine V_iload_n dX11_of_17 rfl (xm 2 rfl) ?_
    refine xif h (fun c h => ?_) (fun c0 h => ?_)
    · refine V_tabIn (tgt := 60) dX11_of_18 c (by decide) (by decide) rfl (by decide) ?_
      refine V_aload_n dX11_of_60 rfl (xm 0 rfl) ?_
      refine V_getR dX11_of_61 fl_X11_12 (sk_0 hS (by decide)) rfl ?_
      refine V_getR dX11_of_64 fl_X11_82 (sk_1 hS (by decide)) rfl ?_
      refine V_getR dX11_of_67 fl_X11_234 (sk_5 hS (by decide)) rfl ?_
      refine V_iload_n dX11_of_70 rfl (xm 1 rfl) ?_
      refine T_iald dX11_of_71 (sk_6 hS (by decide)) rfl h (fun r1 h => ?_)
      exact V_ireti dX11_of_72 rfl (q_pI h)
    · refine xif h (fun c h => ?_) (fun c1 h => ?_)
      · refine V_tabIn (tgt := 73) dX11_of_18 c (by decide) (by decide) rfl (by decide) ?_
        refine V_aload_n dX11_of_73 rfl (xm 0 rfl) ?_
        refine V_getR dX11_of_74 fl_X11_12 (sk_0 hS (by decide)) rfl ?_
        refine V_getR dX11_of_77 fl_X11_82 (sk_1 hS (by decide)) rfl ?_
        refine V_getR dX11_of_80 fl_X11_237 (sk_5 hS (by decide)) rfl ?_
        refine V_iload_n dX11_of_83 rfl (xm 1 rfl) ?_
        refine T_iald dX11_of_84 (sk_7 hS (by decide)) rfl h (fun r2 h => ?_)
        exact V_ireti dX11_of_85 rfl (q_pI h)
      · refine xif h (fun c h => ?_) (fun c2 h => ?_)
        · refine V_tabIn (tgt := 86) dX11_of_18 c (by decide) (by decide) rfl (by decide) ?_
          refine V_aload_n dX11_of_86 rfl (xm 0 rfl) ?_
          refine V_getR dX11_of_87 fl_X11_12 (sk_0 hS (by decide)) rfl ?_
          refine V_getR dX11_of_90 fl_X11_82 (sk_1 hS (by decide)) rfl ?_
          refine V_getR dX11_of_93 fl_X11_240 (sk_5 hS (by decide)) rfl ?_
          refine V_iload_n dX11_of_96 rfl (xm 1 rfl) ?_
          refine T_iald dX11_of_97 (sk_8 hS (by decide)) rfl h (fun r3 h => ?_)
          exact V_ireti dX11_of_98 rfl (q_pI h)
        · refine xif h (fun c h => ?_) (fun c3 h => ?_)
          · refine V_tabIn (tgt := 99) dX11_of_18 c (by decide) (by decide) rfl (by decide) ?_
            refine V_aload_n dX11_of_99 rfl (xm 0 rfl) ?_
            refine V_getR dX11_of_100 fl_X11_12 (sk_0 hS (by decide)) rfl ?_
            refine V_getR dX11_of_103 fl_X11_82 (sk_1 hS (by decide)) rfl ?_
            refine V_getR dX11_of_106 fl_X11_172 (sk_5 hS (by decide)) rfl ?_
            refine V_iload_n dX11_of_109 rfl (xm 1 rfl) ?_
            refine T_iald dX11_of_110 (sk_9 hS (by decide)) rfl h (fun r4 h => ?_)
            exact V_ireti dX11_of_111 rfl (q_pI h)
          · refine xif h (fun c h => ?_) (fun c4 h => ?_)
            · refine V_tabIn (tgt := 112) dX11_of_18 c (by decide) (by decide) rfl (by decide) ?_
              refine V_aload_n dX11_of_112 rfl (xm 0 rfl) ?_
              refine V_getR dX11_of_113 fl_X11_12 (sk_0 hS (by decide)) rfl ?_
              refine V_iload_n dX11_of_116 rfl (xm 1 rfl) ?_
              refine V_aload_n dX11_of_117 rfl (xm 0 rfl) ?_
              refine V_getR dX11_of_118 fl_X11_12 (sk_0 hS (by decide)) rfl ?_
              refine V_getI (kI := 1) dX11_of_121 fl_X11_100 (sk_1 hS (by decide)) rfl rfl ?_
              refine xbE h (fun r6 h5 h => ?_)
              refine T_callVI dX11_of_124 ok_X1_angleOf (by exact ⟨by decide, rfl⟩) lk_X11_243.1 lk_X11_243.2 (sk_1 hS (by decide)) (hV := ((fX1_angleOf_c (hS.le (by decide)) h5).mono (by decide) (Nat.le_refl _) (Nat.le_refl _))) rfl (Nat.le_of_ble_eq_true rfl) rfl (Nat.le_of_ble_eq_true rfl) ?_
              exact V_ireti dX11_of_127 rfl (q_pI h)
            · refine xif h (fun c h => ?_) (fun c5 h => ?_)
              · refine V_tabIn (tgt := 128) dX11_of_18 c (by decide) (by decide) rfl (by decide) ?_
                refine V_aload_n dX11_of_128 rfl (xm 0 rfl) ?_
                refine V_getR dX11_of_129 fl_X11_12 (sk_0 hS (by decide)) rfl ?_
                refine V_getR dX11_of_132 fl_X11_82 (sk_1 hS (by decide)) rfl ?_
                refine V_iload_n dX11_of_135 rfl (xm 1 rfl) ?_
                refine V_iconst dX11_of_136 ?_
                refine xbE h (fun r8 h7 h => ?_)
                refine T_callVI dX11_of_137 ok_X4_power (by exact ⟨by decide, rfl⟩) lk_X11_246.1 lk_X11_246.2 (sk_5 hS (by decide)) (hV := ((fX4_power_c (hS.le (by decide)) h7).mono (by decide) (Nat.le_refl _) (Nat.le_refl _))) rfl (Nat.le_of_ble_eq_true rfl) rfl (Nat.le_of_ble_eq_true rfl) ?_
                exact V_ireti dX11_of_140 rfl (q_pI h)
              · refine xif h (fun c h => ?_) (fun c6 h => ?_)
                · refine V_tabIn (tgt := 141) dX11_of_18 c (by decide) (by decide) rfl (by decide) ?_
                  refine V_aload_n dX11_of_141 rfl (xm 0 rfl) ?_
                  refine V_getR dX11_of_142 fl_X11_12 (sk_0 hS (by decide)) rfl ?_
                  refine V_getR dX11_of_145 fl_X11_82 (sk_1 hS (by decide)) rfl ?_
                  refine V_iload_n dX11_of_148 rfl (xm 1 rfl) ?_
                  refine V_iconst dX11_of_149 ?_
                  refine xbE h (fun r10 h9 h => ?_)
                  refine T_callVI dX11_of_150 ok_X4_power (by exact ⟨by decide, rfl⟩) lk_X11_246.1 lk_X11_246.2 (sk_5 hS (by decide)) (hV := ((fX4_power_c (hS.le (by decide)) h9).mono (by decide) (Nat.le_refl _) (Nat.le_refl _))) rfl (Nat.le_of_ble_eq_true rfl) rfl (Nat.le_of_ble_eq_true rfl) ?_
                  exact V_ireti dX11_of_153 rfl (q_pI h)
                · refine V_tabOut (tgt := 154) dX11_of_18 (by omega) (by decide) ?_
                  refine V_ldc (n := (-100000)) dX11_of_154 (xsg4 20 rfl rfl : Cond.constant RX11 151 (-100000) ∈ xT) (by decide) ?_
                  exact V_ireti dX11_of_156 rfl (q_pI h)
  · refine V_ldc (n := (-100000)) dX11_of_14 (xsg4 20 rfl rfl : Cond.constant RX11 151 (-100000) ∈ xT) (by decide) ?_
    exact V_ireti dX11_of_16 rfl (q_pI h)
def fX11_turned (M : xM) (v1 : Int) : Option Int := (if wr v1 < wr (M 1 2) then (if wr v1 < wr ((M 1 2) - (M 1 5)) then some ((-1)) else (xb (fX1_bookCell v1) fun r2 => xrd M 3 410 r2 fun r3 => some (r3 + 2))) else some ((-1)))
set_option maxRecDepth 20000 in
set_option maxHeartbeats 1000000 in
theorem fX11_turned_c {S : xS} {kp : Option Nat} (hS : xSk kp 94 S) {M : xM} {v1 : Int} {E : Int} (h : fX11_turned M v1 = some E) :
    V Y_X11_turned 2 0 0 0 (xarg 0 [vR (some 0), vI v1]) [] S M (xqR S M (some (vI E))) := by
  unfold fX11_turned at h
  show V Y_X11_turned 2 0 0 0 [(0, vR (some 0)), (1, vI v1)] [] S M _
  refine V_iload_n dX11_turned_0 rfl (xm 1 rfl) ?_
  refine V_aload_n dX11_turned_1 rfl (xm 0 rfl) ?_
  refine V_getR dX11_turned_2 fl_X11_12 (sk_0 hS (by decide)) rfl ?_
  refine V_getI (kI := 2) dX11_turned_5 fl_X11_103 (sk_1 hS (by decide)) rfl rfl ?_
  refine V_icmp_ge (tgt := 30) dX11_turned_8 (by decide) h (fun _ h => ?_) (fun _ h => ?_)
  · refine V_iload_n dX11_turned_11 rfl (xm 1 rfl) ?_
    refine V_aload_n dX11_turned_12 rfl (xm 0 rfl) ?_
    refine V_getR dX11_turned_13 fl_X11_12 (sk_0 hS (by decide)) rfl ?_
    refine V_getI (kI := 2) dX11_turned_16 fl_X11_103 (sk_1 hS (by decide)) rfl rfl ?_
    refine V_aload_n dX11_turned_19 rfl (xm 0 rfl) ?_
    refine V_getR dX11_turned_20 fl_X11_12 (sk_0 hS (by decide)) rfl ?_
    refine V_getI (kI := 5) dX11_turned_23 fl_X11_106 (sk_1 hS (by decide)) rfl rfl ?_
    refine V_isub dX11_turned_26 ?_
    refine V_icmp_ge (tgt := 32) dX11_turned_27 (by decide) h (fun _ h => ?_) (fun _ h => ?_)
    · refine V_iconst dX11_turned_30 ?_
      exact V_ireti dX11_turned_31 rfl (q_pI h)
    · refine V_aload_n dX11_turned_32 rfl (xm 0 rfl) ?_
      refine V_getR dX11_turned_33 fl_X11_12 (sk_0 hS (by decide)) rfl ?_
      refine V_getR dX11_turned_36 fl_X11_250 (sk_1 hS (by decide)) rfl ?_
      refine V_iload_n dX11_turned_39 rfl (xm 1 rfl) ?_
      refine xbE h (fun r2 h1 h => ?_)
      refine T_callSI (host := "") dX11_turned_40 ok_X1_bookCell lk_X11_253.1 lk_X11_253.2 (hV := ((fX1_bookCell_c (hS.le (by decide)) h1).mono (by decide) (Nat.le_refl _) (Nat.le_refl _))) rfl (Nat.le_of_ble_eq_true rfl) rfl (Nat.le_of_ble_eq_true rfl) ?_
      refine T_iald dX11_turned_43 (sk_3 hS (by decide)) rfl h (fun r3 h => ?_)
      refine V_iconst dX11_turned_44 ?_
      refine V_iadd dX11_turned_45 ?_
      exact V_ireti dX11_turned_46 rfl (q_pI h)
  · refine V_iconst dX11_turned_30 ?_
    exact V_ireti dX11_turned_31 rfl (q_pI h)
def fX3_gather_L61 (n : Nat) (M : xM) (v2 : Int) (v4 : Int) (v5 : Int) (v6 : Int) (v7 : Int) (v8 : Int) (v9 : Int) : Option (Int × xM) := match n with
  | 0 => none
  | n + 1 => (if wr v9 < wr (M 5 0) then (if wr (xand (xshr v2 v9) 1) = 0 then fX3_gather_L61 n M v2 v4 v5 v6 v7 v8 (v9 + 1) else (xb2 (fX10_worthTo M v9 ((M 1 2) + v4) v7 v5) fun r4 M5 => fX3_gather_L61 n M5 v2 v4 v5 v6 v7 (v8 + r4) (v9 + 1))) else some (v8, M))
set_option maxRecDepth 20000 in
set_option maxHeartbeats 1000000 in
theorem fX3_gather_L61_c {S : xS} {kp : Option Nat} (hS : xSk kp 51 S) {Q : Option xV → xS → xM → Prop} :
    ∀ (n : Nat) (M : xM) (v2 : Int) (v4 : Int) (v5 : Int) (v6 : Int) (v7 : Int) (v8 : Int) (v9 : Int) {x8 : Int} {Mz : xM}, fX3_gather_L61 n M v2 v4 v5 v6 v7 v8 v9 = some (x8, Mz) → V Y_X3_gather 4 0 0 114 [(0, vR (some 50)), (1, vR (some 1)), (2, vI v2), (3, vR (some 51)), (4, vI v4), (5, vI v5), (6, vI v6), (8, vI x8)] [] S Mz Q → V Y_X3_gather 4 0 0 61 [(0, vR (some 50)), (1, vR (some 1)), (2, vI v2), (3, vR (some 51)), (4, vI v4), (5, vI v5), (6, vI v6), (7, vI v7), (8, vI v8), (9, vI v9)] [] S M Q := by
  intro n
  induction n with
  | zero =>
    intro M v2 v4 v5 v6 v7 v8 v9 x8 Mz h k
    cases h
  | succ n ih =>
    intro M v2 v4 v5 v6 v7 v8 v9 x8 Mz h k
    rw [fX3_gather_L61] at h
    refine V_iload dX3_gather_61 (xm 9 rfl) ?_
    refine V_aload_n dX3_gather_63 rfl (xm 1 rfl) ?_
    refine V_getR dX3_gather_64 fl_X3_55 (sk_1 hS (by decide)) rfl ?_
    refine V_getI (kI := 0) dX3_gather_67 fl_X3_59 (sk_5 hS (by decide)) rfl rfl ?_
    refine V_icmp_ge (tgt := 114) dX3_gather_70 (by decide) h (fun _ h => ?_) (fun _ h => ?_)
    · refine V_iload_n dX3_gather_73 rfl (xm 2 rfl) ?_
      refine V_iload dX3_gather_74 (xm 9 rfl) ?_
      refine V_ishr dX3_gather_76 ?_
      refine V_iconst dX3_gather_77 ?_
      refine V_iand dX3_gather_78 ?_
      refine V_if_eq (tgt := 108) dX3_gather_79 (by decide) h (fun _ h => ?_) (fun _ h => ?_)
      · refine V_iinc (ls' := [(9, vI (v9 + 1)), (0, vR (some 50)), (1, vR (some 1)), (2, vI v2), (3, vR (some 51)), (4, vI v4), (5, vI v5), (6, vI v6), (7, vI v7), (8, vI v8)]) dX3_gather_108 (xm 9 rfl) (by decide) rfl ?_
        refine V_goto (tgt := 61) dX3_gather_111 (by decide) ?_
        refine V.pick [1, 2, 3, 4, 5, 6, 7, 8, 9, 0] rfl ?_
        exact ih M v2 v4 v5 v6 v7 v8 (v9 + 1) h k
      · refine V_iload dX3_gather_82 (xm 8 rfl) ?_
        refine V_aload_n dX3_gather_84 rfl (xm 0 rfl) ?_
        refine V_getR dX3_gather_85 fl_X3_35 (sk_50 hS (by decide)) rfl ?_
        refine V_aload_n dX3_gather_88 rfl (xm 1 rfl) ?_
        refine V_iload dX3_gather_89 (xm 9 rfl) ?_
        refine V_aload_n dX3_gather_91 rfl (xm 1 rfl) ?_
        refine V_getI (kI := 2) dX3_gather_92 fl_X3_64 (sk_1 hS (by decide)) rfl rfl ?_
        refine V_iload dX3_gather_95 (xm 4 rfl) ?_
        refine V_iadd dX3_gather_97 ?_
        refine V_iload dX3_gather_98 (xm 7 rfl) ?_
        refine V_iload dX3_gather_100 (xm 5 rfl) ?_
        refine xb2E h (fun r4 M5 h3 h => ?_)
        refine T_callVI dX3_gather_102 ok_X10_worthTo (by exact ⟨by decide, rfl⟩) lk_X3_67.1 lk_X3_67.2 (sk_43 hS (by decide)) (hV := ((fX10_worthTo_c (hS.le (by decide)) h3).mono (by decide) (Nat.le_refl _) (Nat.le_refl _))) rfl (Nat.le_of_ble_eq_true rfl) rfl (Nat.le_of_ble_eq_true rfl) ?_
        refine V_iadd dX3_gather_105 ?_
        refine V_istore (ls' := [(8, vI (v8 + r4)), (0, vR (some 50)), (1, vR (some 1)), (2, vI v2), (3, vR (some 51)), (4, vI v4), (5, vI v5), (6, vI v6), (7, vI v7), (9, vI v9)]) dX3_gather_106 (by decide) rfl ?_
        refine V_iinc (ls' := [(9, vI (v9 + 1)), (8, vI (v8 + r4)), (0, vR (some 50)), (1, vR (some 1)), (2, vI v2), (3, vR (some 51)), (4, vI v4), (5, vI v5), (6, vI v6), (7, vI v7)]) dX3_gather_108 (xm 9 rfl) (by decide) rfl ?_
        refine V_goto (tgt := 61) dX3_gather_111 (by decide) ?_
        refine V.pick [2, 3, 4, 5, 6, 7, 8, 9, 1, 0] rfl ?_
        exact ih M5 v2 v4 v5 v6 v7 (v8 + r4) (v9 + 1) h k
    · cases h
      refine V.pick [0, 1, 2, 3, 4, 5, 6, 8] rfl ?_
      exact k
theorem fX3_gather_L61_ci {S : xS} {kp : Option Nat} (hS : xSk kp 51 S) {Q : Option xV → xS → xM → Prop} {n : Nat} {M : xM} {v2 : Int} {v4 : Int} {v5 : Int} {v6 : Int} {v7 : Int} {v8 : Int} {v9 : Int} {x8 : Int} {Mz : xM} (hl : fX3_gather_L61 n M v2 v4 v5 v6 v7 v8 v9 = some (x8, Mz)) (k : V Y_X3_gather 4 0 0 114 [(0, vR (some 50)), (1, vR (some 1)), (2, vI v2), (3, vR (some 51)), (4, vI v4), (5, vI v5), (6, vI v6), (8, vI x8)] [] S Mz Q) : V Y_X3_gather 4 0 0 61 [(0, vR (some 50)), (1, vR (some 1)), (2, vI v2), (3, vR (some 51)), (4, vI v4), (5, vI v5), (6, vI v6), (7, vI v7), (8, vI v8), (9, vI v9)] [] S M Q := fX3_gather_L61_c hS _ _ _ _ _ _ _ _ _ hl k
def fX3_cellOf (M : xM) (v1 : Int) (v2 : Int) (v3 : Int) : Int := (if wr v3 = 0 then ((((v1 * ((2 * (M 50 1)) + 1)) + (M 50 1)) + v2) * 2) + 0 else ((((v1 * ((2 * (M 50 1)) + 1)) + (M 50 1)) + v2) * 2) + 1)
set_option maxRecDepth 20000 in
set_option maxHeartbeats 1000000 in
theorem fX3_cellOf_c {S : xS} {kp : Option Nat} (hS : xSk kp 51 S) {M : xM} {v1 : Int} {v2 : Int} {v3 : Int} {E : Int} (h : fX3_cellOf M v1 v2 v3 = E) :
    V Y_X3_cellOf 0 0 0 0 (xarg 0 [vR (some 50), vI v1, vI v2, vI v3]) [] S M (xqR S M (some (vI E))) := by
  unfold fX3_cellOf at h
  show V Y_X3_cellOf 0 0 0 0 [(0, vR (some 50)), (1, vI v1), (2, vI v2), (3, vI v3)] [] S M _
  refine V_iload_n dX3_cellOf_0 rfl (xm 1 rfl) ?_
  refine V_iconst dX3_cellOf_1 ?_
  refine V_aload_n dX3_cellOf_2 rfl (xm 0 rfl) ?_
  refine V_getI (kI := 1) dX3_cellOf_3 fl_X3_39 (sk_50 hS (by decide)) rfl rfl ?_
  refine V_imul dX3_cellOf_6 ?_
  refine V_iconst dX3_cellOf_7 ?_
  refine V_iadd dX3_cellOf_8 ?_
  refine V_imul dX3_cellOf_9 ?_
  refine V_aload_n dX3_cellOf_10 rfl (xm 0 rfl) ?_
  refine V_getI (kI := 1) dX3_cellOf_11 fl_X3_39 (sk_50 hS (by decide)) rfl rfl ?_
  refine V_iadd dX3_cellOf_14 ?_
  refine V_iload_n dX3_cellOf_15 rfl (xm 2 rfl) ?_
  refine V_iadd dX3_cellOf_16 ?_
  refine V_iconst dX3_cellOf_17 ?_
  refine V_imul dX3_cellOf_18 ?_
  refine V_iload_n dX3_cellOf_19 rfl (xm 3 rfl) ?_
  refine V_if_ne (tgt := 27) dX3_cellOf_20 (by decide) h (fun _ h => ?_) (fun _ h => ?_)
  · refine V_iconst dX3_cellOf_23 ?_
    refine V_goto (tgt := 28) dX3_cellOf_24 (by decide) ?_
    refine V_iadd dX3_cellOf_28 ?_
    exact V_ireti dX3_cellOf_29 rfl (q_tI h)
  · refine V_iconst dX3_cellOf_27 ?_
    refine V_iadd dX3_cellOf_28 ?_
    exact V_ireti dX3_cellOf_29 rfl (q_tI h)
def fX3_gather_L29 (n : Nat) (M : xM) (v2 : Int) (v4 : Int) (v5 : Int) (v6 : Int) : Option (xM) := match n with
  | 0 => none
  | n + 1 => (if wr (v4 + v5) < wr v6 then some M else (xb (fX11_wrap ((M 1 1) + v6) (M 1 0)) fun r2 => xb2 (fX3_gather_L61 xfuel M v2 v4 v5 v6 r2 0 0) fun y6 M7 => xwt M7 51 3660 (fX3_cellOf M7 v4 v6 v5) y6 fun M9 => fX3_gather_L29 n M9 v2 v4 v5 (v6 + 1)))
set_option maxRecDepth 20000 in
set_option maxHeartbeats 1000000 in
theorem fX3_gather_L29_c {S : xS} {kp : Option Nat} (hS : xSk kp 52 S) {Q : Option xV → xS → xM → Prop} :
    ∀ (n : Nat) (M : xM) (v2 : Int) (v4 : Int) (v5 : Int) (v6 : Int) {Mz : xM}, fX3_gather_L29 n M v2 v4 v5 v6 = some Mz → V Y_X3_gather 4 0 0 134 [(0, vR (some 50)), (1, vR (some 1)), (2, vI v2), (3, vR (some 51)), (4, vI v4), (5, vI v5)] [] S Mz Q → V Y_X3_gather 4 0 0 29 [(0, vR (some 50)), (1, vR (some 1)), (2, vI v2), (3, vR (some 51)), (4, vI v4), (5, vI v5), (6, vI v6)] [] S M Q := by
  intro n
  induction n with
  | zero =>
    intro M v2 v4 v5 v6 Mz h k
    cases h
  | succ n ih =>
    intro M v2 v4 v5 v6 Mz h k
    rw [fX3_gather_L29] at h
    refine V_iload dX3_gather_29 (xm 6 rfl) ?_
    refine V_iload dX3_gather_31 (xm 4 rfl) ?_
    refine V_iload dX3_gather_33 (xm 5 rfl) ?_
    refine V_iadd dX3_gather_35 ?_
    refine V_icmp_gt (tgt := 134) dX3_gather_36 (by decide) h (fun _ h => ?_) (fun _ h => ?_)
    · cases h
      refine V.pick [0, 1, 2, 3, 4, 5] rfl ?_
      exact k
    · refine V_aload_n dX3_gather_39 rfl (xm 1 rfl) ?_
      refine V_getI (kI := 1) dX3_gather_40 fl_X3_43 (sk_1 hS (by decide)) rfl rfl ?_
      refine V_iload dX3_gather_43 (xm 6 rfl) ?_
      refine V_iadd dX3_gather_45 ?_
      refine V_aload_n dX3_gather_46 rfl (xm 1 rfl) ?_
      refine V_getI (kI := 0) dX3_gather_47 fl_X3_48 (sk_1 hS (by decide)) rfl rfl ?_
      refine xbE h (fun r2 h1 h => ?_)
      refine T_callSNI (host := "TurnedIsland") dX3_gather_50 ok_X11_wrap lk_X3_51.1 lk_X3_51.2 (hV := ((fX11_wrap_c (hS.le (by decide)) h1).mono (by decide) (Nat.le_refl _) (Nat.le_refl _))) rfl (Nat.le_of_ble_eq_true rfl) rfl (Nat.le_of_ble_eq_true rfl) ?_
      refine V_istore (ls' := [(7, vI r2), (0, vR (some 50)), (1, vR (some 1)), (2, vI v2), (3, vR (some 51)), (4, vI v4), (5, vI v5), (6, vI v6)]) dX3_gather_53 (by decide) rfl ?_
      refine V_iconst dX3_gather_55 ?_
      refine V_istore (ls' := [(8, vI 0), (7, vI r2), (0, vR (some 50)), (1, vR (some 1)), (2, vI v2), (3, vR (some 51)), (4, vI v4), (5, vI v5), (6, vI v6)]) dX3_gather_56 (by decide) rfl ?_
      refine V_iconst dX3_gather_58 ?_
      refine V_istore (ls' := [(9, vI 0), (8, vI 0), (7, vI r2), (0, vR (some 50)), (1, vR (some 1)), (2, vI v2), (3, vR (some 51)), (4, vI v4), (5, vI v5), (6, vI v6)]) dX3_gather_59 (by decide) rfl ?_
      refine xb2E h (fun y6 M7 h8 h => ?_)
      refine V.pick [3, 4, 5, 6, 7, 8, 9, 2, 1, 0] rfl ?_
      refine fX3_gather_L61_ci (hS.le (by decide)) h8 ?_
      refine V_aload_n dX3_gather_114 rfl (xm 3 rfl) ?_
      refine V_aload_n dX3_gather_115 rfl (xm 0 rfl) ?_
      refine V_iload dX3_gather_116 (xm 4 rfl) ?_
      refine V_iload dX3_gather_118 (xm 6 rfl) ?_
      refine V_iload dX3_gather_120 (xm 5 rfl) ?_
      refine T_callVI dX3_gather_122 ok_X3_cellOf (by exact ⟨by decide, rfl⟩) lk_X3_73.1 lk_X3_73.2 (sk_50 hS (by decide)) (hV := ((fX3_cellOf_c (hS.le (by decide)) rfl).mono (by decide) (Nat.le_refl _) (Nat.le_refl _))) rfl (Nat.le_of_ble_eq_true rfl) rfl (Nat.le_of_ble_eq_true rfl) ?_
      refine V_iload dX3_gather_125 (xm 7 rfl) ?_
      refine T_iast dX3_gather_127 (sk_51 hS (by decide)) rfl h (fun M9 h => ?_)
      refine V_iinc (ls' := [(6, vI (v6 + 1)), (0, vR (some 50)), (1, vR (some 1)), (2, vI v2), (3, vR (some 51)), (4, vI v4), (5, vI v5), (8, vI y6)]) dX3_gather_128 (xm 6 rfl) (by decide) rfl ?_
      refine V_goto (tgt := 29) dX3_gather_131 (by decide) ?_
      refine V.pick [1, 2, 3, 4, 5, 6, 0] rfl ?_
      exact ih M9 v2 v4 v5 (v6 + 1) h k
theorem fX3_gather_L29_ci {S : xS} {kp : Option Nat} (hS : xSk kp 52 S) {Q : Option xV → xS → xM → Prop} {n : Nat} {M : xM} {v2 : Int} {v4 : Int} {v5 : Int} {v6 : Int} {Mz : xM} (hl : fX3_gather_L29 n M v2 v4 v5 v6 = some Mz) (k : V Y_X3_gather 4 0 0 134 [(0, vR (some 50)), (1, vR (some 1)), (2, vI v2), (3, vR (some 51)), (4, vI v4), (5, vI v5)] [] S Mz Q) : V Y_X3_gather 4 0 0 29 [(0, vR (some 50)), (1, vR (some 1)), (2, vI v2), (3, vR (some 51)), (4, vI v4), (5, vI v5), (6, vI v6)] [] S M Q := fX3_gather_L29_c hS _ _ _ _ _ _ hl k
def fX3_gather_L15 (n : Nat) (M : xM) (v2 : Int) (v4 : Int) (v5 : Int) : Option (xM) := match n with
  | 0 => none
  | n + 1 => (if wr 1 < wr v5 then some M else (xb (fX3_gather_L29 xfuel M v2 v4 v5 ((-v4) - v5)) fun M10 => fX3_gather_L15 n M10 v2 v4 (v5 + 1)))
set_option maxRecDepth 20000 in
set_option maxHeartbeats 1000000 in
theorem fX3_gather_L15_c {S : xS} {kp : Option Nat} (hS : xSk kp 52 S) {Q : Option xV → xS → xM → Prop} :
    ∀ (n : Nat) (M : xM) (v2 : Int) (v4 : Int) (v5 : Int) {Mz : xM}, fX3_gather_L15 n M v2 v4 v5 = some Mz → V Y_X3_gather 4 0 0 140 [(0, vR (some 50)), (1, vR (some 1)), (2, vI v2), (3, vR (some 51)), (4, vI v4)] [] S Mz Q → V Y_X3_gather 4 0 0 15 [(0, vR (some 50)), (1, vR (some 1)), (2, vI v2), (3, vR (some 51)), (4, vI v4), (5, vI v5)] [] S M Q := by
  intro n
  induction n with
  | zero =>
    intro M v2 v4 v5 Mz h k
    cases h
  | succ n ih =>
    intro M v2 v4 v5 Mz h k
    rw [fX3_gather_L15] at h
    refine V_iload dX3_gather_15 (xm 5 rfl) ?_
    refine V_iconst dX3_gather_17 ?_
    refine V_icmp_gt (tgt := 140) dX3_gather_18 (by decide) h (fun _ h => ?_) (fun _ h => ?_)
    · cases h
      refine V.pick [0, 1, 2, 3, 4] rfl ?_
      exact k
    · refine V_iload dX3_gather_21 (xm 4 rfl) ?_
      refine V_ineg dX3_gather_23 ?_
      refine V_iload dX3_gather_24 (xm 5 rfl) ?_
      refine V_isub dX3_gather_26 ?_
      refine V_istore (ls' := [(6, vI ((-v4) - v5)), (0, vR (some 50)), (1, vR (some 1)), (2, vI v2), (3, vR (some 51)), (4, vI v4), (5, vI v5)]) dX3_gather_27 (by decide) rfl ?_
      refine xbE h (fun M10 h11 h => ?_)
      refine V.pick [1, 2, 3, 4, 5, 6, 0] rfl ?_
      refine fX3_gather_L29_ci (hS.le (by decide)) h11 ?_
      refine V_iinc (ls' := [(5, vI (v5 + 1)), (0, vR (some 50)), (1, vR (some 1)), (2, vI v2), (3, vR (some 51)), (4, vI v4)]) dX3_gather_134 (xm 5 rfl) (by decide) rfl ?_
      refine V_goto (tgt := 15) dX3_gather_137 (by decide) ?_
      refine V.pick [1, 2, 3, 4, 5, 0] rfl ?_
      exact ih M10 v2 v4 (v5 + 1) h k
theorem fX3_gather_L15_ci {S : xS} {kp : Option Nat} (hS : xSk kp 52 S) {Q : Option xV → xS → xM → Prop} {n : Nat} {M : xM} {v2 : Int} {v4 : Int} {v5 : Int} {Mz : xM} (hl : fX3_gather_L15 n M v2 v4 v5 = some Mz) (k : V Y_X3_gather 4 0 0 140 [(0, vR (some 50)), (1, vR (some 1)), (2, vI v2), (3, vR (some 51)), (4, vI v4)] [] S Mz Q) : V Y_X3_gather 4 0 0 15 [(0, vR (some 50)), (1, vR (some 1)), (2, vI v2), (3, vR (some 51)), (4, vI v4), (5, vI v5)] [] S M Q := fX3_gather_L15_c hS _ _ _ _ _ hl k
def fX3_gather_L3 (n : Nat) (M : xM) (v2 : Int) (v4 : Int) : Option (xM) := match n with
  | 0 => none
  | n + 1 => (if wr v4 < wr (M 50 1) then (xb (fX3_gather_L15 xfuel M v2 v4 0) fun M12 => fX3_gather_L3 n M12 v2 (v4 + 1)) else some M)
set_option maxRecDepth 20000 in
set_option maxHeartbeats 1000000 in
theorem fX3_gather_L3_c {S : xS} {kp : Option Nat} (hS : xSk kp 52 S) {Q : Option xV → xS → xM → Prop} :
    ∀ (n : Nat) (M : xM) (v2 : Int) (v4 : Int) {Mz : xM}, fX3_gather_L3 n M v2 v4 = some Mz → V Y_X3_gather 4 0 0 146 [] [] S Mz Q → V Y_X3_gather 4 0 0 3 [(0, vR (some 50)), (1, vR (some 1)), (2, vI v2), (3, vR (some 51)), (4, vI v4)] [] S M Q := by
  intro n
  induction n with
  | zero =>
    intro M v2 v4 Mz h k
    cases h
  | succ n ih =>
    intro M v2 v4 Mz h k
    rw [fX3_gather_L3] at h
    refine V_iload dX3_gather_3 (xm 4 rfl) ?_
    refine V_aload_n dX3_gather_5 rfl (xm 0 rfl) ?_
    refine V_getI (kI := 1) dX3_gather_6 fl_X3_39 (sk_50 hS (by decide)) rfl rfl ?_
    refine V_icmp_ge (tgt := 146) dX3_gather_9 (by decide) h (fun _ h => ?_) (fun _ h => ?_)
    · refine V_iconst dX3_gather_12 ?_
      refine V_istore (ls' := [(5, vI 0), (0, vR (some 50)), (1, vR (some 1)), (2, vI v2), (3, vR (some 51)), (4, vI v4)]) dX3_gather_13 (by decide) rfl ?_
      refine xbE h (fun M12 h13 h => ?_)
      refine V.pick [1, 2, 3, 4, 5, 0] rfl ?_
      refine fX3_gather_L15_ci (hS.le (by decide)) h13 ?_
      refine V_iinc (ls' := [(4, vI (v4 + 1)), (0, vR (some 50)), (1, vR (some 1)), (2, vI v2), (3, vR (some 51))]) dX3_gather_140 (xm 4 rfl) (by decide) rfl ?_
      refine V_goto (tgt := 3) dX3_gather_143 (by decide) ?_
      refine V.pick [1, 2, 3, 4, 0] rfl ?_
      exact ih M12 v2 (v4 + 1) h k
    · cases h
      refine V.pick [] rfl ?_
      exact k
theorem fX3_gather_L3_ci {S : xS} {kp : Option Nat} (hS : xSk kp 52 S) {Q : Option xV → xS → xM → Prop} {n : Nat} {M : xM} {v2 : Int} {v4 : Int} {Mz : xM} (hl : fX3_gather_L3 n M v2 v4 = some Mz) (k : V Y_X3_gather 4 0 0 146 [] [] S Mz Q) : V Y_X3_gather 4 0 0 3 [(0, vR (some 50)), (1, vR (some 1)), (2, vI v2), (3, vR (some 51)), (4, vI v4)] [] S M Q := fX3_gather_L3_c hS _ _ _ _ hl k
def fX3_gather (M : xM) (v2 : Int) : Option xM := xb (fX3_gather_L3 xfuel M v2 0) fun M14 => some M14
set_option maxRecDepth 20000 in
set_option maxHeartbeats 1000000 in
theorem fX3_gather_c {S : xS} {kp : Option Nat} (hS : xSk kp 52 S) {M : xM} {v2 : Int} {E : xM} (h : fX3_gather M v2 = some E) :
    V Y_X3_gather 4 0 0 0 (xarg 0 [vR (some 50), vR (some 1), vI v2, vR (some 51)]) [] S M (xqR S E none) := by
  unfold fX3_gather at h
  show V Y_X3_gather 4 0 0 0 [(0, vR (some 50)), (1, vR (some 1)), (2, vI v2), (3, vR (some 51))] [] S M _
  refine V_iconst dX3_gather_0 ?_
  refine V_istore (ls' := [(4, vI 0), (0, vR (some 50)), (1, vR (some 1)), (2, vI v2), (3, vR (some 51))]) dX3_gather_1 (by decide) rfl ?_
  refine xbE h (fun M14 h15 h => ?_)
  refine V.pick [1, 2, 3, 4, 0] rfl ?_
  refine fX3_gather_L3_ci (hS.le (by decide)) h15 ?_
  exact V_ret dX3_gather_146 rfl (q_v h)
def fX3_aheadOf (M : xM) (v1 : Int) (v2 : Int) : Int := ((v1 * ((2 * (M 50 1)) + 1)) + (M 50 1)) + v2
set_option maxRecDepth 20000 in
set_option maxHeartbeats 1000000 in
theorem fX3_aheadOf_c {S : xS} {kp : Option Nat} (hS : xSk kp 51 S) {M : xM} {v1 : Int} {v2 : Int} {E : Int} (h : fX3_aheadOf M v1 v2 = E) :
    V Y_X3_aheadOf 0 0 0 0 (xarg 0 [vR (some 50), vI v1, vI v2]) [] S M (xqR S M (some (vI E))) := by
  unfold fX3_aheadOf at h
  show V Y_X3_aheadOf 0 0 0 0 [(0, vR (some 50)), (1, vI v1), (2, vI v2)] [] S M _
  refine V_iload_n dX3_aheadOf_0 rfl (xm 1 rfl) ?_
  refine V_iconst dX3_aheadOf_1 ?_
  refine V_aload_n dX3_aheadOf_2 rfl (xm 0 rfl) ?_
  refine V_getI (kI := 1) dX3_aheadOf_3 fl_X3_39 (sk_50 hS (by decide)) rfl rfl ?_
  refine V_imul dX3_aheadOf_6 ?_
  refine V_iconst dX3_aheadOf_7 ?_
  refine V_iadd dX3_aheadOf_8 ?_
  refine V_imul dX3_aheadOf_9 ?_
  refine V_aload_n dX3_aheadOf_10 rfl (xm 0 rfl) ?_
  refine V_getI (kI := 1) dX3_aheadOf_11 fl_X3_39 (sk_50 hS (by decide)) rfl rfl ?_
  refine V_iadd dX3_aheadOf_14 ?_
  refine V_iload_n dX3_aheadOf_15 rfl (xm 2 rfl) ?_
  refine V_iadd dX3_aheadOf_16 ?_
  exact V_ireti dX3_aheadOf_17 rfl (q_tI h)
def fX3_reckon_L6 (n : Nat) (M : xM) (v1 : Int) (v2 : Int) : Option (xM) := match n with
  | 0 => none
  | n + 1 => (if wr (M 50 1) < wr v2 then some M else (xwt M 63 1891 (fX3_aheadOf M (M 50 1) v2) 0 fun M1 => fX3_reckon_L6 n M1 v1 (v2 + 1)))
set_option maxRecDepth 20000 in
set_option maxHeartbeats 1000000 in
theorem fX3_reckon_L6_c {S : xS} {kp : Option Nat} (hS : xSk kp 64 S) {Q : Option xV → xS → xM → Prop} :
    ∀ (n : Nat) (M : xM) (v1 : Int) (v2 : Int) {Mz : xM}, fX3_reckon_L6 n M v1 v2 = some Mz → V Y_X3_reckon 2 0 0 35 [(0, vR (some 50)), (1, vI v1)] [] S Mz Q → V Y_X3_reckon 2 0 0 6 [(0, vR (some 50)), (1, vI v1), (2, vI v2)] [] S M Q := by
  intro n
  induction n with
  | zero =>
    intro M v1 v2 Mz h k
    cases h
  | succ n ih =>
    intro M v1 v2 Mz h k
    rw [fX3_reckon_L6] at h
    refine V_iload_n dX3_reckon_6 rfl (xm 2 rfl) ?_
    refine V_aload_n dX3_reckon_7 rfl (xm 0 rfl) ?_
    refine V_getI (kI := 1) dX3_reckon_8 fl_X3_39 (sk_50 hS (by decide)) rfl rfl ?_
    refine V_icmp_gt (tgt := 35) dX3_reckon_11 (by decide) h (fun _ h => ?_) (fun _ h => ?_)
    · cases h
      refine V.pick [0, 1] rfl ?_
      exact k
    · refine V_aload_n dX3_reckon_14 rfl (xm 0 rfl) ?_
      refine V_getR dX3_reckon_15 fl_X3_20 (sk_50 hS (by decide)) rfl ?_
      refine V_aload_n dX3_reckon_18 rfl (xm 0 rfl) ?_
      refine V_aload_n dX3_reckon_19 rfl (xm 0 rfl) ?_
      refine V_getI (kI := 1) dX3_reckon_20 fl_X3_39 (sk_50 hS (by decide)) rfl rfl ?_
      refine V_iload_n dX3_reckon_23 rfl (xm 2 rfl) ?_
      refine T_callVI dX3_reckon_24 ok_X3_aheadOf (by exact ⟨by decide, rfl⟩) lk_X3_81.1 lk_X3_81.2 (sk_50 hS (by decide)) (hV := ((fX3_aheadOf_c (hS.le (by decide)) rfl).mono (by decide) (Nat.le_refl _) (Nat.le_refl _))) rfl (Nat.le_of_ble_eq_true rfl) rfl (Nat.le_of_ble_eq_true rfl) ?_
      refine V_iconst dX3_reckon_27 ?_
      refine T_iast dX3_reckon_28 (sk_63 hS (by decide)) rfl h (fun M1 h => ?_)
      refine V_iinc (ls' := [(2, vI (v2 + 1)), (0, vR (some 50)), (1, vI v1)]) dX3_reckon_29 (xm 2 rfl) (by decide) rfl ?_
      refine V_goto (tgt := 6) dX3_reckon_32 (by decide) ?_
      refine V.pick [1, 2, 0] rfl ?_
      exact ih M1 v1 (v2 + 1) h k
theorem fX3_reckon_L6_ci {S : xS} {kp : Option Nat} (hS : xSk kp 64 S) {Q : Option xV → xS → xM → Prop} {n : Nat} {M : xM} {v1 : Int} {v2 : Int} {Mz : xM} (hl : fX3_reckon_L6 n M v1 v2 = some Mz) (k : V Y_X3_reckon 2 0 0 35 [(0, vR (some 50)), (1, vI v1)] [] S Mz Q) : V Y_X3_reckon 2 0 0 6 [(0, vR (some 50)), (1, vI v1), (2, vI v2)] [] S M Q := fX3_reckon_L6_c hS _ _ _ _ hl k
def fX3_withTurn (M : xM) (v1 : Int) (v2 : Int) (v3 : Int) : Option Int := xrd M 51 3660 (fX3_cellOf M v1 (v2 + v3) v3) fun r1 => xrd M 63 1891 (fX3_aheadOf M (v1 + 1) (v2 + v3)) fun r2 => some (r1 + r2)
set_option maxRecDepth 20000 in
set_option maxHeartbeats 1000000 in
theorem fX3_withTurn_c {S : xS} {kp : Option Nat} (hS : xSk kp 64 S) {M : xM} {v1 : Int} {v2 : Int} {v3 : Int} {E : Int} (h : fX3_withTurn M v1 v2 v3 = some E) :
    V Y_X3_withTurn 1 0 0 0 (xarg 0 [vR (some 50), vI v1, vI v2, vI v3]) [] S M (xqR S M (some (vI E))) := by
  unfold fX3_withTurn at h
  show V Y_X3_withTurn 1 0 0 0 [(0, vR (some 50)), (1, vI v1), (2, vI v2), (3, vI v3)] [] S M _
  refine V_aload_n dX3_withTurn_0 rfl (xm 0 rfl) ?_
  refine V_getR dX3_withTurn_1 fl_X3_11 (sk_50 hS (by decide)) rfl ?_
  refine V_aload_n dX3_withTurn_4 rfl (xm 0 rfl) ?_
  refine V_iload_n dX3_withTurn_5 rfl (xm 1 rfl) ?_
  refine V_iload_n dX3_withTurn_6 rfl (xm 2 rfl) ?_
  refine V_iload_n dX3_withTurn_7 rfl (xm 3 rfl) ?_
  refine V_iadd dX3_withTurn_8 ?_
  refine V_iload_n dX3_withTurn_9 rfl (xm 3 rfl) ?_
  refine T_callVI dX3_withTurn_10 ok_X3_cellOf (by exact ⟨by decide, rfl⟩) lk_X3_73.1 lk_X3_73.2 (sk_50 hS (by decide)) (hV := ((fX3_cellOf_c (hS.le (by decide)) rfl).mono (by decide) (Nat.le_refl _) (Nat.le_refl _))) rfl (Nat.le_of_ble_eq_true rfl) rfl (Nat.le_of_ble_eq_true rfl) ?_
  refine T_iald dX3_withTurn_13 (sk_51 hS (by decide)) rfl h (fun r1 h => ?_)
  refine V_aload_n dX3_withTurn_14 rfl (xm 0 rfl) ?_
  refine V_getR dX3_withTurn_15 fl_X3_20 (sk_50 hS (by decide)) rfl ?_
  refine V_aload_n dX3_withTurn_18 rfl (xm 0 rfl) ?_
  refine V_iload_n dX3_withTurn_19 rfl (xm 1 rfl) ?_
  refine V_iconst dX3_withTurn_20 ?_
  refine V_iadd dX3_withTurn_21 ?_
  refine V_iload_n dX3_withTurn_22 rfl (xm 2 rfl) ?_
  refine V_iload_n dX3_withTurn_23 rfl (xm 3 rfl) ?_
  refine V_iadd dX3_withTurn_24 ?_
  refine T_callVI dX3_withTurn_25 ok_X3_aheadOf (by exact ⟨by decide, rfl⟩) lk_X3_81.1 lk_X3_81.2 (sk_50 hS (by decide)) (hV := ((fX3_aheadOf_c (hS.le (by decide)) rfl).mono (by decide) (Nat.le_refl _) (Nat.le_refl _))) rfl (Nat.le_of_ble_eq_true rfl) rfl (Nat.le_of_ble_eq_true rfl) ?_
  refine T_iald dX3_withTurn_28 (sk_63 hS (by decide)) rfl h (fun r2 h => ?_)
  refine V_iadd dX3_withTurn_29 ?_
  exact V_ireti dX3_withTurn_30 rfl (q_pI h)
