def fX8_firstTurn (M : xM) (v1 : Int) (v2 : Int) (v3 : Int) : Option Int := xs0 (fX8_firstTurn_L3 xfuel M v1 v2 v3 0) (some 0) (fun r => some r)
set_option maxRecDepth 20000 in
set_option maxHeartbeats 1000000 in
theorem fX8_firstTurn_c {S : xS} {kp : Option Nat} (hS : xSk kp 79 S) {M : xM} {v1 : Int} {v2 : Int} {v3 : Int} {E : Int} (h : fX8_firstTurn M v1 v2 v3 = some E) :
    V Y_X8_firstTurn 2 0 0 0 (xarg 0 [vR (some 75), vI v1, vI v2, vI v3]) [] S M (xqR S M (some (vI E))) := by
  unfold fX8_firstTurn at h
  show V Y_X8_firstTurn 2 0 0 0 [(0, vR (some 75)), (1, vI v1), (2, vI v2), (3, vI v3)] [] S M _
  refine V_iconst dX8_firstTurn_0 ?_
  refine V_istore (ls' := [(4, vI 0), (0, vR (some 75)), (1, vI v1), (2, vI v2), (3, vI v3)]) dX8_firstTurn_1 (by decide) rfl ?_
  refine xs0E h (fun  h7 h => ?_) (fun r h7 h => ?_)
  · refine V.pick [1, 2, 3, 4, 0] rfl ?_
    refine fX8_firstTurn_L3_ci (hS.le (by decide)) h7 ?_
    refine V_iconst dX8_firstTurn_47 ?_
    exact V_ireti dX8_firstTurn_48 rfl (q_pI h)
  · refine V.pick [1, 2, 3, 4, 0] rfl ?_
    refine fX8_firstTurn_L3_cr (hS.le (by decide)) h7 ?_
    exact q_pI h
def fX8_findFirst_L49 (n : Nat) (M : xM) (v1 : Int) (v2 : Int) (v3 : Int) : Option (xM) := match n with
  | 0 => none
  | n + 1 => (if wr v3 < wr (M 75 2) then (xb (fX8_firstTurn M v3 v2 v1) fun r7 => xwt M 76 40 v3 r7 fun M8 => xrd M8 76 40 v3 fun r9 => xb (fX11_wrap (v2 + r9) v1) fun r11 => fX8_findFirst_L49 n M8 v1 r11 (v3 + 1)) else some M)
set_option maxRecDepth 20000 in
set_option maxHeartbeats 1000000 in
theorem fX8_findFirst_L49_c {S : xS} {kp : Option Nat} (hS : xSk kp 79 S) {Q : Option xV → xS → xM → Prop} :
    ∀ (n : Nat) (M : xM) (v1 : Int) (v2 : Int) (v3 : Int) {Mz : xM}, fX8_findFirst_L49 n M v1 v2 v3 = some Mz → V Y_X8_findFirst 3 0 0 89 [] [] S Mz Q → V Y_X8_findFirst 3 0 0 49 [(0, vR (some 75)), (1, vI v1), (2, vI v2), (3, vI v3)] [] S M Q := by
  intro n
  induction n with
  | zero =>
    intro M v1 v2 v3 Mz h k
    cases h
  | succ n ih =>
    intro M v1 v2 v3 Mz h k
    rw [fX8_findFirst_L49] at h
    refine V_iload_n dX8_findFirst_49 rfl (xm 3 rfl) ?_
    refine V_aload_n dX8_findFirst_50 rfl (xm 0 rfl) ?_
    refine V_getI (kI := 2) dX8_findFirst_51 fl_X8_23 (sk_75 hS (by decide)) rfl rfl ?_
    refine V_icmp_ge (tgt := 89) dX8_findFirst_54 (by decide) h (fun _ h => ?_) (fun _ h => ?_)
    · refine V_aload_n dX8_findFirst_57 rfl (xm 0 rfl) ?_
      refine V_getR dX8_findFirst_58 fl_X8_9 (sk_75 hS (by decide)) rfl ?_
      refine V_iload_n dX8_findFirst_61 rfl (xm 3 rfl) ?_
      refine V_aload_n dX8_findFirst_62 rfl (xm 0 rfl) ?_
      refine V_iload_n dX8_findFirst_63 rfl (xm 3 rfl) ?_
      refine V_iload_n dX8_findFirst_64 rfl (xm 2 rfl) ?_
      refine V_iload_n dX8_findFirst_65 rfl (xm 1 rfl) ?_
      refine xbE h (fun r7 h6 h => ?_)
      refine T_callVI dX8_findFirst_66 ok_X8_firstTurn (by exact ⟨by decide, rfl⟩) lk_X8_87.1 lk_X8_87.2 (sk_75 hS (by decide)) (hV := ((fX8_firstTurn_c (hS.le (by decide)) h6).mono (by decide) (Nat.le_refl _) (Nat.le_refl _))) rfl (Nat.le_of_ble_eq_true rfl) rfl (Nat.le_of_ble_eq_true rfl) ?_
      refine T_iast dX8_findFirst_69 (sk_76 hS (by decide)) rfl h (fun M8 h => ?_)
      refine V_iload_n dX8_findFirst_70 rfl (xm 2 rfl) ?_
      refine V_aload_n dX8_findFirst_71 rfl (xm 0 rfl) ?_
      refine V_getR dX8_findFirst_72 fl_X8_9 (sk_75 hS (by decide)) rfl ?_
      refine V_iload_n dX8_findFirst_75 rfl (xm 3 rfl) ?_
      refine T_iald dX8_findFirst_76 (sk_76 hS (by decide)) rfl h (fun r9 h => ?_)
      refine V_iadd dX8_findFirst_77 ?_
      refine V_iload_n dX8_findFirst_78 rfl (xm 1 rfl) ?_
      refine xbE h (fun r11 h10 h => ?_)
      refine T_callSNI (host := "TurnedIsland") dX8_findFirst_79 ok_X11_wrap lk_X8_77.1 lk_X8_77.2 (hV := ((fX11_wrap_c (hS.le (by decide)) h10).mono (by decide) (Nat.le_refl _) (Nat.le_refl _))) rfl (Nat.le_of_ble_eq_true rfl) rfl (Nat.le_of_ble_eq_true rfl) ?_
      refine V_istore_n (ls' := [(2, vI r11), (0, vR (some 75)), (1, vI v1), (3, vI v3)]) dX8_findFirst_82 rfl (by decide) rfl ?_
      refine V_iinc (ls' := [(3, vI (v3 + 1)), (2, vI r11), (0, vR (some 75)), (1, vI v1)]) dX8_findFirst_83 (xm 3 rfl) (by decide) rfl ?_
      refine V_goto (tgt := 49) dX8_findFirst_86 (by decide) ?_
      refine V.pick [2, 3, 1, 0] rfl ?_
      exact ih M8 v1 r11 (v3 + 1) h k
    · cases h
      refine V.pick [] rfl ?_
      exact k
theorem fX8_findFirst_L49_ci {S : xS} {kp : Option Nat} (hS : xSk kp 79 S) {Q : Option xV → xS → xM → Prop} {n : Nat} {M : xM} {v1 : Int} {v2 : Int} {v3 : Int} {Mz : xM} (hl : fX8_findFirst_L49 n M v1 v2 v3 = some Mz) (k : V Y_X8_findFirst 3 0 0 89 [] [] S Mz Q) : V Y_X8_findFirst 3 0 0 49 [(0, vR (some 75)), (1, vI v1), (2, vI v2), (3, vI v3)] [] S M Q := fX8_findFirst_L49_c hS _ _ _ _ _ hl k
def fX8_findFirst (M : xM) (v1 : Int) : Option xM := xlet (xup M 75 0 0) fun M1 => xb (fX8_findFirst_L5 xfuel M1 v1) fun M4 => xb (fX8_findFirst_L49 xfuel M4 v1 (M4 75 0) 0) fun M12 => some M12
set_option maxRecDepth 20000 in
set_option maxHeartbeats 1000000 in
theorem fX8_findFirst_c {S : xS} {kp : Option Nat} (hS : xSk kp 79 S) {M : xM} {v1 : Int} {E : xM} (h : fX8_findFirst M v1 = some E) :
    V Y_X8_findFirst 3 0 0 0 (xarg 0 [vR (some 75), vI v1]) [] S M (xqR S E none) := by
  unfold fX8_findFirst at h
  show V Y_X8_findFirst 3 0 0 0 [(0, vR (some 75)), (1, vI v1)] [] S M _
  refine V_aload_n dX8_findFirst_0 rfl (xm 0 rfl) ?_
  refine V_iconst dX8_findFirst_1 ?_
  refine T_putI (kI := 0) dX8_findFirst_2 fp_X8_84 (sk_75 hS (by decide)) rfl rfl h (fun M1 h => ?_)
  refine xbE h (fun M4 h5 h => ?_)
  refine V.pick [0, 1] rfl ?_
  refine fX8_findFirst_L5_ci (hS.le (by decide)) h5 ?_
  refine V_aload_n dX8_findFirst_42 rfl (xm 0 rfl) ?_
  refine V_getI (kI := 0) dX8_findFirst_43 fl_X8_84 (sk_75 hS (by decide)) rfl rfl ?_
  refine V_istore_n (ls' := [(2, vI (M4 75 0)), (0, vR (some 75)), (1, vI v1)]) dX8_findFirst_46 rfl (by decide) rfl ?_
  refine V_iconst dX8_findFirst_47 ?_
  refine V_istore_n (ls' := [(3, vI 0), (2, vI (M4 75 0)), (0, vR (some 75)), (1, vI v1)]) dX8_findFirst_48 rfl (by decide) rfl ?_
  refine xbE h (fun M12 h13 h => ?_)
  refine V.pick [2, 3, 1, 0] rfl ?_
  refine fX8_findFirst_L49_ci (hS.le (by decide)) h13 ?_
  exact V_ret dX8_findFirst_89 rfl (q_v h)
def fX11_back (M : xM) (v1 : Int) (v2 : Int) (v3 : Int) : Option (Int × xM) := (if (fX11_isSpan v1 v2) = true then (if wr (v2 - v1) < wr 40 then (xj (fun (_ : Unit) => xb2 (fX8_countRows M v1 v2) fun r3 M4 => (if wr v3 = 0 then some (r3, M4) else (if wr (xlcmp r3 0) = 0 then some ((-1), M4) else (xb (fX8_findFirst M4 (M4 1 0)) fun M6 => (if wr v3 = wr 1 then some (wr (M6 75 0), M6) else (xrd M6 76 40 (v3 - 10) fun r7 => some (wr (r7 + 2), M6))))))) fun j1 => (if wr v3 = 0 then j1 () else (if wr v3 = wr 1 then j1 () else (if (fX11_isTurnOf v3 ((v2 - v1) + 1)) = true then j1 () else some ((-1), M))))) else some ((-1), M)) else some ((-1), M))
set_option maxRecDepth 20000 in
set_option maxHeartbeats 1000000 in
theorem fX11_back_c {S : xS} {kp : Option Nat} (hS : xSk kp 94 S) {M : xM} {v1 : Int} {v2 : Int} {v3 : Int} {E : Int × xM} (h : fX11_back M v1 v2 v3 = some E) :
    V Y_X11_back 5 0 0 0 (xarg 0 [vR (some 0), vI v1, vI v2, vI v3]) [] S M (xqR S E.2 (some (vL E.1))) := by
  unfold fX11_back at h
  show V Y_X11_back 5 0 0 0 [(0, vR (some 0)), (1, vI v1), (2, vI v2), (3, vI v3)] [] S M _
  refine V_iload_n dX11_back_0 rfl (xm 1 rfl) ?_
  refine V_iload_n dX11_back_1 rfl (xm 2 rfl) ?_
  refine T_callSI (host := "") dX11_back_2 ok_X11_isSpan lk_X11_156.1 lk_X11_156.2 (hV := ((fX11_isSpan_c (hS.le (by decide)) rfl).mono (by decide) (Nat.le_refl _) (Nat.le_refl _))) rfl (Nat.le_of_ble_eq_true rfl) rfl (Nat.le_of_ble_eq_true rfl) ?_
  refine V_if_eqB (tgt := 16) dX11_back_5 (by decide) h (fun _ h => ?_) (fun _ h => ?_)
  · refine V_iload_n dX11_back_8 rfl (xm 2 rfl) ?_
    refine V_iload_n dX11_back_9 rfl (xm 1 rfl) ?_
    refine V_isub dX11_back_10 ?_
    refine V_bipush dX11_back_11 (by decide) ?_
    refine V_icmp_lt (tgt := 20) dX11_back_13 (by decide) h (fun _ h => ?_) (fun _ h => ?_)
    · refine V_iload_n dX11_back_20 rfl (xm 3 rfl) ?_
      refine xjE h (fun j1 hj1 h => ?_)
      have kj1 : ∀ (u : Unit), j1 u = some E → V Y_X11_back 5 0 0 45 [(0, vR (some 0)), (1, vI v1), (2, vI v2), (3, vI v3)] [] S M (xqR S E.2 (some (vL E.1))) := by
        intro u h
        rw [hj1] at h
        refine V_aload_n dX11_back_45 rfl (xm 0 rfl) ?_
        refine V_getR dX11_back_46 fl_X11_46 (sk_0 hS (by decide)) rfl ?_
        refine V_aload_n dX11_back_49 rfl (xm 0 rfl) ?_
        refine V_getR dX11_back_50 fl_X11_12 (sk_0 hS (by decide)) rfl ?_
        refine V_iload_n dX11_back_53 rfl (xm 1 rfl) ?_
        refine V_iload_n dX11_back_54 rfl (xm 2 rfl) ?_
        refine xb2E h (fun r3 M4 h2 h => ?_)
        refine T_callVL dX11_back_55 ok_X8_countRows (by exact ⟨by decide, rfl⟩) lk_X11_311.1 lk_X11_311.2 (sk_75 hS (by decide)) (hV := ((fX8_countRows_c (hS.le (by decide)) h2).mono (by decide) (Nat.le_refl _) (Nat.le_refl _))) rfl (Nat.le_of_ble_eq_true rfl) rfl (Nat.le_of_ble_eq_true rfl) ?_
        refine V_lstore (ls' := [(4, vL r3), (0, vR (some 0)), (1, vI v1), (2, vI v2), (3, vI v3)]) dX11_back_58 (by decide) rfl ?_
        refine V_iload_n dX11_back_60 rfl (xm 4 rfl) ?_
        refine V_if_ne (tgt := 67) dX11_back_61 (by decide) h (fun _ h => ?_) (fun _ h => ?_)
        · refine V_lload dX11_back_64 (xm 0 rfl) ?_
          exact V_lret dX11_back_66 rfl (q_wL h)
        · refine V_lload dX11_back_67 (xm 0 rfl) ?_
          refine V_lconst (x := 0) dX11_back_69 (by decide) ?_
          refine V_lcmp dX11_back_70 ?_
          refine V_if_ne (tgt := 78) dX11_back_71 (by decide) h (fun _ h => ?_) (fun _ h => ?_)
          · refine V_ldc2 (n := (-1)) dX11_back_74 (xsg5 103 rfl rfl : Cond.constantLong RX11 309 (-1) ∈ xT) (by decide) ?_
            exact V_lret dX11_back_77 rfl (q_wL h)
          · refine V_aload_n dX11_back_78 rfl (xm 1 rfl) ?_
            refine V_getR dX11_back_79 fl_X11_46 (sk_0 hS (by decide)) rfl ?_
            refine V_aload_n dX11_back_82 rfl (xm 1 rfl) ?_
            refine V_getR dX11_back_83 fl_X11_12 (sk_0 hS (by decide)) rfl ?_
            refine V_getI (kI := 0) dX11_back_86 fl_X11_228 (sk_1 hS (by decide)) rfl rfl ?_
            refine xbE h (fun M6 h5 h => ?_)
            refine T_callVv dX11_back_89 ok_X8_findFirst (by exact ⟨by decide, rfl⟩) lk_X11_315.1 lk_X11_315.2 (sk_75 hS (by decide)) (hV := ((fX8_findFirst_c (hS.le (by decide)) h5).mono (by decide) (Nat.le_refl _) (Nat.le_refl _))) rfl (Nat.le_of_ble_eq_true rfl) rfl (Nat.le_of_ble_eq_true rfl) ?_
            refine V_iload_n dX11_back_92 rfl (xm 4 rfl) ?_
            refine V_iconst dX11_back_93 ?_
            refine V_icmp_ne (tgt := 108) dX11_back_94 (by decide) h (fun _ h => ?_) (fun _ h => ?_)
            · refine V_aload_n dX11_back_97 rfl (xm 1 rfl) ?_
              refine V_getR dX11_back_98 fl_X11_46 (sk_0 hS (by decide)) rfl ?_
              refine V_getI (kI := 0) dX11_back_101 fl_X11_318 (sk_75 hS (by decide)) rfl rfl ?_
              refine V_i2l dX11_back_104 ?_
              refine V_goto (tgt := 123) dX11_back_105 (by decide) ?_
              exact V_lret dX11_back_123 rfl (q_wL h)
            · refine V_aload_n dX11_back_108 rfl (xm 1 rfl) ?_
              refine V_getR dX11_back_109 fl_X11_46 (sk_0 hS (by decide)) rfl ?_
              refine V_getR dX11_back_112 fl_X11_321 (sk_75 hS (by decide)) rfl ?_
              refine V_iload_n dX11_back_115 rfl (xm 4 rfl) ?_
              refine V_bipush dX11_back_116 (by decide) ?_
              refine V_isub dX11_back_118 ?_
              refine T_iald dX11_back_119 (sk_76 hS (by decide)) rfl h (fun r7 h => ?_)
              refine V_iconst dX11_back_120 ?_
              refine V_iadd dX11_back_121 ?_
              refine V_i2l dX11_back_122 ?_
              exact V_lret dX11_back_123 rfl (q_wL h)
      refine V_if_eq (tgt := 45) dX11_back_21 (by decide) h (fun _ h => ?_) (fun _ h => ?_)
      · refine V.pick [0, 1, 2, 3] rfl ?_
        exact kj1 () h
      · refine V_iload_n dX11_back_24 rfl (xm 3 rfl) ?_
        refine V_iconst dX11_back_25 ?_
        refine V_icmp_eq (tgt := 45) dX11_back_26 (by decide) h (fun _ h => ?_) (fun _ h => ?_)
        · refine V.pick [0, 1, 2, 3] rfl ?_
          exact kj1 () h
        · refine V_iload_n dX11_back_29 rfl (xm 3 rfl) ?_
          refine V_iload_n dX11_back_30 rfl (xm 2 rfl) ?_
          refine V_iload_n dX11_back_31 rfl (xm 1 rfl) ?_
          refine V_isub dX11_back_32 ?_
          refine V_iconst dX11_back_33 ?_
          refine V_iadd dX11_back_34 ?_
          refine T_callSI (host := "") dX11_back_35 ok_X11_isTurnOf lk_X11_256.1 lk_X11_256.2 (hV := ((fX11_isTurnOf_c (hS.le (by decide)) rfl).mono (by decide) (Nat.le_refl _) (Nat.le_refl _))) rfl (Nat.le_of_ble_eq_true rfl) rfl (Nat.le_of_ble_eq_true rfl) ?_
          refine V_if_neB (tgt := 45) dX11_back_38 (by decide) h (fun _ h => ?_) (fun _ h => ?_)
          · refine V.pick [0, 1, 2, 3] rfl ?_
            exact kj1 () h
          · refine V_ldc2 (n := (-1)) dX11_back_41 (xsg5 103 rfl rfl : Cond.constantLong RX11 309 (-1) ∈ xT) (by decide) ?_
            exact V_lret dX11_back_44 rfl (q_wL h)
    · refine V_ldc2 (n := (-1)) dX11_back_16 (xsg5 103 rfl rfl : Cond.constantLong RX11 309 (-1) ∈ xT) (by decide) ?_
      exact V_lret dX11_back_19 rfl (q_wL h)
  · refine V_ldc2 (n := (-1)) dX11_back_16 (xsg5 103 rfl rfl : Cond.constantLong RX11 309 (-1) ∈ xT) (by decide) ?_
    exact V_lret dX11_back_19 rfl (q_wL h)
def fX0_giveBack (M : xM)  : Option xM := xlet (xup M 79 1 (xrem (((M 79 1) + 10) - 1) 10)) fun M1 => xlet (xup M1 79 0 ((M1 79 0) - 1)) fun M2 => xlet (xup M2 1 2 ((M2 1 2) - 1)) fun M3 => xrd M3 80 10 (M3 79 1) fun r4 => xlet (xup M3 1 1 r4) fun M5 => xrd M5 81 10 (M5 79 1) fun r6 => xlet (xup M5 1 3 r6) fun M7 => xrd M7 82 10 (M7 79 1) fun r8 => xlet (xup M7 1 5 r8) fun M9 => xix 10 (M9 79 1) (xcp M9 (84 + (wr (M9 79 1)).toNat) 10 0 9 10 0 10 fun M11 => some M11)
set_option maxRecDepth 20000 in
set_option maxHeartbeats 1000000 in
theorem fX0_giveBack_c {S : xS} {kp : Option Nat} (hS : xSk kp 95 S) {M : xM} {E : xM} (h : fX0_giveBack M = some E) :
    V Y_X0_giveBack 1 0 0 0 (xarg 0 [vR (some 79), vR (some 1)]) [] S M (xqR S E none) := by
  unfold fX0_giveBack at h
  show V Y_X0_giveBack 1 0 0 0 [(0, vR (some 79)), (1, vR (some 1))] [] S M _
  refine V_aload_n dX0_giveBack_0 rfl (xm 0 rfl) ?_
  refine V_aload_n dX0_giveBack_1 rfl (xm 0 rfl) ?_
  refine V_getI (kI := 1) dX0_giveBack_2 fl_X0_30 (sk_79 hS (by decide)) rfl rfl ?_
  refine V_bipush dX0_giveBack_5 (by decide) ?_
  refine V_iadd dX0_giveBack_7 ?_
  refine V_iconst dX0_giveBack_8 ?_
  refine V_isub dX0_giveBack_9 ?_
  refine V_bipush dX0_giveBack_10 (by decide) ?_
  refine V_iremK dX0_giveBack_12 (by decide) ?_
  refine T_putI (kI := 1) dX0_giveBack_13 fp_X0_30 (sk_79 hS (by decide)) rfl rfl h (fun M1 h => ?_)
  refine V_aload_n dX0_giveBack_16 rfl (xm 0 rfl) ?_
  refine V_dup dX0_giveBack_17 rfl ?_
  refine V_getI (kI := 0) dX0_giveBack_18 fl_X0_26 (sk_79 hS (by decide)) rfl rfl ?_
  refine V_iconst dX0_giveBack_21 ?_
  refine V_isub dX0_giveBack_22 ?_
  refine T_putI (kI := 0) dX0_giveBack_23 fp_X0_26 (sk_79 hS (by decide)) rfl rfl h (fun M2 h => ?_)
  refine V_aload_n dX0_giveBack_26 rfl (xm 1 rfl) ?_
  refine V_dup dX0_giveBack_27 rfl ?_
  refine V_getI (kI := 2) dX0_giveBack_28 fl_X0_61 (sk_1 hS (by decide)) rfl rfl ?_
  refine V_iconst dX0_giveBack_31 ?_
  refine V_isub dX0_giveBack_32 ?_
  refine T_putI (kI := 2) dX0_giveBack_33 fp_X0_61 (sk_1 hS (by decide)) rfl rfl h (fun M3 h => ?_)
  refine V_aload_n dX0_giveBack_36 rfl (xm 1 rfl) ?_
  refine V_aload_n dX0_giveBack_37 rfl (xm 0 rfl) ?_
  refine V_getR dX0_giveBack_38 fl_X0_11 (sk_79 hS (by decide)) rfl ?_
  refine V_aload_n dX0_giveBack_41 rfl (xm 0 rfl) ?_
  refine V_getI (kI := 1) dX0_giveBack_42 fl_X0_30 (sk_79 hS (by decide)) rfl rfl ?_
  refine T_iald dX0_giveBack_45 (sk_80 hS (by decide)) rfl h (fun r4 h => ?_)
  refine T_putI (kI := 1) dX0_giveBack_46 fp_X0_33 (sk_1 hS (by decide)) rfl rfl h (fun M5 h => ?_)
  refine V_aload_n dX0_giveBack_49 rfl (xm 1 rfl) ?_
  refine V_aload_n dX0_giveBack_50 rfl (xm 0 rfl) ?_
  refine V_getR dX0_giveBack_51 fl_X0_15 (sk_79 hS (by decide)) rfl ?_
  refine V_aload_n dX0_giveBack_54 rfl (xm 0 rfl) ?_
  refine V_getI (kI := 1) dX0_giveBack_55 fl_X0_30 (sk_79 hS (by decide)) rfl rfl ?_
  refine T_iald dX0_giveBack_58 (sk_81 hS (by decide)) rfl h (fun r6 h => ?_)
  refine T_putI (kI := 3) dX0_giveBack_59 fp_X0_37 (sk_1 hS (by decide)) rfl rfl h (fun M7 h => ?_)
  refine V_aload_n dX0_giveBack_62 rfl (xm 1 rfl) ?_
  refine V_aload_n dX0_giveBack_63 rfl (xm 0 rfl) ?_
  refine V_getR dX0_giveBack_64 fl_X0_18 (sk_79 hS (by decide)) rfl ?_
  refine V_aload_n dX0_giveBack_67 rfl (xm 0 rfl) ?_
  refine V_getI (kI := 1) dX0_giveBack_68 fl_X0_30 (sk_79 hS (by decide)) rfl rfl ?_
  refine T_iald dX0_giveBack_71 (sk_82 hS (by decide)) rfl h (fun r8 h => ?_)
  refine T_putI (kI := 5) dX0_giveBack_72 fp_X0_39 (sk_1 hS (by decide)) rfl rfl h (fun M9 h => ?_)
  refine V_aload_n dX0_giveBack_75 rfl (xm 0 rfl) ?_
  refine V_getR dX0_giveBack_76 fl_X0_23 (sk_79 hS (by decide)) rfl ?_
  refine V_aload_n dX0_giveBack_79 rfl (xm 0 rfl) ?_
  refine V_getI (kI := 1) dX0_giveBack_80 fl_X0_30 (sk_79 hS (by decide)) rfl rfl ?_
  obtain ⟨c10, h⟩ := xixE h
  refine V_aald (r := 84 + (wr (M9 79 1)).toNat) dX0_giveBack_83 (sk_83 hS (by decide)) (by decide) c10 (rw_83 c10) ?_
  refine V_iconst dX0_giveBack_84 ?_
  refine V_aload_n dX0_giveBack_85 rfl (xm 1 rfl) ?_
  refine V_getR dX0_giveBack_86 fl_X0_41 (sk_1 hS (by decide)) rfl ?_
  refine V_getR dX0_giveBack_89 fl_X0_45 (sk_5 hS (by decide)) rfl ?_
  refine V_iconst dX0_giveBack_92 ?_
  refine V_bipush dX0_giveBack_93 (by decide) ?_
  refine T_copy dX0_giveBack_95 cp_X0_49 (rs_83 hS (by decide) c10) (sk_9 hS (by decide)) rfl rfl (by decide) (Nat.le_of_ble_eq_true rfl) h (fun M11 h => ?_)
  exact V_ret dX0_giveBack_98 rfl (q_v h)
def fX11_undo (M : xM)  : Option (Bool × xM) := (if wr (M 79 0) = 0 then some (false, M) else (xb (fX0_giveBack M) fun M2 => some (true, M2)))
set_option maxRecDepth 20000 in
set_option maxHeartbeats 1000000 in
theorem fX11_undo_c {S : xS} {kp : Option Nat} (hS : xSk kp 95 S) {M : xM} {E : Bool × xM} (h : fX11_undo M = some E) :
    V Y_X11_undo 2 0 0 0 (xarg 0 [vR (some 0)]) [] S M (xqR S E.2 (some (vI (b2i E.1)))) := by
  unfold fX11_undo at h
  show V Y_X11_undo 2 0 0 0 [(0, vR (some 0))] [] S M _
  refine V_aload_n dX11_undo_0 rfl (xm 0 rfl) ?_
  refine V_getR dX11_undo_1 fl_X11_53 (sk_0 hS (by decide)) rfl ?_
  refine V_getI (kI := 0) dX11_undo_4 fl_X11_322 (sk_79 hS (by decide)) rfl rfl ?_
  refine V_if_ne (tgt := 12) dX11_undo_7 (by decide) h (fun _ h => ?_) (fun _ h => ?_)
  · refine V_iconst dX11_undo_10 ?_
    exact V_iretb (b := false) dX11_undo_11 rfl (by decide) (q_wB h)
  · refine V_aload_n dX11_undo_12 rfl (xm 0 rfl) ?_
    refine V_getR dX11_undo_13 fl_X11_53 (sk_0 hS (by decide)) rfl ?_
    refine V_aload_n dX11_undo_16 rfl (xm 0 rfl) ?_
    refine V_getR dX11_undo_17 fl_X11_12 (sk_0 hS (by decide)) rfl ?_
    refine xbE h (fun M2 h1 h => ?_)
    refine T_callVv dX11_undo_20 ok_X0_giveBack (by exact ⟨by decide, rfl⟩) lk_X11_323.1 lk_X11_323.2 (sk_79 hS (by decide)) (hV := ((fX0_giveBack_c (hS.le (by decide)) h1).mono (by decide) (Nat.le_refl _) (Nat.le_refl _))) rfl (Nat.le_of_ble_eq_true rfl) rfl (Nat.le_of_ble_eq_true rfl) ?_
    refine V_iconst dX11_undo_23 ?_
    exact V_iretb (b := true) dX11_undo_24 rfl (by decide) (q_wB h)
def fX11_look (M : xM) (v1 : Int) : Option Int := (if (fX11_within v1 10 13) = true then xix 4 (v1 - 10) (some (M (28 + 2 * (wr (v1 - 10)).toNat) 0)) else (if (fX11_within v1 20 ((20 + (M 5 0)) - 1)) = true then (xrd M 10 10 (v1 - 20) fun r2 => some r2) else (if wr v1 = 0 then some (M 1 0) else (if wr v1 = 1 then some (M 1 1) else (if wr v1 = 2 then some (M 1 2) else (if wr v1 = 3 then some (M 1 3) else (if wr v1 = 4 then some (M 1 4) else (if wr v1 = 5 then some (M 5 0) else (if wr v1 = 6 then some (M 12 0) else (if wr v1 = 7 then some (M 17 0) else (if wr v1 = 8 then some (M 23 0) else (if wr v1 = 9 then some (M 79 0) else some ((-100000))))))))))))))
set_option maxRecDepth 20000 in
set_option maxHeartbeats 1000000 in
theorem fX11_look_c {S : xS} {kp : Option Nat} (hS : xSk kp 94 S) {M : xM} {v1 : Int} {E : Int} (h : fX11_look M v1 = some E) :
    V Y_X11_look 1 0 0 0 (xarg 0 [vR (some 0), vI v1]) [] S M (xqR S M (some (vI E))) := by
  unfold fX11_look at h
  show V Y_X11_look 1 0 0 0 [(0, vR (some 0)), (1, vI v1)] [] S M _
  refine V_iload_n dX11_look_0 rfl (xm 1 rfl) ?_
  refine V_bipush dX11_look_1 (by decide) ?_
  refine V_bipush dX11_look_3 (by decide) ?_
  refine T_callSI (host := "") dX11_look_5 ok_X11_within lk_X11_60.1 lk_X11_60.2 (hV := ((fX11_within_c (hS.le (by decide)) rfl).mono (by decide) (Nat.le_refl _) (Nat.le_refl _))) rfl (Nat.le_of_ble_eq_true rfl) rfl (Nat.le_of_ble_eq_true rfl) ?_
  refine V_if_eqB (tgt := 27) dX11_look_8 (by decide) h (fun _ h => ?_) (fun _ h => ?_)
  · refine V_aload_n dX11_look_11 rfl (xm 0 rfl) ?_
    refine V_getR dX11_look_12 fl_X11_12 (sk_0 hS (by decide)) rfl ?_
    refine V_getR dX11_look_15 fl_X11_131 (sk_1 hS (by decide)) rfl ?_
    refine V_iload_n dX11_look_18 rfl (xm 1 rfl) ?_
    refine V_bipush dX11_look_19 (by decide) ?_
    refine V_isub dX11_look_21 ?_
    obtain ⟨c1, h⟩ := xixE h
    refine V_aald (r := 28 + 2 * (wr (v1 - 10)).toNat) dX11_look_22 (sk_27 hS (by decide)) (by decide) c1 (rw_27 c1) ?_
    refine V_getI (kI := 0) dX11_look_23 fl_X11_332 (rs_27 hS (by decide) c1) rfl rfl ?_
    exact V_ireti dX11_look_26 rfl (q_pI h)
  · refine V_iload_n dX11_look_27 rfl (xm 1 rfl) ?_
    refine V_bipush dX11_look_28 (by decide) ?_
    refine V_bipush dX11_look_30 (by decide) ?_
    refine V_aload_n dX11_look_32 rfl (xm 0 rfl) ?_
    refine V_getR dX11_look_33 fl_X11_12 (sk_0 hS (by decide)) rfl ?_
    refine V_getR dX11_look_36 fl_X11_82 (sk_1 hS (by decide)) rfl ?_
    refine V_getI (kI := 0) dX11_look_39 fl_X11_86 (sk_5 hS (by decide)) rfl rfl ?_
    refine V_iadd dX11_look_42 ?_
    refine V_iconst dX11_look_43 ?_
    refine V_isub dX11_look_44 ?_
    refine T_callSI (host := "") dX11_look_45 ok_X11_within lk_X11_60.1 lk_X11_60.2 (hV := ((fX11_within_c (hS.le (by decide)) rfl).mono (by decide) (Nat.le_refl _) (Nat.le_refl _))) rfl (Nat.le_of_ble_eq_true rfl) rfl (Nat.le_of_ble_eq_true rfl) ?_
    refine V_if_eqB (tgt := 67) dX11_look_48 (by decide) h (fun _ h => ?_) (fun _ h => ?_)
    · refine V_aload_n dX11_look_51 rfl (xm 0 rfl) ?_
      refine V_getR dX11_look_52 fl_X11_12 (sk_0 hS (by decide)) rfl ?_
      refine V_getR dX11_look_55 fl_X11_82 (sk_1 hS (by decide)) rfl ?_
      refine V_getR dX11_look_58 fl_X11_284 (sk_5 hS (by decide)) rfl ?_
      refine V_iload_n dX11_look_61 rfl (xm 1 rfl) ?_
      refine V_bipush dX11_look_62 (by decide) ?_
      refine V_isub dX11_look_64 ?_
      refine T_iald dX11_look_65 (sk_10 hS (by decide)) rfl h (fun r2 h => ?_)
      exact V_ireti dX11_look_66 rfl (q_pI h)
    · refine V_iload_n dX11_look_67 rfl (xm 1 rfl) ?_
      refine xif h (fun c h => ?_) (fun c0 h => ?_)
      · refine V_tabIn (tgt := 124) dX11_look_68 c (by decide) (by decide) rfl (by decide) ?_
        refine V_aload_n dX11_look_124 rfl (xm 0 rfl) ?_
        refine V_getR dX11_look_125 fl_X11_12 (sk_0 hS (by decide)) rfl ?_
        refine V_getI (kI := 0) dX11_look_128 fl_X11_228 (sk_1 hS (by decide)) rfl rfl ?_
        exact V_ireti dX11_look_131 rfl (q_pI h)
      · refine xif h (fun c h => ?_) (fun c1 h => ?_)
        · refine V_tabIn (tgt := 132) dX11_look_68 c (by decide) (by decide) rfl (by decide) ?_
          refine V_aload_n dX11_look_132 rfl (xm 0 rfl) ?_
          refine V_getR dX11_look_133 fl_X11_12 (sk_0 hS (by decide)) rfl ?_
          refine V_getI (kI := 1) dX11_look_136 fl_X11_100 (sk_1 hS (by decide)) rfl rfl ?_
          exact V_ireti dX11_look_139 rfl (q_pI h)
        · refine xif h (fun c h => ?_) (fun c2 h => ?_)
          · refine V_tabIn (tgt := 140) dX11_look_68 c (by decide) (by decide) rfl (by decide) ?_
            refine V_aload_n dX11_look_140 rfl (xm 0 rfl) ?_
            refine V_getR dX11_look_141 fl_X11_12 (sk_0 hS (by decide)) rfl ?_
            refine V_getI (kI := 2) dX11_look_144 fl_X11_103 (sk_1 hS (by decide)) rfl rfl ?_
            exact V_ireti dX11_look_147 rfl (q_pI h)
          · refine xif h (fun c h => ?_) (fun c3 h => ?_)
            · refine V_tabIn (tgt := 148) dX11_look_68 c (by decide) (by decide) rfl (by decide) ?_
              refine V_aload_n dX11_look_148 rfl (xm 0 rfl) ?_
              refine V_getR dX11_look_149 fl_X11_12 (sk_0 hS (by decide)) rfl ?_
              refine V_getI (kI := 3) dX11_look_152 fl_X11_109 (sk_1 hS (by decide)) rfl rfl ?_
              exact V_ireti dX11_look_155 rfl (q_pI h)
            · refine xif h (fun c h => ?_) (fun c4 h => ?_)
              · refine V_tabIn (tgt := 156) dX11_look_68 c (by decide) (by decide) rfl (by decide) ?_
                refine V_aload_n dX11_look_156 rfl (xm 0 rfl) ?_
                refine V_getR dX11_look_157 fl_X11_12 (sk_0 hS (by decide)) rfl ?_
                refine V_getI (kI := 4) dX11_look_160 fl_X11_112 (sk_1 hS (by decide)) rfl rfl ?_
                exact V_ireti dX11_look_163 rfl (q_pI h)
              · refine xif h (fun c h => ?_) (fun c5 h => ?_)
                · refine V_tabIn (tgt := 164) dX11_look_68 c (by decide) (by decide) rfl (by decide) ?_
                  refine V_aload_n dX11_look_164 rfl (xm 0 rfl) ?_
                  refine V_getR dX11_look_165 fl_X11_12 (sk_0 hS (by decide)) rfl ?_
                  refine V_getR dX11_look_168 fl_X11_82 (sk_1 hS (by decide)) rfl ?_
                  refine V_getI (kI := 0) dX11_look_171 fl_X11_86 (sk_5 hS (by decide)) rfl rfl ?_
                  exact V_ireti dX11_look_174 rfl (q_pI h)
                · refine xif h (fun c h => ?_) (fun c6 h => ?_)
                  · refine V_tabIn (tgt := 175) dX11_look_68 c (by decide) (by decide) rfl (by decide) ?_
                    refine V_aload_n dX11_look_175 rfl (xm 0 rfl) ?_
                    refine V_getR dX11_look_176 fl_X11_12 (sk_0 hS (by decide)) rfl ?_
                    refine V_getR dX11_look_179 fl_X11_159 (sk_1 hS (by decide)) rfl ?_
                    refine V_getI (kI := 0) dX11_look_182 fl_X11_337 (sk_12 hS (by decide)) rfl rfl ?_
                    exact V_ireti dX11_look_185 rfl (q_pI h)
                  · refine xif h (fun c h => ?_) (fun c7 h => ?_)
                    · refine V_tabIn (tgt := 186) dX11_look_68 c (by decide) (by decide) rfl (by decide) ?_
                      refine V_aload_n dX11_look_186 rfl (xm 0 rfl) ?_
                      refine V_getR dX11_look_187 fl_X11_12 (sk_0 hS (by decide)) rfl ?_
                      refine V_getR dX11_look_190 fl_X11_175 (sk_1 hS (by decide)) rfl ?_
                      refine V_getI (kI := 0) dX11_look_193 fl_X11_338 (sk_17 hS (by decide)) rfl rfl ?_
                      exact V_ireti dX11_look_196 rfl (q_pI h)
                    · refine xif h (fun c h => ?_) (fun c8 h => ?_)
                      · refine V_tabIn (tgt := 197) dX11_look_68 c (by decide) (by decide) rfl (by decide) ?_
                        refine V_aload_n dX11_look_197 rfl (xm 0 rfl) ?_
                        refine V_getR dX11_look_198 fl_X11_12 (sk_0 hS (by decide)) rfl ?_
                        refine V_getR dX11_look_201 fl_X11_299 (sk_1 hS (by decide)) rfl ?_
                        refine V_getI (kI := 0) dX11_look_204 fl_X11_303 (sk_23 hS (by decide)) rfl rfl ?_
                        exact V_ireti dX11_look_207 rfl (q_pI h)
                      · refine xif h (fun c h => ?_) (fun c9 h => ?_)
                        · refine V_tabIn (tgt := 208) dX11_look_68 c (by decide) (by decide) rfl (by decide) ?_
                          refine V_aload_n dX11_look_208 rfl (xm 0 rfl) ?_
                          refine V_getR dX11_look_209 fl_X11_53 (sk_0 hS (by decide)) rfl ?_
                          refine V_getI (kI := 0) dX11_look_212 fl_X11_322 (sk_79 hS (by decide)) rfl rfl ?_
                          exact V_ireti dX11_look_215 rfl (q_pI h)
                        · refine V_tabOut (tgt := 216) dX11_look_68 (by omega) (by decide) ?_
                          refine V_ldc (n := (-100000)) dX11_look_216 (xsg4 20 rfl rfl : Cond.constant RX11 151 (-100000) ∈ xT) (by decide) ?_
                          exact V_ireti dX11_look_218 rfl (q_pI h)
def fX4_copyFrom (M : xM)  : Option xM := xlet (xup M 5 0 (M 115 0)) fun M1 => xcp M1 116 10 0 6 10 0 10 fun M2 => xcp M2 117 10 0 7 10 0 10 fun M3 => xcp M3 118 10 0 8 10 0 10 fun M4 => xcp M4 119 10 0 9 10 0 10 fun M5 => xcp M5 120 10 0 10 10 0 10 fun M6 => some M6
set_option maxRecDepth 20000 in
set_option maxHeartbeats 1000000 in
theorem fX4_copyFrom_c {S : xS} (hS : xSk (some 111) 121 S) {M : xM} {E : xM} (h : fX4_copyFrom M = some E) :
    V Y_X4_copyFrom 1 0 0 0 (xarg 0 [vR (some 5), vR (some 115)]) [] S M (xqR S E none) := by
  unfold fX4_copyFrom at h
  show V Y_X4_copyFrom 1 0 0 0 [(0, vR (some 5)), (1, vR (some 115))] [] S M _
  refine V_aload_n dX4_copyFrom_0 rfl (xm 0 rfl) ?_
  refine V_aload_n dX4_copyFrom_1 rfl (xm 1 rfl) ?_
  refine V_getI (kI := 0) dX4_copyFrom_2 fl_X4_30 (sk_115 hS (by decide)) rfl rfl ?_
  refine T_putI (kI := 0) dX4_copyFrom_5 fp_X4_30 (sk_5 hS (by decide)) rfl rfl h (fun M1 h => ?_)
  refine V_aload_n dX4_copyFrom_8 rfl (xm 1 rfl) ?_
  refine V_getR dX4_copyFrom_9 fl_X4_9 (sk_115 hS (by decide)) rfl ?_
  refine V_iconst dX4_copyFrom_12 ?_
  refine V_aload_n dX4_copyFrom_13 rfl (xm 0 rfl) ?_
  refine V_getR dX4_copyFrom_14 fl_X4_9 (sk_5 hS (by decide)) rfl ?_
  refine V_iconst dX4_copyFrom_17 ?_
  refine V_bipush dX4_copyFrom_18 (by decide) ?_
  refine T_copy dX4_copyFrom_20 cp_X4_34 (sk_116 hS (by decide)) (sk_6 hS (by decide)) rfl rfl (by decide) (Nat.le_of_ble_eq_true rfl) h (fun M2 h => ?_)
  refine V_aload_n dX4_copyFrom_23 rfl (xm 1 rfl) ?_
  refine V_getR dX4_copyFrom_24 fl_X4_15 (sk_115 hS (by decide)) rfl ?_
  refine V_iconst dX4_copyFrom_27 ?_
  refine V_aload_n dX4_copyFrom_28 rfl (xm 0 rfl) ?_
  refine V_getR dX4_copyFrom_29 fl_X4_15 (sk_5 hS (by decide)) rfl ?_
  refine V_iconst dX4_copyFrom_32 ?_
  refine V_bipush dX4_copyFrom_33 (by decide) ?_
  refine T_copy dX4_copyFrom_35 cp_X4_34 (sk_117 hS (by decide)) (sk_7 hS (by decide)) rfl rfl (by decide) (Nat.le_of_ble_eq_true rfl) h (fun M3 h => ?_)
  refine V_aload_n dX4_copyFrom_38 rfl (xm 1 rfl) ?_
  refine V_getR dX4_copyFrom_39 fl_X4_18 (sk_115 hS (by decide)) rfl ?_
  refine V_iconst dX4_copyFrom_42 ?_
  refine V_aload_n dX4_copyFrom_43 rfl (xm 0 rfl) ?_
  refine V_getR dX4_copyFrom_44 fl_X4_18 (sk_5 hS (by decide)) rfl ?_
  refine V_iconst dX4_copyFrom_47 ?_
  refine V_bipush dX4_copyFrom_48 (by decide) ?_
  refine T_copy dX4_copyFrom_50 cp_X4_34 (sk_118 hS (by decide)) (sk_8 hS (by decide)) rfl rfl (by decide) (Nat.le_of_ble_eq_true rfl) h (fun M4 h => ?_)
  refine V_aload_n dX4_copyFrom_53 rfl (xm 1 rfl) ?_
  refine V_getR dX4_copyFrom_54 fl_X4_21 (sk_115 hS (by decide)) rfl ?_
  refine V_iconst dX4_copyFrom_57 ?_
  refine V_aload_n dX4_copyFrom_58 rfl (xm 0 rfl) ?_
  refine V_getR dX4_copyFrom_59 fl_X4_21 (sk_5 hS (by decide)) rfl ?_
  refine V_iconst dX4_copyFrom_62 ?_
  refine V_bipush dX4_copyFrom_63 (by decide) ?_
  refine T_copy dX4_copyFrom_65 cp_X4_34 (sk_119 hS (by decide)) (sk_9 hS (by decide)) rfl rfl (by decide) (Nat.le_of_ble_eq_true rfl) h (fun M5 h => ?_)
  refine V_aload_n dX4_copyFrom_68 rfl (xm 1 rfl) ?_
  refine V_getR dX4_copyFrom_69 fl_X4_24 (sk_115 hS (by decide)) rfl ?_
  refine V_iconst dX4_copyFrom_72 ?_
  refine V_aload_n dX4_copyFrom_73 rfl (xm 0 rfl) ?_
  refine V_getR dX4_copyFrom_74 fl_X4_24 (sk_5 hS (by decide)) rfl ?_
  refine V_iconst dX4_copyFrom_77 ?_
  refine V_bipush dX4_copyFrom_78 (by decide) ?_
  refine T_copy dX4_copyFrom_80 cp_X4_34 (sk_120 hS (by decide)) (sk_10 hS (by decide)) rfl rfl (by decide) (Nat.le_of_ble_eq_true rfl) h (fun M6 h => ?_)
  exact V_ret dX4_copyFrom_83 rfl (q_v h)
def fX6_copyFrom (M : xM)  : Option xM := xlet (xup M 12 0 (M 122 0)) fun M1 => xcp M1 123 60 0 13 60 0 (M1 12 0) fun M2 => xcp M2 124 60 0 14 60 0 (M2 12 0) fun M3 => xcp M3 125 60 0 15 60 0 (M3 12 0) fun M4 => xcp M4 126 60 0 16 60 0 (M4 12 0) fun M5 => some M5
set_option maxRecDepth 20000 in
set_option maxHeartbeats 1000000 in
theorem fX6_copyFrom_c {S : xS} (hS : xSk (some 111) 127 S) {M : xM} {E : xM} (h : fX6_copyFrom M = some E) :
    V Y_X6_copyFrom 1 0 0 0 (xarg 0 [vR (some 12), vR (some 122)]) [] S M (xqR S E none) := by
  unfold fX6_copyFrom at h
  show V Y_X6_copyFrom 1 0 0 0 [(0, vR (some 12)), (1, vR (some 122))] [] S M _
  refine V_aload_n dX6_copyFrom_0 rfl (xm 0 rfl) ?_
  refine V_aload_n dX6_copyFrom_1 rfl (xm 1 rfl) ?_
  refine V_getI (kI := 0) dX6_copyFrom_2 fl_X6_24 (sk_122 hS (by decide)) rfl rfl ?_
  refine T_putI (kI := 0) dX6_copyFrom_5 fp_X6_24 (sk_12 hS (by decide)) rfl rfl h (fun M1 h => ?_)
  refine V_aload_n dX6_copyFrom_8 rfl (xm 1 rfl) ?_
  refine V_getR dX6_copyFrom_9 fl_X6_11 (sk_122 hS (by decide)) rfl ?_
  refine V_iconst dX6_copyFrom_12 ?_
  refine V_aload_n dX6_copyFrom_13 rfl (xm 0 rfl) ?_
  refine V_getR dX6_copyFrom_14 fl_X6_11 (sk_12 hS (by decide)) rfl ?_
  refine V_iconst dX6_copyFrom_17 ?_
  refine V_aload_n dX6_copyFrom_18 rfl (xm 0 rfl) ?_
  refine V_getI (kI := 0) dX6_copyFrom_19 fl_X6_24 (sk_12 hS (by decide)) rfl rfl ?_
  refine T_copy dX6_copyFrom_22 cp_X6_28 (sk_123 hS (by decide)) (sk_13 hS (by decide)) rfl rfl (by decide) (Nat.le_of_ble_eq_true rfl) h (fun M2 h => ?_)
  refine V_aload_n dX6_copyFrom_25 rfl (xm 1 rfl) ?_
  refine V_getR dX6_copyFrom_26 fl_X6_15 (sk_122 hS (by decide)) rfl ?_
  refine V_iconst dX6_copyFrom_29 ?_
  refine V_aload_n dX6_copyFrom_30 rfl (xm 0 rfl) ?_
  refine V_getR dX6_copyFrom_31 fl_X6_15 (sk_12 hS (by decide)) rfl ?_
  refine V_iconst dX6_copyFrom_34 ?_
  refine V_aload_n dX6_copyFrom_35 rfl (xm 0 rfl) ?_
  refine V_getI (kI := 0) dX6_copyFrom_36 fl_X6_24 (sk_12 hS (by decide)) rfl rfl ?_
  refine T_copy dX6_copyFrom_39 cp_X6_28 (sk_124 hS (by decide)) (sk_14 hS (by decide)) rfl rfl (by decide) (Nat.le_of_ble_eq_true rfl) h (fun M3 h => ?_)
  refine V_aload_n dX6_copyFrom_42 rfl (xm 1 rfl) ?_
  refine V_getR dX6_copyFrom_43 fl_X6_18 (sk_122 hS (by decide)) rfl ?_
  refine V_iconst dX6_copyFrom_46 ?_
  refine V_aload_n dX6_copyFrom_47 rfl (xm 0 rfl) ?_
  refine V_getR dX6_copyFrom_48 fl_X6_18 (sk_12 hS (by decide)) rfl ?_
  refine V_iconst dX6_copyFrom_51 ?_
  refine V_aload_n dX6_copyFrom_52 rfl (xm 0 rfl) ?_
  refine V_getI (kI := 0) dX6_copyFrom_53 fl_X6_24 (sk_12 hS (by decide)) rfl rfl ?_
  refine T_copy dX6_copyFrom_56 cp_X6_28 (sk_125 hS (by decide)) (sk_15 hS (by decide)) rfl rfl (by decide) (Nat.le_of_ble_eq_true rfl) h (fun M4 h => ?_)
  refine V_aload_n dX6_copyFrom_59 rfl (xm 1 rfl) ?_
  refine V_getR dX6_copyFrom_60 fl_X6_21 (sk_122 hS (by decide)) rfl ?_
  refine V_iconst dX6_copyFrom_63 ?_
  refine V_aload_n dX6_copyFrom_64 rfl (xm 0 rfl) ?_
  refine V_getR dX6_copyFrom_65 fl_X6_21 (sk_12 hS (by decide)) rfl ?_
  refine V_iconst dX6_copyFrom_68 ?_
  refine V_aload_n dX6_copyFrom_69 rfl (xm 0 rfl) ?_
  refine V_getI (kI := 0) dX6_copyFrom_70 fl_X6_24 (sk_12 hS (by decide)) rfl rfl ?_
  refine T_copy dX6_copyFrom_73 cp_X6_28 (sk_126 hS (by decide)) (sk_16 hS (by decide)) rfl rfl (by decide) (Nat.le_of_ble_eq_true rfl) h (fun M5 h => ?_)
  exact V_ret dX6_copyFrom_76 rfl (q_v h)
def fX5_copyFrom (M : xM)  : Option xM := xlet (xup M 17 0 (M 127 0)) fun M1 => xlet (xup M1 17 2 (M1 127 2)) fun M2 => xcp M2 128 24 0 18 24 0 (M2 17 0) fun M3 => xcp M3 129 24 0 19 24 0 (M3 17 0) fun M4 => xcp M4 130 24 0 20 24 0 (M4 17 0) fun M5 => xcp M5 131 24 0 21 24 0 (M5 17 0) fun M6 => some M6
set_option maxRecDepth 20000 in
set_option maxHeartbeats 1000000 in
theorem fX5_copyFrom_c {S : xS} (hS : xSk (some 111) 132 S) {M : xM} {E : xM} (h : fX5_copyFrom M = some E) :
    V Y_X5_copyFrom 1 0 0 0 (xarg 0 [vR (some 17), vR (some 127)]) [] S M (xqR S E none) := by
  unfold fX5_copyFrom at h
  show V Y_X5_copyFrom 1 0 0 0 [(0, vR (some 17)), (1, vR (some 127))] [] S M _
  refine V_aload_n dX5_copyFrom_0 rfl (xm 0 rfl) ?_
  refine V_aload_n dX5_copyFrom_1 rfl (xm 1 rfl) ?_
  refine V_getI (kI := 0) dX5_copyFrom_2 fl_X5_27 (sk_127 hS (by decide)) rfl rfl ?_
  refine T_putI (kI := 0) dX5_copyFrom_5 fp_X5_27 (sk_17 hS (by decide)) rfl rfl h (fun M1 h => ?_)
  refine V_aload_n dX5_copyFrom_8 rfl (xm 0 rfl) ?_
  refine V_aload_n dX5_copyFrom_9 rfl (xm 1 rfl) ?_
  refine V_getI (kI := 2) dX5_copyFrom_10 fl_X5_31 (sk_127 hS (by decide)) rfl rfl ?_
  refine T_putI (kI := 2) dX5_copyFrom_13 fp_X5_31 (sk_17 hS (by decide)) rfl rfl h (fun M2 h => ?_)
  refine V_aload_n dX5_copyFrom_16 rfl (xm 1 rfl) ?_
  refine V_getR dX5_copyFrom_17 fl_X5_11 (sk_127 hS (by decide)) rfl ?_
  refine V_iconst dX5_copyFrom_20 ?_
  refine V_aload_n dX5_copyFrom_21 rfl (xm 0 rfl) ?_
  refine V_getR dX5_copyFrom_22 fl_X5_11 (sk_17 hS (by decide)) rfl ?_
  refine V_iconst dX5_copyFrom_25 ?_
  refine V_aload_n dX5_copyFrom_26 rfl (xm 0 rfl) ?_
  refine V_getI (kI := 0) dX5_copyFrom_27 fl_X5_27 (sk_17 hS (by decide)) rfl rfl ?_
  refine T_copy dX5_copyFrom_30 cp_X5_34 (sk_128 hS (by decide)) (sk_18 hS (by decide)) rfl rfl (by decide) (Nat.le_of_ble_eq_true rfl) h (fun M3 h => ?_)
  refine V_aload_n dX5_copyFrom_33 rfl (xm 1 rfl) ?_
  refine V_getR dX5_copyFrom_34 fl_X5_15 (sk_127 hS (by decide)) rfl ?_
  refine V_iconst dX5_copyFrom_37 ?_
  refine V_aload_n dX5_copyFrom_38 rfl (xm 0 rfl) ?_
  refine V_getR dX5_copyFrom_39 fl_X5_15 (sk_17 hS (by decide)) rfl ?_
  refine V_iconst dX5_copyFrom_42 ?_
  refine V_aload_n dX5_copyFrom_43 rfl (xm 0 rfl) ?_
  refine V_getI (kI := 0) dX5_copyFrom_44 fl_X5_27 (sk_17 hS (by decide)) rfl rfl ?_
  refine T_copy dX5_copyFrom_47 cp_X5_34 (sk_129 hS (by decide)) (sk_19 hS (by decide)) rfl rfl (by decide) (Nat.le_of_ble_eq_true rfl) h (fun M4 h => ?_)
  refine V_aload_n dX5_copyFrom_50 rfl (xm 1 rfl) ?_
  refine V_getR dX5_copyFrom_51 fl_X5_18 (sk_127 hS (by decide)) rfl ?_
  refine V_iconst dX5_copyFrom_54 ?_
  refine V_aload_n dX5_copyFrom_55 rfl (xm 0 rfl) ?_
  refine V_getR dX5_copyFrom_56 fl_X5_18 (sk_17 hS (by decide)) rfl ?_
  refine V_iconst dX5_copyFrom_59 ?_
  refine V_aload_n dX5_copyFrom_60 rfl (xm 0 rfl) ?_
  refine V_getI (kI := 0) dX5_copyFrom_61 fl_X5_27 (sk_17 hS (by decide)) rfl rfl ?_
  refine T_copy dX5_copyFrom_64 cp_X5_34 (sk_130 hS (by decide)) (sk_20 hS (by decide)) rfl rfl (by decide) (Nat.le_of_ble_eq_true rfl) h (fun M5 h => ?_)
  refine V_aload_n dX5_copyFrom_67 rfl (xm 1 rfl) ?_
  refine V_getR dX5_copyFrom_68 fl_X5_21 (sk_127 hS (by decide)) rfl ?_
  refine V_iconst dX5_copyFrom_71 ?_
  refine V_aload_n dX5_copyFrom_72 rfl (xm 0 rfl) ?_
  refine V_getR dX5_copyFrom_73 fl_X5_21 (sk_17 hS (by decide)) rfl ?_
  refine V_iconst dX5_copyFrom_76 ?_
  refine V_aload_n dX5_copyFrom_77 rfl (xm 0 rfl) ?_
  refine V_getI (kI := 0) dX5_copyFrom_78 fl_X5_27 (sk_17 hS (by decide)) rfl rfl ?_
  refine T_copy dX5_copyFrom_81 cp_X5_34 (sk_131 hS (by decide)) (sk_21 hS (by decide)) rfl rfl (by decide) (Nat.le_of_ble_eq_true rfl) h (fun M6 h => ?_)
  exact V_ret dX5_copyFrom_84 rfl (q_v h)
def fX2_copyFrom (M : xM)  : Option xM := xlet (xup M 23 0 (M 133 0)) fun M1 => xcp M1 134 40 0 24 40 0 (M1 23 0) fun M2 => xcp M2 135 40 0 25 40 0 (M2 23 0) fun M3 => xcp M3 136 40 0 26 40 0 (M3 23 0) fun M4 => some M4
set_option maxRecDepth 20000 in
set_option maxHeartbeats 1000000 in
theorem fX2_copyFrom_c {S : xS} (hS : xSk (some 111) 137 S) {M : xM} {E : xM} (h : fX2_copyFrom M = some E) :
    V Y_X2_copyFrom 1 0 0 0 (xarg 0 [vR (some 23), vR (some 133)]) [] S M (xqR S E none) := by
  unfold fX2_copyFrom at h
  show V Y_X2_copyFrom 1 0 0 0 [(0, vR (some 23)), (1, vR (some 133))] [] S M _
  refine V_aload_n dX2_copyFrom_0 rfl (xm 0 rfl) ?_
  refine V_aload_n dX2_copyFrom_1 rfl (xm 1 rfl) ?_
  refine V_getI (kI := 0) dX2_copyFrom_2 fl_X2_19 (sk_133 hS (by decide)) rfl rfl ?_
  refine T_putI (kI := 0) dX2_copyFrom_5 fp_X2_19 (sk_23 hS (by decide)) rfl rfl h (fun M1 h => ?_)
  refine V_aload_n dX2_copyFrom_8 rfl (xm 1 rfl) ?_
  refine V_getR dX2_copyFrom_9 fl_X2_9 (sk_133 hS (by decide)) rfl ?_
  refine V_iconst dX2_copyFrom_12 ?_
  refine V_aload_n dX2_copyFrom_13 rfl (xm 0 rfl) ?_
  refine V_getR dX2_copyFrom_14 fl_X2_9 (sk_23 hS (by decide)) rfl ?_
  refine V_iconst dX2_copyFrom_17 ?_
  refine V_aload_n dX2_copyFrom_18 rfl (xm 0 rfl) ?_
  refine V_getI (kI := 0) dX2_copyFrom_19 fl_X2_19 (sk_23 hS (by decide)) rfl rfl ?_
  refine T_copy dX2_copyFrom_22 cp_X2_23 (sk_134 hS (by decide)) (sk_24 hS (by decide)) rfl rfl (by decide) (Nat.le_of_ble_eq_true rfl) h (fun M2 h => ?_)
  refine V_aload_n dX2_copyFrom_25 rfl (xm 1 rfl) ?_
  refine V_getR dX2_copyFrom_26 fl_X2_13 (sk_133 hS (by decide)) rfl ?_
  refine V_iconst dX2_copyFrom_29 ?_
  refine V_aload_n dX2_copyFrom_30 rfl (xm 0 rfl) ?_
  refine V_getR dX2_copyFrom_31 fl_X2_13 (sk_23 hS (by decide)) rfl ?_
  refine V_iconst dX2_copyFrom_34 ?_
  refine V_aload_n dX2_copyFrom_35 rfl (xm 0 rfl) ?_
  refine V_getI (kI := 0) dX2_copyFrom_36 fl_X2_19 (sk_23 hS (by decide)) rfl rfl ?_
  refine T_copy dX2_copyFrom_39 cp_X2_23 (sk_135 hS (by decide)) (sk_25 hS (by decide)) rfl rfl (by decide) (Nat.le_of_ble_eq_true rfl) h (fun M3 h => ?_)
  refine V_aload_n dX2_copyFrom_42 rfl (xm 1 rfl) ?_
  refine V_getR dX2_copyFrom_43 fl_X2_16 (sk_133 hS (by decide)) rfl ?_
  refine V_iconst dX2_copyFrom_46 ?_
  refine V_aload_n dX2_copyFrom_47 rfl (xm 0 rfl) ?_
  refine V_getR dX2_copyFrom_48 fl_X2_16 (sk_23 hS (by decide)) rfl ?_
  refine V_iconst dX2_copyFrom_51 ?_
  refine V_aload_n dX2_copyFrom_52 rfl (xm 0 rfl) ?_
  refine V_getI (kI := 0) dX2_copyFrom_53 fl_X2_19 (sk_23 hS (by decide)) rfl rfl ?_
  refine T_copy dX2_copyFrom_56 cp_X2_23 (sk_136 hS (by decide)) (sk_26 hS (by decide)) rfl rfl (by decide) (Nat.le_of_ble_eq_true rfl) h (fun M4 h => ?_)
  exact V_ret dX2_copyFrom_59 rfl (q_v h)
def fX9_copyFrom_i2 (M : xM) (o0 : Nat) (o1 : Nat) : Option xM := xlet (xup M o0 0 (M o1 0)) fun M1 => xlet (xup M1 o0 1 (M1 o1 1)) fun M2 => xbl (M2 o1 2) fun b4 => xlet (xup M2 o0 2 (b2i b4)) fun M3 => xcp M3 (o1 + 1) 400 0 (o0 + 1) 400 0 (M3 o0 1) fun M5 => some M5
set_option maxRecDepth 20000 in
set_option maxHeartbeats 1000000 in
theorem fX9_copyFrom_i2_c {S : xS} {kp : Option Nat} (hS : xSk kp 0 S) {M : xM} {o0 : Nat} {o1 : Nat} (hw0 : S[o0]? = some (9, 4, [none, none, none, some (some (o0 + 1))])) (hc0 : S[o0 + 1]? = some (100, 400, [])) (hw1 : S[o1]? = some (9, 4, [none, none, none, some (some (o1 + 1))])) (hc1 : S[o1 + 1]? = some (100, 400, [])) {E : xM} (h : fX9_copyFrom_i2 M o0 o1 = some E) :
    V Y_X9_copyFrom 1 0 0 0 (xarg 0 [vR (some o0), vR (some o1)]) [] S M (xqR S E none) := by
  unfold fX9_copyFrom_i2 at h
  show V Y_X9_copyFrom 1 0 0 0 [(0, vR (some o0)), (1, vR (some o1))] [] S M _
  refine V_aload_n dX9_copyFrom_0 rfl (xm 0 rfl) ?_
  refine V_aload_n dX9_copyFrom_1 rfl (xm 1 rfl) ?_
  refine V_getI (kI := 0) dX9_copyFrom_2 fl_X9_15 hw1 rfl rfl ?_
  refine T_putI (kI := 0) dX9_copyFrom_5 fp_X9_15 hw0 rfl rfl h (fun M1 h => ?_)
  refine V_aload_n dX9_copyFrom_8 rfl (xm 0 rfl) ?_
  refine V_aload_n dX9_copyFrom_9 rfl (xm 1 rfl) ?_
  refine V_getI (kI := 1) dX9_copyFrom_10 fl_X9_19 hw1 rfl rfl ?_
  refine T_putI (kI := 1) dX9_copyFrom_13 fp_X9_19 hw0 rfl rfl h (fun M2 h => ?_)
  refine V_aload_n dX9_copyFrom_16 rfl (xm 0 rfl) ?_
  refine V_aload_n dX9_copyFrom_17 rfl (xm 1 rfl) ?_
  refine V_getI (kI := 2) dX9_copyFrom_18 fl_X9_22 hw1 rfl rfl ?_
  refine T_putZx (kI := 2) dX9_copyFrom_21 fp_X9_22 hw0 rfl rfl h (fun M3 h => ?_)
  refine V_aload_n dX9_copyFrom_24 rfl (xm 1 rfl) ?_
  refine V_getR dX9_copyFrom_25 fl_X9_9 hw1 rfl ?_
  refine V_iconst dX9_copyFrom_28 ?_
  refine V_aload_n dX9_copyFrom_29 rfl (xm 0 rfl) ?_
  refine V_getR dX9_copyFrom_30 fl_X9_9 hw0 rfl ?_
  refine V_iconst dX9_copyFrom_33 ?_
  refine V_aload_n dX9_copyFrom_34 rfl (xm 0 rfl) ?_
  refine V_getI (kI := 1) dX9_copyFrom_35 fl_X9_19 hw0 rfl rfl ?_
  refine T_copy dX9_copyFrom_38 cp_X9_26 hc1 hc0 rfl rfl (by decide) (Nat.le_of_ble_eq_true rfl) h (fun M5 h => ?_)
  exact V_ret dX9_copyFrom_41 rfl (q_v h)
def fX1_copyFrom_L148 (n : Nat) (M : xM) (v2 : Int) : Option (xM) := match n with
  | 0 => none
  | n + 1 => (if wr v2 < wr 4 then (xix 4 v2 (xix 4 v2 (xb (fX9_copyFrom_i2 M (28 + 2 * (wr v2).toNat) (138 + 2 * (wr v2).toNat)) fun M21 => fX1_copyFrom_L148 n M21 (v2 + 1)))) else some M)
set_option maxRecDepth 20000 in
set_option maxHeartbeats 1000000 in
theorem fX1_copyFrom_L148_c {S : xS} (hS : xSk (some 111) 146 S) {Q : Option xV → xS → xM → Prop} :
    ∀ (n : Nat) (M : xM) (v2 : Int) {Mz : xM}, fX1_copyFrom_L148 n M v2 = some Mz → V Y_X1_copyFrom 2 0 0 174 [] [] S Mz Q → V Y_X1_copyFrom 2 0 0 148 [(0, vR (some 1)), (1, vR (some 111)), (2, vI v2)] [] S M Q := by
  intro n
  induction n with
  | zero =>
    intro M v2 Mz h k
    cases h
  | succ n ih =>
    intro M v2 Mz h k
    rw [fX1_copyFrom_L148] at h
    refine V_iload_n dX1_copyFrom_148 rfl (xm 2 rfl) ?_
    refine V_iconst dX1_copyFrom_149 ?_
    refine V_icmp_ge (tgt := 174) dX1_copyFrom_150 (by decide) h (fun _ h => ?_) (fun _ h => ?_)
    · refine V_aload_n dX1_copyFrom_153 rfl (xm 0 rfl) ?_
      refine V_getR dX1_copyFrom_154 fl_X1_54 (sk_1 hS (by decide)) rfl ?_
      refine V_iload_n dX1_copyFrom_157 rfl (xm 2 rfl) ?_
      obtain ⟨c18, h⟩ := xixE h
      refine V_aald (r := 28 + 2 * (wr v2).toNat) dX1_copyFrom_158 (sk_27 hS (by decide)) (by decide) c18 (rw_27 c18) ?_
      refine V_aload_n dX1_copyFrom_159 rfl (xm 1 rfl) ?_
      refine V_getR dX1_copyFrom_160 fl_X1_54 (sk_111 hS (by decide)) rfl ?_
      refine V_iload_n dX1_copyFrom_163 rfl (xm 2 rfl) ?_
      obtain ⟨c19, h⟩ := xixE h
      refine V_aald (r := 138 + 2 * (wr v2).toNat) dX1_copyFrom_164 (sk_137 hS (by decide)) (by decide) c19 (rw_137 c19) ?_
      refine xbE h (fun M21 h20 h => ?_)
      refine T_callVv dX1_copyFrom_165 ok_X9_copyFrom (by exact ⟨by decide, rfl⟩) lk_X1_117.1 lk_X1_117.2 (rs_27 hS (by decide) c18) (hV := ((fX9_copyFrom_i2_c (hS.le (by decide)) (rs_27 hS (by decide) c18) (rc_27 hS (by decide) c18) (rs_137 hS (by decide) c19) (rc_137 hS (by decide) c19) h20).mono (by decide) (Nat.le_refl _) (Nat.le_refl _))) rfl (Nat.le_of_ble_eq_true rfl) rfl (Nat.le_of_ble_eq_true rfl) ?_
      refine V_iinc (ls' := [(2, vI (v2 + 1)), (0, vR (some 1)), (1, vR (some 111))]) dX1_copyFrom_168 (xm 2 rfl) (by decide) rfl ?_
      refine V_goto (tgt := 148) dX1_copyFrom_171 (by decide) ?_
      refine V.pick [1, 2, 0] rfl ?_
      exact ih M21 (v2 + 1) h k
    · cases h
      refine V.pick [] rfl ?_
      exact k
theorem fX1_copyFrom_L148_ci {S : xS} (hS : xSk (some 111) 146 S) {Q : Option xV → xS → xM → Prop} {n : Nat} {M : xM} {v2 : Int} {Mz : xM} (hl : fX1_copyFrom_L148 n M v2 = some Mz) (k : V Y_X1_copyFrom 2 0 0 174 [] [] S Mz Q) : V Y_X1_copyFrom 2 0 0 148 [(0, vR (some 1)), (1, vR (some 111)), (2, vI v2)] [] S M Q := fX1_copyFrom_L148_c hS _ _ _ hl k
