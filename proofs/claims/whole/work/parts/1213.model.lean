def fX4_join (M : xM) (v1 : Int) (v2 : Int) (v3 : Int) (v4 : Int) : Option (Int × xM) := xwt M 6 10 (M 5 0) v1 fun M1 => xwt M1 7 10 (M 5 0) v2 fun M2 => xwt M2 8 10 (M 5 0) v3 fun M3 => xwt M3 9 10 (M 5 0) v4 fun M4 => xwt M4 10 10 (M 5 0) 0 fun M5 => xlet (xup M5 5 0 ((M5 5 0) + 1)) fun M6 => some (M 5 0, M6)
set_option maxRecDepth 20000 in
set_option maxHeartbeats 1000000 in
theorem fX4_join_c {S : xS} {kp : Option Nat} (hS : xSk kp 11 S) {M : xM} {v1 : Int} {v2 : Int} {v3 : Int} {v4 : Int} {E : Int × xM} (h : fX4_join M v1 v2 v3 v4 = some E) :
    V Y_X4_join 0 0 0 0 (xarg 0 [vR (some 5), vI v1, vI v2, vI v3, vI v4]) [] S M (xqR S E.2 (some (vI E.1))) := by
  unfold fX4_join at h
  show V Y_X4_join 0 0 0 0 [(0, vR (some 5)), (1, vI v1), (2, vI v2), (3, vI v3), (4, vI v4)] [] S M _
  refine V_aload_n dX4_join_0 rfl (xm 0 rfl) ?_
  refine V_getI (kI := 0) dX4_join_1 fl_X4_30 (sk_5 hS (by decide)) rfl rfl ?_
  refine V_istore (ls' := [(5, vI (M 5 0)), (0, vR (some 5)), (1, vI v1), (2, vI v2), (3, vI v3), (4, vI v4)]) dX4_join_4 (by decide) rfl ?_
  refine V_aload_n dX4_join_6 rfl (xm 1 rfl) ?_
  refine V_getR dX4_join_7 fl_X4_9 (sk_5 hS (by decide)) rfl ?_
  refine V_iload dX4_join_10 (xm 0 rfl) ?_
  refine V_iload_n dX4_join_12 rfl (xm 2 rfl) ?_
  refine T_iast dX4_join_13 (sk_6 hS (by decide)) rfl h (fun M1 h => ?_)
  refine V_aload_n dX4_join_14 rfl (xm 1 rfl) ?_
  refine V_getR dX4_join_15 fl_X4_15 (sk_5 hS (by decide)) rfl ?_
  refine V_iload dX4_join_18 (xm 0 rfl) ?_
  refine V_iload_n dX4_join_20 rfl (xm 3 rfl) ?_
  refine T_iast dX4_join_21 (sk_7 hS (by decide)) rfl h (fun M2 h => ?_)
  refine V_aload_n dX4_join_22 rfl (xm 1 rfl) ?_
  refine V_getR dX4_join_23 fl_X4_18 (sk_5 hS (by decide)) rfl ?_
  refine V_iload dX4_join_26 (xm 0 rfl) ?_
  refine V_iload_n dX4_join_28 rfl (xm 4 rfl) ?_
  refine T_iast dX4_join_29 (sk_8 hS (by decide)) rfl h (fun M3 h => ?_)
  refine V_aload_n dX4_join_30 rfl (xm 1 rfl) ?_
  refine V_getR dX4_join_31 fl_X4_21 (sk_5 hS (by decide)) rfl ?_
  refine V_iload dX4_join_34 (xm 0 rfl) ?_
  refine V_iload dX4_join_36 (xm 5 rfl) ?_
  refine T_iast dX4_join_38 (sk_9 hS (by decide)) rfl h (fun M4 h => ?_)
  refine V_aload_n dX4_join_39 rfl (xm 1 rfl) ?_
  refine V_getR dX4_join_40 fl_X4_24 (sk_5 hS (by decide)) rfl ?_
  refine V_iload dX4_join_43 (xm 0 rfl) ?_
  refine V_iconst dX4_join_45 ?_
  refine T_iast dX4_join_46 (sk_10 hS (by decide)) rfl h (fun M5 h => ?_)
  refine V_aload_n dX4_join_47 rfl (xm 1 rfl) ?_
  refine V_dup dX4_join_48 rfl ?_
  refine V_getI (kI := 0) dX4_join_49 fl_X4_30 (sk_5 hS (by decide)) rfl rfl ?_
  refine V_iconst dX4_join_52 ?_
  refine V_iadd dX4_join_53 ?_
  refine T_putI (kI := 0) dX4_join_54 fp_X4_30 (sk_5 hS (by decide)) rfl rfl h (fun M6 h => ?_)
  refine V_iload dX4_join_57 (xm 0 rfl) ?_
  exact V_ireti dX4_join_59 rfl (q_wI h)
def fX11_plot (M : xM) (v1 : Int) (v2 : Int) (v3 : Int) (v4 : Int) : Option (Int × xM) := (if (fX1_hasAngle M v1) = true then (if (fX11_within v2 1 9) = true then (if (fX11_within v3 0 4) = true then (if (fX11_within v4 ((-99999)) 99999) = true then (if wr (M 5 0) < wr 10 then (xb (fX0_forget M) fun M2 => xb2 (fX4_join M2 v1 v2 v3 v4) fun r4 M5 => some (r4, M5)) else some ((-1), M)) else some ((-1), M)) else some ((-1), M)) else some ((-1), M)) else some ((-1), M))
set_option maxRecDepth 20000 in
set_option maxHeartbeats 1000000 in
theorem fX11_plot_c {S : xS} {kp : Option Nat} (hS : xSk kp 94 S) {M : xM} {v1 : Int} {v2 : Int} {v3 : Int} {v4 : Int} {E : Int × xM} (h : fX11_plot M v1 v2 v3 v4 = some E) :
    V Y_X11_plot 2 0 0 0 (xarg 0 [vR (some 0), vI v1, vI v2, vI v3, vI v4]) [] S M (xqR S E.2 (some (vI E.1))) := by
  unfold fX11_plot at h
  show V Y_X11_plot 2 0 0 0 [(0, vR (some 0)), (1, vI v1), (2, vI v2), (3, vI v3), (4, vI v4)] [] S M _
  refine V_aload_n dX11_plot_0 rfl (xm 0 rfl) ?_
  refine V_getR dX11_plot_1 fl_X11_12 (sk_0 hS (by decide)) rfl ?_
  refine V_iload_n dX11_plot_4 rfl (xm 1 rfl) ?_
  refine T_callVI dX11_plot_5 ok_X1_hasAngle (by exact ⟨by decide, rfl⟩) lk_X11_68.1 lk_X11_68.2 (sk_1 hS (by decide)) (hV := ((fX1_hasAngle_c (hS.le (by decide)) rfl).mono (by decide) (Nat.le_refl _) (Nat.le_refl _))) rfl (Nat.le_of_ble_eq_true rfl) rfl (Nat.le_of_ble_eq_true rfl) ?_
  refine V_if_eqB (tgt := 57) dX11_plot_8 (by decide) h (fun _ h => ?_) (fun _ h => ?_)
  · refine V_iload_n dX11_plot_11 rfl (xm 2 rfl) ?_
    refine V_iconst dX11_plot_12 ?_
    refine V_bipush dX11_plot_13 (by decide) ?_
    refine T_callSI (host := "") dX11_plot_15 ok_X11_within lk_X11_60.1 lk_X11_60.2 (hV := ((fX11_within_c (hS.le (by decide)) rfl).mono (by decide) (Nat.le_refl _) (Nat.le_refl _))) rfl (Nat.le_of_ble_eq_true rfl) rfl (Nat.le_of_ble_eq_true rfl) ?_
    refine V_if_eqB (tgt := 57) dX11_plot_18 (by decide) h (fun _ h => ?_) (fun _ h => ?_)
    · refine V_iload_n dX11_plot_21 rfl (xm 3 rfl) ?_
      refine V_iconst dX11_plot_22 ?_
      refine V_iconst dX11_plot_23 ?_
      refine T_callSI (host := "") dX11_plot_24 ok_X11_within lk_X11_60.1 lk_X11_60.2 (hV := ((fX11_within_c (hS.le (by decide)) rfl).mono (by decide) (Nat.le_refl _) (Nat.le_refl _))) rfl (Nat.le_of_ble_eq_true rfl) rfl (Nat.le_of_ble_eq_true rfl) ?_
      refine V_if_eqB (tgt := 57) dX11_plot_27 (by decide) h (fun _ h => ?_) (fun _ h => ?_)
      · refine V_iload dX11_plot_30 (xm 4 rfl) ?_
        refine V_ldc (n := (-99999)) dX11_plot_32 (xsg3 14 rfl rfl : Cond.constant RX11 80 (-99999) ∈ xT) (by decide) ?_
        refine V_ldc (n := 99999) dX11_plot_34 (xsg3 15 rfl rfl : Cond.constant RX11 81 99999 ∈ xT) (by decide) ?_
        refine T_callSI (host := "") dX11_plot_36 ok_X11_within lk_X11_60.1 lk_X11_60.2 (hV := ((fX11_within_c (hS.le (by decide)) rfl).mono (by decide) (Nat.le_refl _) (Nat.le_refl _))) rfl (Nat.le_of_ble_eq_true rfl) rfl (Nat.le_of_ble_eq_true rfl) ?_
        refine V_if_eqB (tgt := 57) dX11_plot_39 (by decide) h (fun _ h => ?_) (fun _ h => ?_)
        · refine V_aload_n dX11_plot_42 rfl (xm 0 rfl) ?_
          refine V_getR dX11_plot_43 fl_X11_12 (sk_0 hS (by decide)) rfl ?_
          refine V_getR dX11_plot_46 fl_X11_82 (sk_1 hS (by decide)) rfl ?_
          refine V_getI (kI := 0) dX11_plot_49 fl_X11_86 (sk_5 hS (by decide)) rfl rfl ?_
          refine V_bipush dX11_plot_52 (by decide) ?_
          refine V_icmp_lt (tgt := 59) dX11_plot_54 (by decide) h (fun _ h => ?_) (fun _ h => ?_)
          · refine V_aload_n dX11_plot_59 rfl (xm 0 rfl) ?_
            refine V_getR dX11_plot_60 fl_X11_53 (sk_0 hS (by decide)) rfl ?_
            refine xbE h (fun M2 h1 h => ?_)
            refine T_callVv dX11_plot_63 ok_X0_forget (by exact ⟨by decide, rfl⟩) lk_X11_67.1 lk_X11_67.2 (sk_79 hS (by decide)) (hV := ((fX0_forget_c (hS.le (by decide)) h1).mono (by decide) (Nat.le_refl _) (Nat.le_refl _))) rfl (Nat.le_of_ble_eq_true rfl) rfl (Nat.le_of_ble_eq_true rfl) ?_
            refine V_aload_n dX11_plot_66 rfl (xm 0 rfl) ?_
            refine V_getR dX11_plot_67 fl_X11_12 (sk_0 hS (by decide)) rfl ?_
            refine V_getR dX11_plot_70 fl_X11_82 (sk_1 hS (by decide)) rfl ?_
            refine V_iload_n dX11_plot_73 rfl (xm 1 rfl) ?_
            refine V_iload_n dX11_plot_74 rfl (xm 2 rfl) ?_
            refine V_iload_n dX11_plot_75 rfl (xm 3 rfl) ?_
            refine V_iload dX11_plot_76 (xm 4 rfl) ?_
            refine xb2E h (fun r4 M5 h3 h => ?_)
            refine T_callVI dX11_plot_78 ok_X4_join (by exact ⟨by decide, rfl⟩) lk_X11_92.1 lk_X11_92.2 (sk_5 hS (by decide)) (hV := ((fX4_join_c (hS.le (by decide)) h3).mono (by decide) (Nat.le_refl _) (Nat.le_refl _))) rfl (Nat.le_of_ble_eq_true rfl) rfl (Nat.le_of_ble_eq_true rfl) ?_
            exact V_ireti dX11_plot_81 rfl (q_wI h)
          · refine V_iconst dX11_plot_57 ?_
            exact V_ireti dX11_plot_58 rfl (q_wI h)
        · refine V_iconst dX11_plot_57 ?_
          exact V_ireti dX11_plot_58 rfl (q_wI h)
      · refine V_iconst dX11_plot_57 ?_
        exact V_ireti dX11_plot_58 rfl (q_wI h)
    · refine V_iconst dX11_plot_57 ?_
      exact V_ireti dX11_plot_58 rfl (q_wI h)
  · refine V_iconst dX11_plot_57 ?_
    exact V_ireti dX11_plot_58 rfl (q_wI h)
def fX11_isDay (v0 : Int) : Bool := (fX11_within v0 0 9999)
set_option maxRecDepth 20000 in
set_option maxHeartbeats 1000000 in
theorem fX11_isDay_c {S : xS} {kp : Option Nat} (hS : xSk kp 0 S) {M : xM} {v0 : Int} {E : Bool} (h : fX11_isDay v0 = E) :
    V Y_X11_isDay 1 0 0 0 (xarg 0 [vI v0]) [] S M (xqR S M (some (vI (b2i E)))) := by
  unfold fX11_isDay at h
  show V Y_X11_isDay 1 0 0 0 [(0, vI v0)] [] S M _
  refine V_iload_n dX11_isDay_0 rfl (xm 0 rfl) ?_
  refine V_iconst dX11_isDay_1 ?_
  refine V_sipush dX11_isDay_2 (by decide) ?_
  refine T_callSI (host := "") dX11_isDay_5 ok_X11_within lk_X11_60.1 lk_X11_60.2 (hV := ((fX11_within_c (hS.le (by decide)) rfl).mono (by decide) (Nat.le_refl _) (Nat.le_refl _))) rfl (Nat.le_of_ble_eq_true rfl) rfl (Nat.le_of_ble_eq_true rfl) ?_
  exact V_iretb (b := (fX11_within v0 0 9999)) dX11_isDay_8 rfl rfl (q_tB h)
def fX11_mayBeSet (M : xM) (v1 : Int) (v2 : Int) : Bool := (if wr v1 = 0 then (fX1_hasAngle M v2) else (if wr v1 = 1 then (fX11_isDay v2) else (if wr v1 = 2 then (fX11_within v2 0 999) else (if wr v1 = 3 then (fX11_within v2 0 99) else false))))
set_option maxRecDepth 20000 in
set_option maxHeartbeats 1000000 in
theorem fX11_mayBeSet_c {S : xS} {kp : Option Nat} (hS : xSk kp 94 S) {M : xM} {v1 : Int} {v2 : Int} {E : Bool} (h : fX11_mayBeSet M v1 v2 = E) :
    V Y_X11_mayBeSet 2 0 0 0 (xarg 0 [vR (some 0), vI v1, vI v2]) [] S M (xqR S M (some (vI (b2i E)))) := by
  unfold fX11_mayBeSet at h
  show V Y_X11_mayBeSet 2 0 0 0 [(0, vR (some 0)), (1, vI v1), (2, vI v2)] [] S M _
  refine V_iload_n dX11_mayBeSet_0 rfl (xm 1 rfl) ?_
  refine xif h (fun c h => ?_) (fun c0 h => ?_)
  · refine V_tabIn (tgt := 32) dX11_mayBeSet_1 c (by decide) (by decide) rfl (by decide) ?_
    refine V_aload_n dX11_mayBeSet_32 rfl (xm 0 rfl) ?_
    refine V_getR dX11_mayBeSet_33 fl_X11_12 (sk_0 hS (by decide)) rfl ?_
    refine V_iload_n dX11_mayBeSet_36 rfl (xm 2 rfl) ?_
    refine T_callVI dX11_mayBeSet_37 ok_X1_hasAngle (by exact ⟨by decide, rfl⟩) lk_X11_68.1 lk_X11_68.2 (sk_1 hS (by decide)) (hV := ((fX1_hasAngle_c (hS.le (by decide)) rfl).mono (by decide) (Nat.le_refl _) (Nat.le_refl _))) rfl (Nat.le_of_ble_eq_true rfl) rfl (Nat.le_of_ble_eq_true rfl) ?_
    exact V_iretb (b := (fX1_hasAngle M v2)) dX11_mayBeSet_40 rfl rfl (q_tB h)
  · refine xif h (fun c h => ?_) (fun c1 h => ?_)
    · refine V_tabIn (tgt := 41) dX11_mayBeSet_1 c (by decide) (by decide) rfl (by decide) ?_
      refine V_iload_n dX11_mayBeSet_41 rfl (xm 2 rfl) ?_
      refine T_callSI (host := "") dX11_mayBeSet_42 ok_X11_isDay lk_X11_115.1 lk_X11_115.2 (hV := ((fX11_isDay_c (hS.le (by decide)) rfl).mono (by decide) (Nat.le_refl _) (Nat.le_refl _))) rfl (Nat.le_of_ble_eq_true rfl) rfl (Nat.le_of_ble_eq_true rfl) ?_
      exact V_iretb (b := (fX11_isDay v2)) dX11_mayBeSet_45 rfl rfl (q_tB h)
    · refine xif h (fun c h => ?_) (fun c2 h => ?_)
      · refine V_tabIn (tgt := 46) dX11_mayBeSet_1 c (by decide) (by decide) rfl (by decide) ?_
        refine V_iload_n dX11_mayBeSet_46 rfl (xm 2 rfl) ?_
        refine V_iconst dX11_mayBeSet_47 ?_
        refine V_sipush dX11_mayBeSet_48 (by decide) ?_
        refine T_callSI (host := "") dX11_mayBeSet_51 ok_X11_within lk_X11_60.1 lk_X11_60.2 (hV := ((fX11_within_c (hS.le (by decide)) rfl).mono (by decide) (Nat.le_refl _) (Nat.le_refl _))) rfl (Nat.le_of_ble_eq_true rfl) rfl (Nat.le_of_ble_eq_true rfl) ?_
        exact V_iretb (b := (fX11_within v2 0 999)) dX11_mayBeSet_54 rfl rfl (q_tB h)
      · refine xif h (fun c h => ?_) (fun c3 h => ?_)
        · refine V_tabIn (tgt := 55) dX11_mayBeSet_1 c (by decide) (by decide) rfl (by decide) ?_
          refine V_iload_n dX11_mayBeSet_55 rfl (xm 2 rfl) ?_
          refine V_iconst dX11_mayBeSet_56 ?_
          refine V_bipush dX11_mayBeSet_57 (by decide) ?_
          refine T_callSI (host := "") dX11_mayBeSet_59 ok_X11_within lk_X11_60.1 lk_X11_60.2 (hV := ((fX11_within_c (hS.le (by decide)) rfl).mono (by decide) (Nat.le_refl _) (Nat.le_refl _))) rfl (Nat.le_of_ble_eq_true rfl) rfl (Nat.le_of_ble_eq_true rfl) ?_
          exact V_iretb (b := (fX11_within v2 0 99)) dX11_mayBeSet_62 rfl rfl (q_tB h)
        · refine V_tabOut (tgt := 63) dX11_mayBeSet_1 (by omega) (by decide) ?_
          refine V_iconst dX11_mayBeSet_63 ?_
          exact V_iretb (b := false) dX11_mayBeSet_64 rfl (by decide) (q_tB h)
def fX11_set (M : xM) (v1 : Int) (v2 : Int) : Option (Bool × xM) := (if (fX11_mayBeSet M v1 v2) = true then (xj (fun (M1 : xM) => xb (fX0_forget M1) fun M4 => some (true, M4)) fun j2 => (if wr v1 = 0 then (xlet (xup M 1 1 v2) fun M5 => j2 M5) else (if wr v1 = 1 then (xlet (xup M 1 2 v2) fun M6 => xlet (xup M6 1 5 0) fun M7 => j2 M7) else (if wr v1 = 2 then (xlet (xup M 1 3 v2) fun M8 => j2 M8) else (xlet (xup M 1 4 v2) fun M9 => j2 M9))))) else some (false, M))
set_option maxRecDepth 20000 in
set_option maxHeartbeats 1000000 in
theorem fX11_set_c {S : xS} {kp : Option Nat} (hS : xSk kp 94 S) {M : xM} {v1 : Int} {v2 : Int} {E : Bool × xM} (h : fX11_set M v1 v2 = some E) :
    V Y_X11_set 3 0 0 0 (xarg 0 [vR (some 0), vI v1, vI v2]) [] S M (xqR S E.2 (some (vI (b2i E.1)))) := by
  unfold fX11_set at h
  show V Y_X11_set 3 0 0 0 [(0, vR (some 0)), (1, vI v1), (2, vI v2)] [] S M _
  refine V_aload_n dX11_set_0 rfl (xm 0 rfl) ?_
  refine V_iload_n dX11_set_1 rfl (xm 1 rfl) ?_
  refine V_iload_n dX11_set_2 rfl (xm 2 rfl) ?_
  refine T_callVI dX11_set_3 ok_X11_mayBeSet (by exact ⟨by decide, rfl⟩) lk_X11_96.1 lk_X11_96.2 (sk_0 hS (by decide)) (hV := ((fX11_mayBeSet_c (hS.le (by decide)) rfl).mono (by decide) (Nat.le_refl _) (Nat.le_refl _))) rfl (Nat.le_of_ble_eq_true rfl) rfl (Nat.le_of_ble_eq_true rfl) ?_
  refine V_if_neB (tgt := 11) dX11_set_6 (by decide) h (fun _ h => ?_) (fun _ h => ?_)
  · refine V_iload_n dX11_set_11 rfl (xm 1 rfl) ?_
    refine xjE h (fun j2 hj2 h => ?_)
    have kj2 : ∀ (M1 : xM), j2 M1 = some E → V Y_X11_set 3 0 0 89 [(0, vR (some 0))] [] S M1 (xqR S E.2 (some (vI (b2i E.1)))) := by
      intro M1 h
      rw [hj2] at h
      refine V_aload_n dX11_set_89 rfl (xm 0 rfl) ?_
      refine V_getR dX11_set_90 fl_X11_53 (sk_0 hS (by decide)) rfl ?_
      refine xbE h (fun M4 h3 h => ?_)
      refine T_callVv dX11_set_93 ok_X0_forget (by exact ⟨by decide, rfl⟩) lk_X11_67.1 lk_X11_67.2 (sk_79 hS (by decide)) (hV := ((fX0_forget_c (hS.le (by decide)) h3).mono (by decide) (Nat.le_refl _) (Nat.le_refl _))) rfl (Nat.le_of_ble_eq_true rfl) rfl (Nat.le_of_ble_eq_true rfl) ?_
      refine V_iconst dX11_set_96 ?_
      exact V_iretb (b := true) dX11_set_97 rfl (by decide) (q_wB h)
    refine xif h (fun c h => ?_) (fun c0 h => ?_)
    · refine V_tabIn (tgt := 40) dX11_set_12 c (by decide) (by decide) rfl (by decide) ?_
      refine V_aload_n dX11_set_40 rfl (xm 0 rfl) ?_
      refine V_getR dX11_set_41 fl_X11_12 (sk_0 hS (by decide)) rfl ?_
      refine V_iload_n dX11_set_44 rfl (xm 2 rfl) ?_
      refine T_putI (kI := 1) dX11_set_45 fp_X11_100 (sk_1 hS (by decide)) rfl rfl h (fun M5 h => ?_)
      refine V_goto (tgt := 89) dX11_set_48 (by decide) ?_
      refine V.pick [0] rfl ?_
      exact kj2 M5 h
    · refine xif h (fun c h => ?_) (fun c1 h => ?_)
      · refine V_tabIn (tgt := 51) dX11_set_12 c (by decide) (by decide) rfl (by decide) ?_
        refine V_aload_n dX11_set_51 rfl (xm 0 rfl) ?_
        refine V_getR dX11_set_52 fl_X11_12 (sk_0 hS (by decide)) rfl ?_
        refine V_iload_n dX11_set_55 rfl (xm 2 rfl) ?_
        refine T_putI (kI := 2) dX11_set_56 fp_X11_103 (sk_1 hS (by decide)) rfl rfl h (fun M6 h => ?_)
        refine V_aload_n dX11_set_59 rfl (xm 0 rfl) ?_
        refine V_getR dX11_set_60 fl_X11_12 (sk_0 hS (by decide)) rfl ?_
        refine V_iconst dX11_set_63 ?_
        refine T_putI (kI := 5) dX11_set_64 fp_X11_106 (sk_1 hS (by decide)) rfl rfl h (fun M7 h => ?_)
        refine V_goto (tgt := 89) dX11_set_67 (by decide) ?_
        refine V.pick [0] rfl ?_
        exact kj2 M7 h
      · refine xif h (fun c h => ?_) (fun c2 h => ?_)
        · refine V_tabIn (tgt := 70) dX11_set_12 c (by decide) (by decide) rfl (by decide) ?_
          refine V_aload_n dX11_set_70 rfl (xm 0 rfl) ?_
          refine V_getR dX11_set_71 fl_X11_12 (sk_0 hS (by decide)) rfl ?_
          refine V_iload_n dX11_set_74 rfl (xm 2 rfl) ?_
          refine T_putI (kI := 3) dX11_set_75 fp_X11_109 (sk_1 hS (by decide)) rfl rfl h (fun M8 h => ?_)
          refine V_goto (tgt := 89) dX11_set_78 (by decide) ?_
          refine V.pick [0] rfl ?_
          exact kj2 M8 h
        · refine V_tabOut (tgt := 81) dX11_set_12 (by omega) (by decide) ?_
          refine V_aload_n dX11_set_81 rfl (xm 0 rfl) ?_
          refine V_getR dX11_set_82 fl_X11_12 (sk_0 hS (by decide)) rfl ?_
          refine V_iload_n dX11_set_85 rfl (xm 2 rfl) ?_
          refine T_putI (kI := 4) dX11_set_86 fp_X11_112 (sk_1 hS (by decide)) rfl rfl h (fun M9 h => ?_)
          refine V.pick [0] rfl ?_
          exact kj2 M9 h
  · refine V_iconst dX11_set_9 ?_
    exact V_iretb (b := false) dX11_set_10 rfl (by decide) (q_wB h)
def fX7_hasRoom (M : xM)  : Bool := (if wr 400 < wr ((M 36 0) + 20) then false else true)
set_option maxRecDepth 20000 in
set_option maxHeartbeats 1000000 in
theorem fX7_hasRoom_c {S : xS} {kp : Option Nat} (hS : xSk kp 37 S) {M : xM} {E : Bool} (h : fX7_hasRoom M = E) :
    V Y_X7_hasRoom 0 0 0 0 (xarg 0 [vR (some 36)]) [] S M (xqR S M (some (vI (b2i E)))) := by
  unfold fX7_hasRoom at h
  show V Y_X7_hasRoom 0 0 0 0 [(0, vR (some 36))] [] S M _
  refine V_aload_n dX7_hasRoom_0 rfl (xm 0 rfl) ?_
  refine V_getI (kI := 0) dX7_hasRoom_1 fl_X7_36 (sk_36 hS (by decide)) rfl rfl ?_
  refine V_bipush dX7_hasRoom_4 (by decide) ?_
  refine V_iadd dX7_hasRoom_6 ?_
  refine V_sipush dX7_hasRoom_7 (by decide) ?_
  refine V_icmp_gt (tgt := 17) dX7_hasRoom_10 (by decide) h (fun _ h => ?_) (fun _ h => ?_)
  · refine V_iconst dX7_hasRoom_17 ?_
    exact V_iretb (b := false) dX7_hasRoom_18 rfl (by decide) (q_tB h)
  · refine V_iconst dX7_hasRoom_13 ?_
    refine V_goto (tgt := 18) dX7_hasRoom_14 (by decide) ?_
    exact V_iretb (b := true) dX7_hasRoom_18 rfl (by decide) (q_tB h)
def fX7_add_L3 (n : Nat) (M : xM) (v1 : Int) (v2 : Int) : Option (xM) := match n with
  | 0 => none
  | n + 1 => (if wr v2 < 0 then some M else (if wr (M 36 0) < wr 400 then (xwt M 37 400 (M 36 0) (xchr (xand (xshr v1 v2) 255)) fun M1 => xlet (xup M1 36 0 ((M1 36 0) + 1)) fun M2 => fX7_add_L3 n M2 v1 (v2 + (-8))) else some M))
set_option maxRecDepth 20000 in
set_option maxHeartbeats 1000000 in
theorem fX7_add_L3_c {S : xS} {kp : Option Nat} (hS : xSk kp 38 S) {Q : Option xV → xS → xM → Prop} :
    ∀ (n : Nat) (M : xM) (v1 : Int) (v2 : Int) {Mz : xM}, fX7_add_L3 n M v1 v2 = some Mz → V Y_X7_add 0 0 0 50 [] [] S Mz Q → V Y_X7_add 0 0 0 3 [(0, vR (some 36)), (1, vI v1), (2, vI v2)] [] S M Q := by
  intro n
  induction n with
  | zero =>
    intro M v1 v2 Mz h k
    cases h
  | succ n ih =>
    intro M v1 v2 Mz h k
    rw [fX7_add_L3] at h
    refine V_iload_n dX7_add_3 rfl (xm 2 rfl) ?_
    refine V_if_lt (tgt := 50) dX7_add_4 (by decide) h (fun _ h => ?_) (fun _ h => ?_)
    · cases h
      refine V.pick [] rfl ?_
      exact k
    · refine V_aload_n dX7_add_7 rfl (xm 0 rfl) ?_
      refine V_getI (kI := 0) dX7_add_8 fl_X7_36 (sk_36 hS (by decide)) rfl rfl ?_
      refine V_sipush dX7_add_11 (by decide) ?_
      refine V_icmp_ge (tgt := 50) dX7_add_14 (by decide) h (fun _ h => ?_) (fun _ h => ?_)
      · refine V_aload_n dX7_add_17 rfl (xm 0 rfl) ?_
        refine V_getR dX7_add_18 fl_X7_15 (sk_36 hS (by decide)) rfl ?_
        refine V_aload_n dX7_add_21 rfl (xm 0 rfl) ?_
        refine V_getI (kI := 0) dX7_add_22 fl_X7_36 (sk_36 hS (by decide)) rfl rfl ?_
        refine V_iload_n dX7_add_25 rfl (xm 1 rfl) ?_
        refine V_iload_n dX7_add_26 rfl (xm 2 rfl) ?_
        refine V_ishr dX7_add_27 ?_
        refine V_sipush dX7_add_28 (by decide) ?_
        refine V_iand dX7_add_31 ?_
        refine V_i2c dX7_add_32 ?_
        refine T_cast dX7_add_33 (sk_37 hS (by decide)) (xchr_chr _) rfl h (fun M1 h => ?_)
        refine V_aload_n dX7_add_34 rfl (xm 0 rfl) ?_
        refine V_dup dX7_add_35 rfl ?_
        refine V_getI (kI := 0) dX7_add_36 fl_X7_36 (sk_36 hS (by decide)) rfl rfl ?_
        refine V_iconst dX7_add_39 ?_
        refine V_iadd dX7_add_40 ?_
        refine T_putI (kI := 0) dX7_add_41 fp_X7_36 (sk_36 hS (by decide)) rfl rfl h (fun M2 h => ?_)
        refine V_iinc (ls' := [(2, vI (v2 + (-8))), (0, vR (some 36)), (1, vI v1)]) dX7_add_44 (xm 2 rfl) (by decide) rfl ?_
        refine V_goto (tgt := 3) dX7_add_47 (by decide) ?_
        refine V.pick [1, 2, 0] rfl ?_
        exact ih M2 v1 (v2 + (-8)) h k
      · cases h
        refine V.pick [] rfl ?_
        exact k
theorem fX7_add_L3_ci {S : xS} {kp : Option Nat} (hS : xSk kp 38 S) {Q : Option xV → xS → xM → Prop} {n : Nat} {M : xM} {v1 : Int} {v2 : Int} {Mz : xM} (hl : fX7_add_L3 n M v1 v2 = some Mz) (k : V Y_X7_add 0 0 0 50 [] [] S Mz Q) : V Y_X7_add 0 0 0 3 [(0, vR (some 36)), (1, vI v1), (2, vI v2)] [] S M Q := fX7_add_L3_c hS _ _ _ _ hl k
def fX7_add (M : xM) (v1 : Int) : Option xM := xb (fX7_add_L3 xfuel M v1 24) fun M3 => some M3
set_option maxRecDepth 20000 in
set_option maxHeartbeats 1000000 in
theorem fX7_add_c {S : xS} {kp : Option Nat} (hS : xSk kp 38 S) {M : xM} {v1 : Int} {E : xM} (h : fX7_add M v1 = some E) :
    V Y_X7_add 0 0 0 0 (xarg 0 [vR (some 36), vI v1]) [] S M (xqR S E none) := by
  unfold fX7_add at h
  show V Y_X7_add 0 0 0 0 [(0, vR (some 36)), (1, vI v1)] [] S M _
  refine V_bipush dX7_add_0 (by decide) ?_
  refine V_istore_n (ls' := [(2, vI 24), (0, vR (some 36)), (1, vI v1)]) dX7_add_2 rfl (by decide) rfl ?_
  refine xbE h (fun M3 h4 h => ?_)
  refine V.pick [1, 2, 0] rfl ?_
  refine fX7_add_L3_ci (hS.le (by decide)) h4 ?_
  exact V_ret dX7_add_50 rfl (q_v h)
def fX11_feed (M : xM) (v1 : Int) (v2 : Int) (v3 : Int) (v4 : Int) (v5 : Int) : Option (Int × xM) := (if (fX7_hasRoom M) = true then (xb (fX7_add M v1) fun M2 => xb (fX7_add M2 v2) fun M4 => xb (fX7_add M4 v3) fun M6 => xb (fX7_add M6 v4) fun M8 => xb (fX7_add M8 v5) fun M10 => some (M10 36 0, M10)) else some ((-1), M))
set_option maxRecDepth 20000 in
set_option maxHeartbeats 1000000 in
theorem fX11_feed_c {S : xS} {kp : Option Nat} (hS : xSk kp 94 S) {M : xM} {v1 : Int} {v2 : Int} {v3 : Int} {v4 : Int} {v5 : Int} {E : Int × xM} (h : fX11_feed M v1 v2 v3 v4 v5 = some E) :
    V Y_X11_feed 1 0 0 0 (xarg 0 [vR (some 0), vI v1, vI v2, vI v3, vI v4, vI v5]) [] S M (xqR S E.2 (some (vI E.1))) := by
  unfold fX11_feed at h
  show V Y_X11_feed 1 0 0 0 [(0, vR (some 0)), (1, vI v1), (2, vI v2), (3, vI v3), (4, vI v4), (5, vI v5)] [] S M _
  refine V_aload_n dX11_feed_0 rfl (xm 0 rfl) ?_
  refine V_getR dX11_feed_1 fl_X11_23 (sk_0 hS (by decide)) rfl ?_
  refine T_callVI dX11_feed_4 ok_X7_hasRoom (by exact ⟨by decide, rfl⟩) lk_X11_118.1 lk_X11_118.2 (sk_36 hS (by decide)) (hV := ((fX7_hasRoom_c (hS.le (by decide)) rfl).mono (by decide) (Nat.le_refl _) (Nat.le_refl _))) rfl (Nat.le_of_ble_eq_true rfl) rfl (Nat.le_of_ble_eq_true rfl) ?_
  refine V_if_neB (tgt := 12) dX11_feed_7 (by decide) h (fun _ h => ?_) (fun _ h => ?_)
  · refine V_aload_n dX11_feed_12 rfl (xm 0 rfl) ?_
    refine V_getR dX11_feed_13 fl_X11_23 (sk_0 hS (by decide)) rfl ?_
    refine V_iload_n dX11_feed_16 rfl (xm 1 rfl) ?_
    refine xbE h (fun M2 h1 h => ?_)
    refine T_callVv dX11_feed_17 ok_X7_add (by exact ⟨by decide, rfl⟩) lk_X11_122.1 lk_X11_122.2 (sk_36 hS (by decide)) (hV := ((fX7_add_c (hS.le (by decide)) h1).mono (by decide) (Nat.le_refl _) (Nat.le_refl _))) rfl (Nat.le_of_ble_eq_true rfl) rfl (Nat.le_of_ble_eq_true rfl) ?_
    refine V_aload_n dX11_feed_20 rfl (xm 0 rfl) ?_
    refine V_getR dX11_feed_21 fl_X11_23 (sk_0 hS (by decide)) rfl ?_
    refine V_iload_n dX11_feed_24 rfl (xm 2 rfl) ?_
    refine xbE h (fun M4 h3 h => ?_)
    refine T_callVv dX11_feed_25 ok_X7_add (by exact ⟨by decide, rfl⟩) lk_X11_122.1 lk_X11_122.2 (sk_36 hS (by decide)) (hV := ((fX7_add_c (hS.le (by decide)) h3).mono (by decide) (Nat.le_refl _) (Nat.le_refl _))) rfl (Nat.le_of_ble_eq_true rfl) rfl (Nat.le_of_ble_eq_true rfl) ?_
    refine V_aload_n dX11_feed_28 rfl (xm 0 rfl) ?_
    refine V_getR dX11_feed_29 fl_X11_23 (sk_0 hS (by decide)) rfl ?_
    refine V_iload_n dX11_feed_32 rfl (xm 3 rfl) ?_
    refine xbE h (fun M6 h5 h => ?_)
    refine T_callVv dX11_feed_33 ok_X7_add (by exact ⟨by decide, rfl⟩) lk_X11_122.1 lk_X11_122.2 (sk_36 hS (by decide)) (hV := ((fX7_add_c (hS.le (by decide)) h5).mono (by decide) (Nat.le_refl _) (Nat.le_refl _))) rfl (Nat.le_of_ble_eq_true rfl) rfl (Nat.le_of_ble_eq_true rfl) ?_
    refine V_aload_n dX11_feed_36 rfl (xm 0 rfl) ?_
    refine V_getR dX11_feed_37 fl_X11_23 (sk_0 hS (by decide)) rfl ?_
    refine V_iload dX11_feed_40 (xm 4 rfl) ?_
    refine xbE h (fun M8 h7 h => ?_)
    refine T_callVv dX11_feed_42 ok_X7_add (by exact ⟨by decide, rfl⟩) lk_X11_122.1 lk_X11_122.2 (sk_36 hS (by decide)) (hV := ((fX7_add_c (hS.le (by decide)) h7).mono (by decide) (Nat.le_refl _) (Nat.le_refl _))) rfl (Nat.le_of_ble_eq_true rfl) rfl (Nat.le_of_ble_eq_true rfl) ?_
    refine V_aload_n dX11_feed_45 rfl (xm 0 rfl) ?_
    refine V_getR dX11_feed_46 fl_X11_23 (sk_0 hS (by decide)) rfl ?_
    refine V_iload dX11_feed_49 (xm 5 rfl) ?_
    refine xbE h (fun M10 h9 h => ?_)
    refine T_callVv dX11_feed_51 ok_X7_add (by exact ⟨by decide, rfl⟩) lk_X11_122.1 lk_X11_122.2 (sk_36 hS (by decide)) (hV := ((fX7_add_c (hS.le (by decide)) h9).mono (by decide) (Nat.le_refl _) (Nat.le_refl _))) rfl (Nat.le_of_ble_eq_true rfl) rfl (Nat.le_of_ble_eq_true rfl) ?_
    refine V_aload_n dX11_feed_54 rfl (xm 0 rfl) ?_
    refine V_getR dX11_feed_55 fl_X11_23 (sk_0 hS (by decide)) rfl ?_
    refine V_getI (kI := 0) dX11_feed_58 fl_X11_125 (sk_36 hS (by decide)) rfl rfl ?_
    exact V_ireti dX11_feed_61 rfl (q_wI h)
  · refine V_iconst dX11_feed_10 ?_
    exact V_ireti dX11_feed_11 rfl (q_wI h)
def fX11_end (M : xM) (v1 : Int) : Option (Bool × xM) := (if (fX11_within v1 0 (M 36 0)) = true then (xlet (xup M 36 0 v1) fun M1 => some (true, M1)) else some (false, M))
set_option maxRecDepth 20000 in
set_option maxHeartbeats 1000000 in
theorem fX11_end_c {S : xS} {kp : Option Nat} (hS : xSk kp 94 S) {M : xM} {v1 : Int} {E : Bool × xM} (h : fX11_end M v1 = some E) :
    V Y_X11_end 1 0 0 0 (xarg 0 [vR (some 0), vI v1]) [] S M (xqR S E.2 (some (vI (b2i E.1)))) := by
  unfold fX11_end at h
  show V Y_X11_end 1 0 0 0 [(0, vR (some 0)), (1, vI v1)] [] S M _
  refine V_iload_n dX11_end_0 rfl (xm 1 rfl) ?_
  refine V_iconst dX11_end_1 ?_
  refine V_aload_n dX11_end_2 rfl (xm 0 rfl) ?_
  refine V_getR dX11_end_3 fl_X11_23 (sk_0 hS (by decide)) rfl ?_
  refine V_getI (kI := 0) dX11_end_6 fl_X11_125 (sk_36 hS (by decide)) rfl rfl ?_
  refine T_callSI (host := "") dX11_end_9 ok_X11_within lk_X11_60.1 lk_X11_60.2 (hV := ((fX11_within_c (hS.le (by decide)) rfl).mono (by decide) (Nat.le_refl _) (Nat.le_refl _))) rfl (Nat.le_of_ble_eq_true rfl) rfl (Nat.le_of_ble_eq_true rfl) ?_
  refine V_if_neB (tgt := 17) dX11_end_12 (by decide) h (fun _ h => ?_) (fun _ h => ?_)
  · refine V_aload_n dX11_end_17 rfl (xm 0 rfl) ?_
    refine V_getR dX11_end_18 fl_X11_23 (sk_0 hS (by decide)) rfl ?_
    refine V_iload_n dX11_end_21 rfl (xm 1 rfl) ?_
    refine T_putI (kI := 0) dX11_end_22 fp_X11_125 (sk_36 hS (by decide)) rfl rfl h (fun M1 h => ?_)
    refine V_iconst dX11_end_25 ?_
    exact V_iretb (b := true) dX11_end_26 rfl (by decide) (q_wB h)
  · refine V_iconst dX11_end_15 ?_
    exact V_iretb (b := false) dX11_end_16 rfl (by decide) (q_wB h)
def fX7_isLetter (v0 : Int) : Bool := xj (fun (_ : Unit) => (if wr v0 < wr 65 then false else (if wr 90 < wr v0 then false else true))) fun j1 => (if wr v0 < wr 97 then j1 () else (if wr 122 < wr v0 then j1 () else true))
set_option maxRecDepth 20000 in
set_option maxHeartbeats 1000000 in
theorem fX7_isLetter_c {S : xS} {kp : Option Nat} (hS : xSk kp 0 S) {M : xM} {v0 : Int} {E : Bool} (h : fX7_isLetter v0 = E) :
    V Y_X7_isLetter 0 0 0 0 (xarg 0 [vI v0]) [] S M (xqR S M (some (vI (b2i E)))) := by
  unfold fX7_isLetter at h
  show V Y_X7_isLetter 0 0 0 0 [(0, vI v0)] [] S M _
  refine V_iload_n dX7_isLetter_0 rfl (xm 0 rfl) ?_
  refine V_bipush dX7_isLetter_1 (by decide) ?_
  refine xjE h (fun j1 hj1 h => ?_)
  have kj1 : ∀ (u : Unit), j1 u = E → V Y_X7_isLetter 0 0 0 12 [(0, vI v0)] [] S M (xqR S M (some (vI (b2i E)))) := by
    intro u h
    rw [hj1] at h
    refine V_iload_n dX7_isLetter_12 rfl (xm 0 rfl) ?_
    refine V_bipush dX7_isLetter_13 (by decide) ?_
    refine V_icmp_lt (tgt := 28) dX7_isLetter_15 (by decide) h (fun _ h => ?_) (fun _ h => ?_)
    · refine V_iconst dX7_isLetter_28 ?_
      exact V_iretb (b := false) dX7_isLetter_29 rfl (by decide) (q_tB h)
    · refine V_iload_n dX7_isLetter_18 rfl (xm 0 rfl) ?_
      refine V_bipush dX7_isLetter_19 (by decide) ?_
      refine V_icmp_gt (tgt := 28) dX7_isLetter_21 (by decide) h (fun _ h => ?_) (fun _ h => ?_)
      · refine V_iconst dX7_isLetter_28 ?_
        exact V_iretb (b := false) dX7_isLetter_29 rfl (by decide) (q_tB h)
      · refine V_iconst dX7_isLetter_24 ?_
        refine V_goto (tgt := 29) dX7_isLetter_25 (by decide) ?_
        exact V_iretb (b := true) dX7_isLetter_29 rfl (by decide) (q_tB h)
  refine V_icmp_lt (tgt := 12) dX7_isLetter_3 (by decide) h (fun _ h => ?_) (fun _ h => ?_)
  · refine V.pick [0] rfl ?_
    exact kj1 () h
  · refine V_iload_n dX7_isLetter_6 rfl (xm 0 rfl) ?_
    refine V_bipush dX7_isLetter_7 (by decide) ?_
    refine V_icmp_le (tgt := 24) dX7_isLetter_9 (by decide) h (fun _ h => ?_) (fun _ h => ?_)
    · refine V.pick [0] rfl ?_
      exact kj1 () h
    · refine V_iconst dX7_isLetter_24 ?_
      refine V_goto (tgt := 29) dX7_isLetter_25 (by decide) ?_
      exact V_iretb (b := true) dX7_isLetter_29 rfl (by decide) (q_tB h)
def fX7_splitWord_L2 (n : Nat) (M : xM) (v1 : Int) (v2 : Int) : Option (Int) := match n with
  | 0 => none
  | n + 1 => (if wr v2 < wr (M 36 0) then (xrd M 37 400 v2 fun r1 => (if (fX7_isLetter r1) = true then fX7_splitWord_L2 n M v1 (v2 + 1) else some v2)) else some v2)
set_option maxRecDepth 20000 in
set_option maxHeartbeats 1000000 in
theorem fX7_splitWord_L2_c {S : xS} {kp : Option Nat} (hS : xSk kp 38 S) {Q : Option xV → xS → xM → Prop} :
    ∀ (n : Nat) (M : xM) (v1 : Int) (v2 : Int) {x2 : Int}, fX7_splitWord_L2 n M v1 v2 = some x2 → V Y_X7_splitWord 6 0 0 28 [(0, vR (some 36)), (1, vI v1), (2, vI x2)] [] S M Q → V Y_X7_splitWord 6 0 0 2 [(0, vR (some 36)), (1, vI v1), (2, vI v2)] [] S M Q := by
  intro n
  induction n with
  | zero =>
    intro M v1 v2 x2 h k
    cases h
  | succ n ih =>
    intro M v1 v2 x2 h k
    rw [fX7_splitWord_L2] at h
    refine V_iload_n dX7_splitWord_2 rfl (xm 2 rfl) ?_
    refine V_aload_n dX7_splitWord_3 rfl (xm 0 rfl) ?_
    refine V_getI (kI := 0) dX7_splitWord_4 fl_X7_36 (sk_36 hS (by decide)) rfl rfl ?_
    refine V_icmp_ge (tgt := 28) dX7_splitWord_7 (by decide) h (fun _ h => ?_) (fun _ h => ?_)
    · refine V_aload_n dX7_splitWord_10 rfl (xm 0 rfl) ?_
      refine V_getR dX7_splitWord_11 fl_X7_15 (sk_36 hS (by decide)) rfl ?_
      refine V_iload_n dX7_splitWord_14 rfl (xm 2 rfl) ?_
      refine T_cald dX7_splitWord_15 (sk_37 hS (by decide)) rfl h (fun r1 h => ?_)
      refine T_callSI (host := "") dX7_splitWord_16 ok_X7_isLetter lk_X7_98.1 lk_X7_98.2 (hV := ((fX7_isLetter_c (hS.le (by decide)) rfl).mono (by decide) (Nat.le_refl _) (Nat.le_refl _))) rfl (Nat.le_of_ble_eq_true rfl) rfl (Nat.le_of_ble_eq_true rfl) ?_
      refine V_if_eqB (tgt := 28) dX7_splitWord_19 (by decide) h (fun _ h => ?_) (fun _ h => ?_)
      · refine V_iinc (ls' := [(2, vI (v2 + 1)), (0, vR (some 36)), (1, vI v1)]) dX7_splitWord_22 (xm 2 rfl) (by decide) rfl ?_
        refine V_goto (tgt := 2) dX7_splitWord_25 (by decide) ?_
        refine V.pick [1, 2, 0] rfl ?_
        exact ih M v1 (v2 + 1) h k
      · cases h
        refine V.pick [0, 1, 2] rfl ?_
        exact k
    · cases h
      refine V.pick [0, 1, 2] rfl ?_
      exact k
theorem fX7_splitWord_L2_ci {S : xS} {kp : Option Nat} (hS : xSk kp 38 S) {Q : Option xV → xS → xM → Prop} {n : Nat} {M : xM} {v1 : Int} {v2 : Int} {x2 : Int} (hl : fX7_splitWord_L2 n M v1 v2 = some x2) (k : V Y_X7_splitWord 6 0 0 28 [(0, vR (some 36)), (1, vI v1), (2, vI x2)] [] S M Q) : V Y_X7_splitWord 6 0 0 2 [(0, vR (some 36)), (1, vI v1), (2, vI v2)] [] S M Q := fX7_splitWord_L2_c hS _ _ _ _ hl k
def fX7_isKeyword_L3 (n : Nat) (M : xM) (v1 : Int) (v2 : Int) (v3 : Int) (v4 : Int) : Option ((Unit) ⊕ (Bool)) := match n with
  | 0 => none
  | n + 1 => (if wr v4 < wr v2 then (xb (fJ0_charAt_5068e 0 v4) fun r2 => xrd M 37 400 ((v3 + v4) - v1) fun r3 => (if wr r2 = wr r3 then fX7_isKeyword_L3 n M v1 v2 v3 (v4 + 1) else some (.inr false))) else some (.inl ()))
set_option maxRecDepth 20000 in
set_option maxHeartbeats 1000000 in
theorem fX7_isKeyword_L3_c {S : xS} {kp : Option Nat} (hS : xSk kp 38 S) {Q : Option xV → xS → xM → Prop} :
    ∀ (n : Nat) (M : xM) (v1 : Int) (v2 : Int) (v3 : Int) (v4 : Int) {E : (Unit) ⊕ (Bool)}, fX7_isKeyword_L3 n M v1 v2 v3 v4 = some E → (E = .inl () → V Y_X7_isKeyword 4 0 0 38 [] [] S M Q) → (∀ (w : Bool), E = .inr w → Q (some (vI (b2i w))) S M) → V Y_X7_isKeyword 4 0 0 3 [(0, vR (some 36)), (1, vI v1), (2, vI v2), (3, vI v3), (4, vI v4)] [] S M Q := by
  intro n
  induction n with
  | zero =>
    intro M v1 v2 v3 v4 E h k kr
    cases h
  | succ n ih =>
    intro M v1 v2 v3 v4 E h k kr
    rw [fX7_isKeyword_L3] at h
    refine V_iload dX7_isKeyword_3 (xm 4 rfl) ?_
    refine V_iload_n dX7_isKeyword_5 rfl (xm 2 rfl) ?_
    refine V_icmp_ge (tgt := 38) dX7_isKeyword_6 (by decide) h (fun _ h => ?_) (fun _ h => ?_)
    · refine V_ldcS (tx := "angle sun wind current month day turned worth when or and not ") (k := 0) dX7_isKeyword_9 (by decide +kernel) ?_
      refine V_iload dX7_isKeyword_11 (xm 4 rfl) ?_
      refine xbE h (fun r2 h1 h => ?_)
      refine T_callVSI (k := 0) dX7_isKeyword_13 ok_J0_charAt_5068e lk_X7_132.1 lk_X7_132.2 (by decide) (hV := ((fJ0_charAt_5068e_c (hS.le (by decide)) (by decide) h1).mono (by decide) (Nat.le_refl _) (Nat.le_refl _))) rfl rfl (Nat.le_of_ble_eq_true rfl) rfl (Nat.le_of_ble_eq_true rfl) ?_
      refine V_aload_n dX7_isKeyword_16 rfl (xm 0 rfl) ?_
      refine V_getR dX7_isKeyword_17 fl_X7_15 (sk_36 hS (by decide)) rfl ?_
      refine V_iload_n dX7_isKeyword_20 rfl (xm 3 rfl) ?_
      refine V_iload dX7_isKeyword_21 (xm 4 rfl) ?_
      refine V_iadd dX7_isKeyword_23 ?_
      refine V_iload_n dX7_isKeyword_24 rfl (xm 1 rfl) ?_
      refine V_isub dX7_isKeyword_25 ?_
      refine T_cald dX7_isKeyword_26 (sk_37 hS (by decide)) rfl h (fun r3 h => ?_)
      refine V_icmp_eq (tgt := 32) dX7_isKeyword_27 (by decide) h (fun _ h => ?_) (fun _ h => ?_)
      · refine V_iinc (ls' := [(4, vI (v4 + 1)), (0, vR (some 36)), (1, vI v1), (2, vI v2), (3, vI v3)]) dX7_isKeyword_32 (xm 4 rfl) (by decide) rfl ?_
        refine V_goto (tgt := 3) dX7_isKeyword_35 (by decide) ?_
        refine V.pick [1, 2, 3, 4, 0] rfl ?_
        exact ih M v1 v2 v3 (v4 + 1) h k kr
      · refine V_iconst dX7_isKeyword_30 ?_
        exact V_iretb (b := false) dX7_isKeyword_31 rfl (by decide) (kr false (Option.some.inj h).symm)
    · refine V.pick [] rfl ?_
      exact k  (Option.some.inj h).symm
theorem fX7_isKeyword_L3_ci {S : xS} {kp : Option Nat} (hS : xSk kp 38 S) {Q : Option xV → xS → xM → Prop} {n : Nat} {M : xM} {v1 : Int} {v2 : Int} {v3 : Int} {v4 : Int} (hl : fX7_isKeyword_L3 n M v1 v2 v3 v4 = some (.inl ())) (k : V Y_X7_isKeyword 4 0 0 38 [] [] S M Q) : V Y_X7_isKeyword 4 0 0 3 [(0, vR (some 36)), (1, vI v1), (2, vI v2), (3, vI v3), (4, vI v4)] [] S M Q := fX7_isKeyword_L3_c hS _ _ _ _ _ _ hl (fun  e => by cases e; exact k) (fun _ e => by cases e)
theorem fX7_isKeyword_L3_cr {S : xS} {kp : Option Nat} (hS : xSk kp 38 S) {Q : Option xV → xS → xM → Prop} {n : Nat} {M : xM} {v1 : Int} {v2 : Int} {v3 : Int} {v4 : Int} {w : Bool} (hl : fX7_isKeyword_L3 n M v1 v2 v3 v4 = some (.inr w)) (k : Q (some (vI (b2i w))) S M) : V Y_X7_isKeyword 4 0 0 3 [(0, vR (some 36)), (1, vI v1), (2, vI v2), (3, vI v3), (4, vI v4)] [] S M Q := fX7_isKeyword_L3_c hS _ _ _ _ _ _ hl (fun  e => by cases e) (fun _ e => by cases e; exact k)
def fX7_isKeyword (M : xM) (v1 : Int) (v2 : Int) (v3 : Int) : Option Bool := xs0 (fX7_isKeyword_L3 xfuel M v1 v2 v3 v1) (some true) (fun r => some r)
set_option maxRecDepth 20000 in
set_option maxHeartbeats 1000000 in
theorem fX7_isKeyword_c {S : xS} {kp : Option Nat} (hS : xSk kp 38 S) {M : xM} {v1 : Int} {v2 : Int} {v3 : Int} {E : Bool} (h : fX7_isKeyword M v1 v2 v3 = some E) :
    V Y_X7_isKeyword 4 0 0 0 (xarg 0 [vR (some 36), vI v1, vI v2, vI v3]) [] S M (xqR S M (some (vI (b2i E)))) := by
  unfold fX7_isKeyword at h
  show V Y_X7_isKeyword 4 0 0 0 [(0, vR (some 36)), (1, vI v1), (2, vI v2), (3, vI v3)] [] S M _
  refine V_iload_n dX7_isKeyword_0 rfl (xm 1 rfl) ?_
  refine V_istore (ls' := [(4, vI v1), (0, vR (some 36)), (1, vI v1), (2, vI v2), (3, vI v3)]) dX7_isKeyword_1 (by decide) rfl ?_
  refine xs0E h (fun  h4 h => ?_) (fun r h4 h => ?_)
  · refine V.pick [1, 2, 3, 4, 0] rfl ?_
    refine fX7_isKeyword_L3_ci (hS.le (by decide)) h4 ?_
    refine V_iconst dX7_isKeyword_38 ?_
    exact V_iretb (b := true) dX7_isKeyword_39 rfl (by decide) (q_pB h)
  · refine V.pick [1, 2, 3, 4, 0] rfl ?_
    refine fX7_isKeyword_L3_cr (hS.le (by decide)) h4 ?_
    exact q_pB h
def fX7_keywordOf_L8 (n : Nat) (M : xM) (v1 : Int) (v2 : Int) (v3 : Int) (v4 : Int) (v5 : Int) : Option ((Unit) ⊕ (Int)) := match n with
  | 0 => none
  | n + 1 => (if wr v5 < wr (fJ0_length_8abf5 0) then (xb (fJ0_charAt_5068e 0 v5) fun r2 => (if wr r2 = wr 32 then (xj (fun (_ : Unit) => fX7_keywordOf_L8 n M v1 v2 (v3 + 1) (v5 + 1) (v5 + 1)) fun j3 => (if wr (v5 - v4) = wr (v2 - v1) then (xb (fX7_isKeyword M v4 v5 v1) fun r5 => (if r5 = true then some (.inr v3) else j3 ())) else j3 ())) else fX7_keywordOf_L8 n M v1 v2 v3 v4 (v5 + 1))) else some (.inl ()))
set_option maxRecDepth 20000 in
set_option maxHeartbeats 1000000 in
theorem fX7_keywordOf_L8_c {S : xS} {kp : Option Nat} (hS : xSk kp 38 S) {Q : Option xV → xS → xM → Prop} :
    ∀ (n : Nat) (M : xM) (v1 : Int) (v2 : Int) (v3 : Int) (v4 : Int) (v5 : Int) {E : (Unit) ⊕ (Int)}, fX7_keywordOf_L8 n M v1 v2 v3 v4 v5 = some E → (E = .inl () → V Y_X7_keywordOf 5 0 0 70 [] [] S M Q) → (∀ (w : Int), E = .inr w → Q (some (vI w)) S M) → V Y_X7_keywordOf 5 0 0 8 [(0, vR (some 36)), (1, vI v1), (2, vI v2), (3, vI v3), (4, vI v4), (5, vI v5)] [] S M Q := by
  intro n
  induction n with
  | zero =>
    intro M v1 v2 v3 v4 v5 E h k kr
    cases h
  | succ n ih =>
    intro M v1 v2 v3 v4 v5 E h k kr
    rw [fX7_keywordOf_L8] at h
    refine V_iload dX7_keywordOf_8 (xm 5 rfl) ?_
    refine V_ldcS (tx := "angle sun wind current month day turned worth when or and not ") (k := 0) dX7_keywordOf_10 (by decide +kernel) ?_
    refine T_callVSI (k := 0) dX7_keywordOf_12 ok_J0_length_8abf5 lk_X7_129.1 lk_X7_129.2 (by decide) (hV := ((fJ0_length_8abf5_c (hS.le (by decide)) (by decide) rfl).mono (by decide) (Nat.le_refl _) (Nat.le_refl _))) rfl rfl (Nat.le_of_ble_eq_true rfl) rfl (Nat.le_of_ble_eq_true rfl) ?_
    refine V_icmp_ge (tgt := 70) dX7_keywordOf_15 (by decide) h (fun _ h => ?_) (fun _ h => ?_)
    · refine V_ldcS (tx := "angle sun wind current month day turned worth when or and not ") (k := 0) dX7_keywordOf_18 (by decide +kernel) ?_
      refine V_iload dX7_keywordOf_20 (xm 5 rfl) ?_
      refine xbE h (fun r2 h1 h => ?_)
      refine T_callVSI (k := 0) dX7_keywordOf_22 ok_J0_charAt_5068e lk_X7_132.1 lk_X7_132.2 (by decide) (hV := ((fJ0_charAt_5068e_c (hS.le (by decide)) (by decide) h1).mono (by decide) (Nat.le_refl _) (Nat.le_refl _))) rfl rfl (Nat.le_of_ble_eq_true rfl) rfl (Nat.le_of_ble_eq_true rfl) ?_
      refine V_bipush dX7_keywordOf_25 (by decide) ?_
      refine V_icmp_ne (tgt := 64) dX7_keywordOf_27 (by decide) h (fun _ h => ?_) (fun _ h => ?_)
      · refine V_iload dX7_keywordOf_30 (xm 5 rfl) ?_
        refine V_iload dX7_keywordOf_32 (xm 4 rfl) ?_
        refine V_isub dX7_keywordOf_34 ?_
        refine V_iload_n dX7_keywordOf_35 rfl (xm 2 rfl) ?_
        refine V_iload_n dX7_keywordOf_36 rfl (xm 1 rfl) ?_
        refine V_isub dX7_keywordOf_37 ?_
        refine xjE h (fun j3 hj3 h => ?_)
        have kj3 : ∀ (u : Unit), j3 u = some E → V Y_X7_keywordOf 5 0 0 55 [(0, vR (some 36)), (1, vI v1), (2, vI v2), (3, vI v3), (5, vI v5)] [] S M Q := by
          intro u h
          rw [hj3] at h
          refine V_iinc (ls' := [(3, vI (v3 + 1)), (0, vR (some 36)), (1, vI v1), (2, vI v2), (5, vI v5)]) dX7_keywordOf_55 (xm 3 rfl) (by decide) rfl ?_
          refine V_iload dX7_keywordOf_58 (xm 4 rfl) ?_
          refine V_iconst dX7_keywordOf_60 ?_
          refine V_iadd dX7_keywordOf_61 ?_
          refine V_istore (ls' := [(4, vI (v5 + 1)), (3, vI (v3 + 1)), (0, vR (some 36)), (1, vI v1), (2, vI v2), (5, vI v5)]) dX7_keywordOf_62 (by decide) rfl ?_
          refine V_iinc (ls' := [(5, vI (v5 + 1)), (4, vI (v5 + 1)), (3, vI (v3 + 1)), (0, vR (some 36)), (1, vI v1), (2, vI v2)]) dX7_keywordOf_64 (xm 5 rfl) (by decide) rfl ?_
          refine V_goto (tgt := 8) dX7_keywordOf_67 (by decide) ?_
          refine V.pick [3, 4, 5, 2, 1, 0] rfl ?_
          exact ih M v1 v2 (v3 + 1) (v5 + 1) (v5 + 1) h k kr
        refine V_icmp_ne (tgt := 55) dX7_keywordOf_38 (by decide) h (fun _ h => ?_) (fun _ h => ?_)
        · refine V_aload_n dX7_keywordOf_41 rfl (xm 0 rfl) ?_
          refine V_iload dX7_keywordOf_42 (xm 4 rfl) ?_
          refine V_iload dX7_keywordOf_44 (xm 5 rfl) ?_
          refine V_iload_n dX7_keywordOf_46 rfl (xm 1 rfl) ?_
          refine xbE h (fun r5 h4 h => ?_)
          refine T_callVI dX7_keywordOf_47 ok_X7_isKeyword (by exact ⟨by decide, rfl⟩) lk_X7_136.1 lk_X7_136.2 (sk_36 hS (by decide)) (hV := ((fX7_isKeyword_c (hS.le (by decide)) h4).mono (by decide) (Nat.le_refl _) (Nat.le_refl _))) rfl (Nat.le_of_ble_eq_true rfl) rfl (Nat.le_of_ble_eq_true rfl) ?_
          refine V_if_eqB (tgt := 55) dX7_keywordOf_50 (by decide) h (fun _ h => ?_) (fun _ h => ?_)
          · refine V_iload_n dX7_keywordOf_53 rfl (xm 3 rfl) ?_
            exact V_ireti dX7_keywordOf_54 rfl (kr v3 (Option.some.inj h).symm)
          · refine V.pick [0, 1, 2, 3, 5] rfl ?_
            exact kj3 () h
        · refine V.pick [0, 1, 2, 3, 5] rfl ?_
          exact kj3 () h
      · refine V_iinc (ls' := [(5, vI (v5 + 1)), (0, vR (some 36)), (1, vI v1), (2, vI v2), (3, vI v3), (4, vI v4)]) dX7_keywordOf_64 (xm 5 rfl) (by decide) rfl ?_
        refine V_goto (tgt := 8) dX7_keywordOf_67 (by decide) ?_
        refine V.pick [1, 2, 3, 4, 5, 0] rfl ?_
        exact ih M v1 v2 v3 v4 (v5 + 1) h k kr
    · refine V.pick [] rfl ?_
      exact k  (Option.some.inj h).symm
theorem fX7_keywordOf_L8_ci {S : xS} {kp : Option Nat} (hS : xSk kp 38 S) {Q : Option xV → xS → xM → Prop} {n : Nat} {M : xM} {v1 : Int} {v2 : Int} {v3 : Int} {v4 : Int} {v5 : Int} (hl : fX7_keywordOf_L8 n M v1 v2 v3 v4 v5 = some (.inl ())) (k : V Y_X7_keywordOf 5 0 0 70 [] [] S M Q) : V Y_X7_keywordOf 5 0 0 8 [(0, vR (some 36)), (1, vI v1), (2, vI v2), (3, vI v3), (4, vI v4), (5, vI v5)] [] S M Q := fX7_keywordOf_L8_c hS _ _ _ _ _ _ _ hl (fun  e => by cases e; exact k) (fun _ e => by cases e)
theorem fX7_keywordOf_L8_cr {S : xS} {kp : Option Nat} (hS : xSk kp 38 S) {Q : Option xV → xS → xM → Prop} {n : Nat} {M : xM} {v1 : Int} {v2 : Int} {v3 : Int} {v4 : Int} {v5 : Int} {w : Int} (hl : fX7_keywordOf_L8 n M v1 v2 v3 v4 v5 = some (.inr w)) (k : Q (some (vI w)) S M) : V Y_X7_keywordOf 5 0 0 8 [(0, vR (some 36)), (1, vI v1), (2, vI v2), (3, vI v3), (4, vI v4), (5, vI v5)] [] S M Q := fX7_keywordOf_L8_c hS _ _ _ _ _ _ _ hl (fun  e => by cases e) (fun _ e => by cases e; exact k)
def fX7_keywordOf (M : xM) (v1 : Int) (v2 : Int) : Option Int := xs0 (fX7_keywordOf_L8 xfuel M v1 v2 0 0 0) (some 24) (fun r => some r)
set_option maxRecDepth 20000 in
set_option maxHeartbeats 1000000 in
theorem fX7_keywordOf_c {S : xS} {kp : Option Nat} (hS : xSk kp 38 S) {M : xM} {v1 : Int} {v2 : Int} {E : Int} (h : fX7_keywordOf M v1 v2 = some E) :
    V Y_X7_keywordOf 5 0 0 0 (xarg 0 [vR (some 36), vI v1, vI v2]) [] S M (xqR S M (some (vI E))) := by
  unfold fX7_keywordOf at h
  show V Y_X7_keywordOf 5 0 0 0 [(0, vR (some 36)), (1, vI v1), (2, vI v2)] [] S M _
  refine V_iconst dX7_keywordOf_0 ?_
  refine V_istore_n (ls' := [(3, vI 0), (0, vR (some 36)), (1, vI v1), (2, vI v2)]) dX7_keywordOf_1 rfl (by decide) rfl ?_
  refine V_iconst dX7_keywordOf_2 ?_
  refine V_istore (ls' := [(4, vI 0), (3, vI 0), (0, vR (some 36)), (1, vI v1), (2, vI v2)]) dX7_keywordOf_3 (by decide) rfl ?_
  refine V_iconst dX7_keywordOf_5 ?_
  refine V_istore (ls' := [(5, vI 0), (4, vI 0), (3, vI 0), (0, vR (some 36)), (1, vI v1), (2, vI v2)]) dX7_keywordOf_6 (by decide) rfl ?_
  refine xs0E h (fun  h6 h => ?_) (fun r h6 h => ?_)
  · refine V.pick [3, 4, 5, 2, 1, 0] rfl ?_
    refine fX7_keywordOf_L8_ci (hS.le (by decide)) h6 ?_
    refine V_bipush dX7_keywordOf_70 (by decide) ?_
    exact V_ireti dX7_keywordOf_72 rfl (q_pI h)
  · refine V.pick [3, 4, 5, 2, 1, 0] rfl ?_
    refine fX7_keywordOf_L8_cr (hS.le (by decide)) h6 ?_
    exact q_pI h
