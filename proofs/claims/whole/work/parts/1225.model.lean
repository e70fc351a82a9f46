def fX11_log (M : xM) (v1 : Int) (v2 : Int) (v3 : Int) : Option (Bool × xM) := (if (fX11_isDay v1) = true then (if (fX4_has M v2) = true then (if (fX1_hasAngle M v3) = true then (if wr (M 23 0) < wr 40 then (xb (fX2_take M v1 v2 v3) fun M2 => some (true, M2)) else some (false, M)) else some (false, M)) else some (false, M)) else some (false, M))
set_option maxRecDepth 20000 in
set_option maxHeartbeats 1000000 in
theorem fX11_log_c {S : xS} {kp : Option Nat} (hS : xSk kp 94 S) {M : xM} {v1 : Int} {v2 : Int} {v3 : Int} {E : Bool × xM} (h : fX11_log M v1 v2 v3 = some E) :
    V Y_X11_log 2 0 0 0 (xarg 0 [vR (some 0), vI v1, vI v2, vI v3]) [] S M (xqR S E.2 (some (vI (b2i E.1)))) := by
  unfold fX11_log at h
  show V Y_X11_log 2 0 0 0 [(0, vR (some 0)), (1, vI v1), (2, vI v2), (3, vI v3)] [] S M _
  refine V_iload_n dX11_log_0 rfl (xm 1 rfl) ?_
  refine T_callSI (host := "") dX11_log_1 ok_X11_isDay lk_X11_115.1 lk_X11_115.2 (hV := ((fX11_isDay_c (hS.le (by decide)) rfl).mono (by decide) (Nat.le_refl _) (Nat.le_refl _))) rfl (Nat.le_of_ble_eq_true rfl) rfl (Nat.le_of_ble_eq_true rfl) ?_
  refine V_if_eqB (tgt := 47) dX11_log_4 (by decide) h (fun _ h => ?_) (fun _ h => ?_)
  · refine V_aload_n dX11_log_7 rfl (xm 0 rfl) ?_
    refine V_getR dX11_log_8 fl_X11_12 (sk_0 hS (by decide)) rfl ?_
    refine V_getR dX11_log_11 fl_X11_82 (sk_1 hS (by decide)) rfl ?_
    refine V_iload_n dX11_log_14 rfl (xm 2 rfl) ?_
    refine T_callVI dX11_log_15 ok_X4_has (by exact ⟨by decide, rfl⟩) lk_X11_145.1 lk_X11_145.2 (sk_5 hS (by decide)) (hV := ((fX4_has_c (hS.le (by decide)) rfl).mono (by decide) (Nat.le_refl _) (Nat.le_refl _))) rfl (Nat.le_of_ble_eq_true rfl) rfl (Nat.le_of_ble_eq_true rfl) ?_
    refine V_if_eqB (tgt := 47) dX11_log_18 (by decide) h (fun _ h => ?_) (fun _ h => ?_)
    · refine V_aload_n dX11_log_21 rfl (xm 0 rfl) ?_
      refine V_getR dX11_log_22 fl_X11_12 (sk_0 hS (by decide)) rfl ?_
      refine V_iload_n dX11_log_25 rfl (xm 3 rfl) ?_
      refine T_callVI dX11_log_26 ok_X1_hasAngle (by exact ⟨by decide, rfl⟩) lk_X11_68.1 lk_X11_68.2 (sk_1 hS (by decide)) (hV := ((fX1_hasAngle_c (hS.le (by decide)) rfl).mono (by decide) (Nat.le_refl _) (Nat.le_refl _))) rfl (Nat.le_of_ble_eq_true rfl) rfl (Nat.le_of_ble_eq_true rfl) ?_
      refine V_if_eqB (tgt := 47) dX11_log_29 (by decide) h (fun _ h => ?_) (fun _ h => ?_)
      · refine V_aload_n dX11_log_32 rfl (xm 0 rfl) ?_
        refine V_getR dX11_log_33 fl_X11_12 (sk_0 hS (by decide)) rfl ?_
        refine V_getR dX11_log_36 fl_X11_299 (sk_1 hS (by decide)) rfl ?_
        refine V_getI (kI := 0) dX11_log_39 fl_X11_303 (sk_23 hS (by decide)) rfl rfl ?_
        refine V_bipush dX11_log_42 (by decide) ?_
        refine V_icmp_lt (tgt := 49) dX11_log_44 (by decide) h (fun _ h => ?_) (fun _ h => ?_)
        · refine V_aload_n dX11_log_49 rfl (xm 0 rfl) ?_
          refine V_getR dX11_log_50 fl_X11_12 (sk_0 hS (by decide)) rfl ?_
          refine V_getR dX11_log_53 fl_X11_299 (sk_1 hS (by decide)) rfl ?_
          refine V_iload_n dX11_log_56 rfl (xm 1 rfl) ?_
          refine V_iload_n dX11_log_57 rfl (xm 2 rfl) ?_
          refine V_iload_n dX11_log_58 rfl (xm 3 rfl) ?_
          refine xbE h (fun M2 h1 h => ?_)
          refine T_callVv dX11_log_59 ok_X2_take (by exact ⟨by decide, rfl⟩) lk_X11_306.1 lk_X11_306.2 (sk_23 hS (by decide)) (hV := ((fX2_take_c (hS.le (by decide)) h1).mono (by decide) (Nat.le_refl _) (Nat.le_refl _))) rfl (Nat.le_of_ble_eq_true rfl) rfl (Nat.le_of_ble_eq_true rfl) ?_
          refine V_iconst dX11_log_62 ?_
          exact V_iretb (b := true) dX11_log_63 rfl (by decide) (q_wB h)
        · refine V_iconst dX11_log_47 ?_
          exact V_iretb (b := false) dX11_log_48 rfl (by decide) (q_wB h)
      · refine V_iconst dX11_log_47 ?_
        exact V_iretb (b := false) dX11_log_48 rfl (by decide) (q_wB h)
    · refine V_iconst dX11_log_47 ?_
      exact V_iretb (b := false) dX11_log_48 rfl (by decide) (q_wB h)
  · refine V_iconst dX11_log_47 ?_
    exact V_iretb (b := false) dX11_log_48 rfl (by decide) (q_wB h)
def fX8_countRows_L24 (n : Nat) (M : xM) (v2 : Int) (v3 : Int) (v4 : Int) (v5 : Int) : Option (xM) := match n with
  | 0 => none
  | n + 1 => (if wr v5 < wr (M 1 0) then (xwt M 78 960 ((v4 * 24) + v5) 0 fun M2 => fX8_countRows_L24 n M2 v2 v3 v4 (v5 + 1)) else some M)
set_option maxRecDepth 20000 in
set_option maxHeartbeats 1000000 in
theorem fX8_countRows_L24_c {S : xS} {kp : Option Nat} (hS : xSk kp 79 S) {Q : Option xV → xS → xM → Prop} :
    ∀ (n : Nat) (M : xM) (v2 : Int) (v3 : Int) (v4 : Int) (v5 : Int) {Mz : xM}, fX8_countRows_L24 n M v2 v3 v4 v5 = some Mz → V Y_X8_countRows 4 0 0 53 [(0, vR (some 75)), (1, vR (some 1)), (2, vI v2), (3, vI v3), (4, vI v4)] [] S Mz Q → V Y_X8_countRows 4 0 0 24 [(0, vR (some 75)), (1, vR (some 1)), (2, vI v2), (3, vI v3), (4, vI v4), (5, vI v5)] [] S M Q := by
  intro n
  induction n with
  | zero =>
    intro M v2 v3 v4 v5 Mz h k
    cases h
  | succ n ih =>
    intro M v2 v3 v4 v5 Mz h k
    rw [fX8_countRows_L24] at h
    refine V_iload dX8_countRows_24 (xm 5 rfl) ?_
    refine V_aload_n dX8_countRows_26 rfl (xm 1 rfl) ?_
    refine V_getI (kI := 0) dX8_countRows_27 fl_X8_27 (sk_1 hS (by decide)) rfl rfl ?_
    refine V_icmp_ge (tgt := 53) dX8_countRows_30 (by decide) h (fun _ h => ?_) (fun _ h => ?_)
    · refine V_aload_n dX8_countRows_33 rfl (xm 0 rfl) ?_
      refine V_getR dX8_countRows_34 fl_X8_19 (sk_75 hS (by decide)) rfl ?_
      refine V_iload dX8_countRows_37 (xm 4 rfl) ?_
      refine V_bipush dX8_countRows_39 (by decide) ?_
      refine V_imul dX8_countRows_41 ?_
      refine V_iload dX8_countRows_42 (xm 5 rfl) ?_
      refine V_iadd dX8_countRows_44 ?_
      refine V_iconst dX8_countRows_45 ?_
      refine T_zast dX8_countRows_46 (sk_78 hS (by decide)) (by decide : _ = b2i false) rfl h (fun M2 h => ?_)
      refine V_iinc (ls' := [(5, vI (v5 + 1)), (0, vR (some 75)), (1, vR (some 1)), (2, vI v2), (3, vI v3), (4, vI v4)]) dX8_countRows_47 (xm 5 rfl) (by decide) rfl ?_
      refine V_goto (tgt := 24) dX8_countRows_50 (by decide) ?_
      refine V.pick [1, 2, 3, 4, 5, 0] rfl ?_
      exact ih M2 v2 v3 v4 (v5 + 1) h k
    · cases h
      refine V.pick [0, 1, 2, 3, 4] rfl ?_
      exact k
theorem fX8_countRows_L24_ci {S : xS} {kp : Option Nat} (hS : xSk kp 79 S) {Q : Option xV → xS → xM → Prop} {n : Nat} {M : xM} {v2 : Int} {v3 : Int} {v4 : Int} {v5 : Int} {Mz : xM} (hl : fX8_countRows_L24 n M v2 v3 v4 v5 = some Mz) (k : V Y_X8_countRows 4 0 0 53 [(0, vR (some 75)), (1, vR (some 1)), (2, vI v2), (3, vI v3), (4, vI v4)] [] S Mz Q) : V Y_X8_countRows 4 0 0 24 [(0, vR (some 75)), (1, vR (some 1)), (2, vI v2), (3, vI v3), (4, vI v4), (5, vI v5)] [] S M Q := fX8_countRows_L24_c hS _ _ _ _ _ _ hl k
def fX8_countRows_L12 (n : Nat) (M : xM) (v2 : Int) (v3 : Int) (v4 : Int) : Option (xM) := match n with
  | 0 => none
  | n + 1 => (if wr v4 < wr (M 75 2) then (xb (fX8_countRows_L24 xfuel M v2 v3 v4 0) fun M3 => fX8_countRows_L12 n M3 v2 v3 (v4 + 1)) else some M)
set_option maxRecDepth 20000 in
set_option maxHeartbeats 1000000 in
theorem fX8_countRows_L12_c {S : xS} {kp : Option Nat} (hS : xSk kp 79 S) {Q : Option xV → xS → xM → Prop} :
    ∀ (n : Nat) (M : xM) (v2 : Int) (v3 : Int) (v4 : Int) {Mz : xM}, fX8_countRows_L12 n M v2 v3 v4 = some Mz → V Y_X8_countRows 4 0 0 59 [(0, vR (some 75)), (1, vR (some 1)), (2, vI v2), (3, vI v3)] [] S Mz Q → V Y_X8_countRows 4 0 0 12 [(0, vR (some 75)), (1, vR (some 1)), (2, vI v2), (3, vI v3), (4, vI v4)] [] S M Q := by
  intro n
  induction n with
  | zero =>
    intro M v2 v3 v4 Mz h k
    cases h
  | succ n ih =>
    intro M v2 v3 v4 Mz h k
    rw [fX8_countRows_L12] at h
    refine V_iload dX8_countRows_12 (xm 4 rfl) ?_
    refine V_aload_n dX8_countRows_14 rfl (xm 0 rfl) ?_
    refine V_getI (kI := 2) dX8_countRows_15 fl_X8_23 (sk_75 hS (by decide)) rfl rfl ?_
    refine V_icmp_ge (tgt := 59) dX8_countRows_18 (by decide) h (fun _ h => ?_) (fun _ h => ?_)
    · refine V_iconst dX8_countRows_21 ?_
      refine V_istore (ls' := [(5, vI 0), (0, vR (some 75)), (1, vR (some 1)), (2, vI v2), (3, vI v3), (4, vI v4)]) dX8_countRows_22 (by decide) rfl ?_
      refine xbE h (fun M3 h4 h => ?_)
      refine V.pick [1, 2, 3, 4, 5, 0] rfl ?_
      refine fX8_countRows_L24_ci (hS.le (by decide)) h4 ?_
      refine V_iinc (ls' := [(4, vI (v4 + 1)), (0, vR (some 75)), (1, vR (some 1)), (2, vI v2), (3, vI v3)]) dX8_countRows_53 (xm 4 rfl) (by decide) rfl ?_
      refine V_goto (tgt := 12) dX8_countRows_56 (by decide) ?_
      refine V.pick [1, 2, 3, 4, 0] rfl ?_
      exact ih M3 v2 v3 (v4 + 1) h k
    · cases h
      refine V.pick [0, 1, 2, 3] rfl ?_
      exact k
theorem fX8_countRows_L12_ci {S : xS} {kp : Option Nat} (hS : xSk kp 79 S) {Q : Option xV → xS → xM → Prop} {n : Nat} {M : xM} {v2 : Int} {v3 : Int} {v4 : Int} {Mz : xM} (hl : fX8_countRows_L12 n M v2 v3 v4 = some Mz) (k : V Y_X8_countRows 4 0 0 59 [(0, vR (some 75)), (1, vR (some 1)), (2, vI v2), (3, vI v3)] [] S Mz Q) : V Y_X8_countRows 4 0 0 12 [(0, vR (some 75)), (1, vR (some 1)), (2, vI v2), (3, vI v3), (4, vI v4)] [] S M Q := fX8_countRows_L12_c hS _ _ _ _ _ hl k
def fX8_denyUnlike_L3 (n : Nat) (M : xM) (v2 : Int) (v3 : Int) (v4 : Int) : Option (xM) := match n with
  | 0 => none
  | n + 1 => (if wr v4 < wr (M 1 0) then (xrd M 25 40 v2 fun r1 => xb (fX1_angleOf M r1 v4) fun r3 => xrd M 26 40 v2 fun r4 => (if wr r3 = wr r4 then fX8_denyUnlike_L3 n M v2 v3 (v4 + 1) else (xwt M 78 960 ((v3 * 24) + v4) 1 fun M5 => fX8_denyUnlike_L3 n M5 v2 v3 (v4 + 1)))) else some M)
set_option maxRecDepth 20000 in
set_option maxHeartbeats 1000000 in
theorem fX8_denyUnlike_L3_c {S : xS} {kp : Option Nat} (hS : xSk kp 79 S) {Q : Option xV → xS → xM → Prop} :
    ∀ (n : Nat) (M : xM) (v2 : Int) (v3 : Int) (v4 : Int) {Mz : xM}, fX8_denyUnlike_L3 n M v2 v3 v4 = some Mz → V Y_X8_denyUnlike 3 0 0 58 [] [] S Mz Q → V Y_X8_denyUnlike 3 0 0 3 [(0, vR (some 75)), (1, vR (some 1)), (2, vI v2), (3, vI v3), (4, vI v4)] [] S M Q := by
  intro n
  induction n with
  | zero =>
    intro M v2 v3 v4 Mz h k
    cases h
  | succ n ih =>
    intro M v2 v3 v4 Mz h k
    rw [fX8_denyUnlike_L3] at h
    refine V_iload dX8_denyUnlike_3 (xm 4 rfl) ?_
    refine V_aload_n dX8_denyUnlike_5 rfl (xm 1 rfl) ?_
    refine V_getI (kI := 0) dX8_denyUnlike_6 fl_X8_27 (sk_1 hS (by decide)) rfl rfl ?_
    refine V_icmp_ge (tgt := 58) dX8_denyUnlike_9 (by decide) h (fun _ h => ?_) (fun _ h => ?_)
    · refine V_aload_n dX8_denyUnlike_12 rfl (xm 1 rfl) ?_
      refine V_aload_n dX8_denyUnlike_13 rfl (xm 1 rfl) ?_
      refine V_getR dX8_denyUnlike_14 fl_X8_32 (sk_1 hS (by decide)) rfl ?_
      refine V_getR dX8_denyUnlike_17 fl_X8_64 (sk_23 hS (by decide)) rfl ?_
      refine V_iload_n dX8_denyUnlike_20 rfl (xm 2 rfl) ?_
      refine T_iald dX8_denyUnlike_21 (sk_25 hS (by decide)) rfl h (fun r1 h => ?_)
      refine V_iload dX8_denyUnlike_22 (xm 4 rfl) ?_
      refine xbE h (fun r3 h2 h => ?_)
      refine T_callVI dX8_denyUnlike_24 ok_X1_angleOf (by exact ⟨by decide, rfl⟩) lk_X8_67.1 lk_X8_67.2 (sk_1 hS (by decide)) (hV := ((fX1_angleOf_c (hS.le (by decide)) h2).mono (by decide) (Nat.le_refl _) (Nat.le_refl _))) rfl (Nat.le_of_ble_eq_true rfl) rfl (Nat.le_of_ble_eq_true rfl) ?_
      refine V_aload_n dX8_denyUnlike_27 rfl (xm 1 rfl) ?_
      refine V_getR dX8_denyUnlike_28 fl_X8_32 (sk_1 hS (by decide)) rfl ?_
      refine V_getR dX8_denyUnlike_31 fl_X8_71 (sk_23 hS (by decide)) rfl ?_
      refine V_iload_n dX8_denyUnlike_34 rfl (xm 2 rfl) ?_
      refine T_iald dX8_denyUnlike_35 (sk_26 hS (by decide)) rfl h (fun r4 h => ?_)
      refine V_icmp_eq (tgt := 52) dX8_denyUnlike_36 (by decide) h (fun _ h => ?_) (fun _ h => ?_)
      · refine V_iinc (ls' := [(4, vI (v4 + 1)), (0, vR (some 75)), (1, vR (some 1)), (2, vI v2), (3, vI v3)]) dX8_denyUnlike_52 (xm 4 rfl) (by decide) rfl ?_
        refine V_goto (tgt := 3) dX8_denyUnlike_55 (by decide) ?_
        refine V.pick [1, 2, 3, 4, 0] rfl ?_
        exact ih M v2 v3 (v4 + 1) h k
      · refine V_aload_n dX8_denyUnlike_39 rfl (xm 0 rfl) ?_
        refine V_getR dX8_denyUnlike_40 fl_X8_19 (sk_75 hS (by decide)) rfl ?_
        refine V_iload_n dX8_denyUnlike_43 rfl (xm 3 rfl) ?_
        refine V_bipush dX8_denyUnlike_44 (by decide) ?_
        refine V_imul dX8_denyUnlike_46 ?_
        refine V_iload dX8_denyUnlike_47 (xm 4 rfl) ?_
        refine V_iadd dX8_denyUnlike_49 ?_
        refine V_iconst dX8_denyUnlike_50 ?_
        refine T_zast dX8_denyUnlike_51 (sk_78 hS (by decide)) (by decide : _ = b2i true) rfl h (fun M5 h => ?_)
        refine V_iinc (ls' := [(4, vI (v4 + 1)), (0, vR (some 75)), (1, vR (some 1)), (2, vI v2), (3, vI v3)]) dX8_denyUnlike_52 (xm 4 rfl) (by decide) rfl ?_
        refine V_goto (tgt := 3) dX8_denyUnlike_55 (by decide) ?_
        refine V.pick [1, 2, 3, 4, 0] rfl ?_
        exact ih M5 v2 v3 (v4 + 1) h k
    · cases h
      refine V.pick [] rfl ?_
      exact k
theorem fX8_denyUnlike_L3_ci {S : xS} {kp : Option Nat} (hS : xSk kp 79 S) {Q : Option xV → xS → xM → Prop} {n : Nat} {M : xM} {v2 : Int} {v3 : Int} {v4 : Int} {Mz : xM} (hl : fX8_denyUnlike_L3 n M v2 v3 v4 = some Mz) (k : V Y_X8_denyUnlike 3 0 0 58 [] [] S Mz Q) : V Y_X8_denyUnlike 3 0 0 3 [(0, vR (some 75)), (1, vR (some 1)), (2, vI v2), (3, vI v3), (4, vI v4)] [] S M Q := fX8_denyUnlike_L3_c hS _ _ _ _ _ hl k
def fX8_denyUnlike (M : xM) (v2 : Int) (v3 : Int) : Option xM := xb (fX8_denyUnlike_L3 xfuel M v2 v3 0) fun M6 => some M6
set_option maxRecDepth 20000 in
set_option maxHeartbeats 1000000 in
theorem fX8_denyUnlike_c {S : xS} {kp : Option Nat} (hS : xSk kp 79 S) {M : xM} {v2 : Int} {v3 : Int} {E : xM} (h : fX8_denyUnlike M v2 v3 = some E) :
    V Y_X8_denyUnlike 3 0 0 0 (xarg 0 [vR (some 75), vR (some 1), vI v2, vI v3]) [] S M (xqR S E none) := by
  unfold fX8_denyUnlike at h
  show V Y_X8_denyUnlike 3 0 0 0 [(0, vR (some 75)), (1, vR (some 1)), (2, vI v2), (3, vI v3)] [] S M _
  refine V_iconst dX8_denyUnlike_0 ?_
  refine V_istore (ls' := [(4, vI 0), (0, vR (some 75)), (1, vR (some 1)), (2, vI v2), (3, vI v3)]) dX8_denyUnlike_1 (by decide) rfl ?_
  refine xbE h (fun M6 h7 h => ?_)
  refine V.pick [1, 2, 3, 4, 0] rfl ?_
  refine fX8_denyUnlike_L3_ci (hS.le (by decide)) h7 ?_
  exact V_ret dX8_denyUnlike_58 rfl (q_v h)
def fX8_countRows_L62 (n : Nat) (M : xM) (v2 : Int) (v3 : Int) (v4 : Int) : Option (xM) := match n with
  | 0 => none
  | n + 1 => (if wr v4 < wr (M 23 0) then (xrd M 24 40 v4 fun r7 => (if (fX11_within r7 v2 v3) = true then (xrd M 24 40 v4 fun r8 => xb (fX8_denyUnlike M v4 (r8 - v2)) fun M10 => fX8_countRows_L62 n M10 v2 v3 (v4 + 1)) else fX8_countRows_L62 n M v2 v3 (v4 + 1))) else some M)
set_option maxRecDepth 20000 in
set_option maxHeartbeats 1000000 in
theorem fX8_countRows_L62_c {S : xS} {kp : Option Nat} (hS : xSk kp 79 S) {Q : Option xV → xS → xM → Prop} :
    ∀ (n : Nat) (M : xM) (v2 : Int) (v3 : Int) (v4 : Int) {Mz : xM}, fX8_countRows_L62 n M v2 v3 v4 = some Mz → V Y_X8_countRows 4 0 0 117 [(0, vR (some 75)), (1, vR (some 1))] [] S Mz Q → V Y_X8_countRows 4 0 0 62 [(0, vR (some 75)), (1, vR (some 1)), (2, vI v2), (3, vI v3), (4, vI v4)] [] S M Q := by
  intro n
  induction n with
  | zero =>
    intro M v2 v3 v4 Mz h k
    cases h
  | succ n ih =>
    intro M v2 v3 v4 Mz h k
    rw [fX8_countRows_L62] at h
    refine V_iload dX8_countRows_62 (xm 4 rfl) ?_
    refine V_aload_n dX8_countRows_64 rfl (xm 1 rfl) ?_
    refine V_getR dX8_countRows_65 fl_X8_32 (sk_1 hS (by decide)) rfl ?_
    refine V_getI (kI := 0) dX8_countRows_68 fl_X8_36 (sk_23 hS (by decide)) rfl rfl ?_
    refine V_icmp_ge (tgt := 117) dX8_countRows_71 (by decide) h (fun _ h => ?_) (fun _ h => ?_)
    · refine V_aload_n dX8_countRows_74 rfl (xm 1 rfl) ?_
      refine V_getR dX8_countRows_75 fl_X8_32 (sk_1 hS (by decide)) rfl ?_
      refine V_getR dX8_countRows_78 fl_X8_41 (sk_23 hS (by decide)) rfl ?_
      refine V_iload dX8_countRows_81 (xm 4 rfl) ?_
      refine T_iald dX8_countRows_83 (sk_24 hS (by decide)) rfl h (fun r7 h => ?_)
      refine V_iload_n dX8_countRows_84 rfl (xm 2 rfl) ?_
      refine V_iload_n dX8_countRows_85 rfl (xm 3 rfl) ?_
      refine T_callSNI (host := "TurnedIsland") dX8_countRows_86 ok_X11_within lk_X8_44.1 lk_X8_44.2 (hV := ((fX11_within_c (hS.le (by decide)) rfl).mono (by decide) (Nat.le_refl _) (Nat.le_refl _))) rfl (Nat.le_of_ble_eq_true rfl) rfl (Nat.le_of_ble_eq_true rfl) ?_
      refine V_if_eqB (tgt := 111) dX8_countRows_89 (by decide) h (fun _ h => ?_) (fun _ h => ?_)
      · refine V_aload_n dX8_countRows_92 rfl (xm 0 rfl) ?_
        refine V_aload_n dX8_countRows_93 rfl (xm 1 rfl) ?_
        refine V_iload dX8_countRows_94 (xm 4 rfl) ?_
        refine V_aload_n dX8_countRows_96 rfl (xm 1 rfl) ?_
        refine V_getR dX8_countRows_97 fl_X8_32 (sk_1 hS (by decide)) rfl ?_
        refine V_getR dX8_countRows_100 fl_X8_41 (sk_23 hS (by decide)) rfl ?_
        refine V_iload dX8_countRows_103 (xm 4 rfl) ?_
        refine T_iald dX8_countRows_105 (sk_24 hS (by decide)) rfl h (fun r8 h => ?_)
        refine V_iload_n dX8_countRows_106 rfl (xm 2 rfl) ?_
        refine V_isub dX8_countRows_107 ?_
        refine xbE h (fun M10 h9 h => ?_)
        refine T_callVv dX8_countRows_108 ok_X8_denyUnlike (by exact ⟨by decide, rfl⟩) lk_X8_48.1 lk_X8_48.2 (sk_75 hS (by decide)) (hV := ((fX8_denyUnlike_c (hS.le (by decide)) h9).mono (by decide) (Nat.le_refl _) (Nat.le_refl _))) rfl (Nat.le_of_ble_eq_true rfl) rfl (Nat.le_of_ble_eq_true rfl) ?_
        refine V_iinc (ls' := [(4, vI (v4 + 1)), (0, vR (some 75)), (1, vR (some 1)), (2, vI v2), (3, vI v3)]) dX8_countRows_111 (xm 4 rfl) (by decide) rfl ?_
        refine V_goto (tgt := 62) dX8_countRows_114 (by decide) ?_
        refine V.pick [1, 2, 3, 4, 0] rfl ?_
        exact ih M10 v2 v3 (v4 + 1) h k
      · refine V_iinc (ls' := [(4, vI (v4 + 1)), (0, vR (some 75)), (1, vR (some 1)), (2, vI v2), (3, vI v3)]) dX8_countRows_111 (xm 4 rfl) (by decide) rfl ?_
        refine V_goto (tgt := 62) dX8_countRows_114 (by decide) ?_
        refine V.pick [1, 2, 3, 4, 0] rfl ?_
        exact ih M v2 v3 (v4 + 1) h k
    · cases h
      refine V.pick [0, 1] rfl ?_
      exact k
theorem fX8_countRows_L62_ci {S : xS} {kp : Option Nat} (hS : xSk kp 79 S) {Q : Option xV → xS → xM → Prop} {n : Nat} {M : xM} {v2 : Int} {v3 : Int} {v4 : Int} {Mz : xM} (hl : fX8_countRows_L62 n M v2 v3 v4 = some Mz) (k : V Y_X8_countRows 4 0 0 117 [(0, vR (some 75)), (1, vR (some 1))] [] S Mz Q) : V Y_X8_countRows 4 0 0 62 [(0, vR (some 75)), (1, vR (some 1)), (2, vI v2), (3, vI v3), (4, vI v4)] [] S M Q := fX8_countRows_L62_c hS _ _ _ _ _ hl k
def fX8_countWays_L2 (n : Nat) (M : xM) (v1 : Int) (v2 : Int) : Option (xM) := match n with
  | 0 => none
  | n + 1 => (if wr v2 < wr v1 then (xwt M 77 984 (((M 75 2) * 24) + v2) 1 fun M1 => fX8_countWays_L2 n M1 v1 (v2 + 1)) else some M)
set_option maxRecDepth 20000 in
set_option maxHeartbeats 1000000 in
theorem fX8_countWays_L2_c {S : xS} {kp : Option Nat} (hS : xSk kp 78 S) {Q : Option xV → xS → xM → Prop} :
    ∀ (n : Nat) (M : xM) (v1 : Int) (v2 : Int) {Mz : xM}, fX8_countWays_L2 n M v1 v2 = some Mz → V Y_X8_countWays 2 0 0 28 [(0, vR (some 75)), (1, vI v1)] [] S Mz Q → V Y_X8_countWays 2 0 0 2 [(0, vR (some 75)), (1, vI v1), (2, vI v2)] [] S M Q := by
  intro n
  induction n with
  | zero =>
    intro M v1 v2 Mz h k
    cases h
  | succ n ih =>
    intro M v1 v2 Mz h k
    rw [fX8_countWays_L2] at h
    refine V_iload_n dX8_countWays_2 rfl (xm 2 rfl) ?_
    refine V_iload_n dX8_countWays_3 rfl (xm 1 rfl) ?_
    refine V_icmp_ge (tgt := 28) dX8_countWays_4 (by decide) h (fun _ h => ?_) (fun _ h => ?_)
    · refine V_aload_n dX8_countWays_7 rfl (xm 0 rfl) ?_
      refine V_getR dX8_countWays_8 fl_X8_15 (sk_75 hS (by decide)) rfl ?_
      refine V_aload_n dX8_countWays_11 rfl (xm 0 rfl) ?_
      refine V_getI (kI := 2) dX8_countWays_12 fl_X8_23 (sk_75 hS (by decide)) rfl rfl ?_
      refine V_bipush dX8_countWays_15 (by decide) ?_
      refine V_imul dX8_countWays_17 ?_
      refine V_iload_n dX8_countWays_18 rfl (xm 2 rfl) ?_
      refine V_iadd dX8_countWays_19 ?_
      refine V_lconst (x := 1) dX8_countWays_20 (by decide) ?_
      refine T_last dX8_countWays_21 (sk_77 hS (by decide)) rfl h (fun M1 h => ?_)
      refine V_iinc (ls' := [(2, vI (v2 + 1)), (0, vR (some 75)), (1, vI v1)]) dX8_countWays_22 (xm 2 rfl) (by decide) rfl ?_
      refine V_goto (tgt := 2) dX8_countWays_25 (by decide) ?_
      refine V.pick [1, 2, 0] rfl ?_
      exact ih M1 v1 (v2 + 1) h k
    · cases h
      refine V.pick [0, 1] rfl ?_
      exact k
theorem fX8_countWays_L2_ci {S : xS} {kp : Option Nat} (hS : xSk kp 78 S) {Q : Option xV → xS → xM → Prop} {n : Nat} {M : xM} {v1 : Int} {v2 : Int} {Mz : xM} (hl : fX8_countWays_L2 n M v1 v2 = some Mz) (k : V Y_X8_countWays 2 0 0 28 [(0, vR (some 75)), (1, vI v1)] [] S Mz Q) : V Y_X8_countWays 2 0 0 2 [(0, vR (some 75)), (1, vI v1), (2, vI v2)] [] S M Q := fX8_countWays_L2_c hS _ _ _ _ hl k
def fX8_waysBehind (M : xM) (v1 : Int) (v2 : Int) : Option Int := xrd M 78 960 ((v1 * 24) + v2) fun r1 => (if wr r1 = 0 then (xrd M 77 984 (((v1 + 1) * 24) + v2) fun r2 => some r2) else some 0)
set_option maxRecDepth 20000 in
set_option maxHeartbeats 1000000 in
theorem fX8_waysBehind_c {S : xS} {kp : Option Nat} (hS : xSk kp 79 S) {M : xM} {v1 : Int} {v2 : Int} {E : Int} (h : fX8_waysBehind M v1 v2 = some E) :
    V Y_X8_waysBehind 0 0 0 0 (xarg 0 [vR (some 75), vI v1, vI v2]) [] S M (xqR S M (some (vL E))) := by
  unfold fX8_waysBehind at h
  show V Y_X8_waysBehind 0 0 0 0 [(0, vR (some 75)), (1, vI v1), (2, vI v2)] [] S M _
  refine V_aload_n dX8_waysBehind_0 rfl (xm 0 rfl) ?_
  refine V_getR dX8_waysBehind_1 fl_X8_19 (sk_75 hS (by decide)) rfl ?_
  refine V_iload_n dX8_waysBehind_4 rfl (xm 1 rfl) ?_
  refine V_bipush dX8_waysBehind_5 (by decide) ?_
  refine V_imul dX8_waysBehind_7 ?_
  refine V_iload_n dX8_waysBehind_8 rfl (xm 2 rfl) ?_
  refine V_iadd dX8_waysBehind_9 ?_
  refine T_zald dX8_waysBehind_10 (sk_78 hS (by decide)) rfl h (fun r1 h => ?_)
  refine V_if_eq (tgt := 18) dX8_waysBehind_11 (by decide) h (fun _ h => ?_) (fun _ h => ?_)
  · refine V_aload_n dX8_waysBehind_18 rfl (xm 0 rfl) ?_
    refine V_getR dX8_waysBehind_19 fl_X8_15 (sk_75 hS (by decide)) rfl ?_
    refine V_iload_n dX8_waysBehind_22 rfl (xm 1 rfl) ?_
    refine V_iconst dX8_waysBehind_23 ?_
    refine V_iadd dX8_waysBehind_24 ?_
    refine V_bipush dX8_waysBehind_25 (by decide) ?_
    refine V_imul dX8_waysBehind_27 ?_
    refine V_iload_n dX8_waysBehind_28 rfl (xm 2 rfl) ?_
    refine V_iadd dX8_waysBehind_29 ?_
    refine T_lald dX8_waysBehind_30 (sk_77 hS (by decide)) rfl h (fun r2 h => ?_)
    exact V_lret dX8_waysBehind_31 rfl (q_pL h)
  · refine V_lconst (x := 0) dX8_waysBehind_14 (by decide) ?_
    refine V_goto (tgt := 31) dX8_waysBehind_15 (by decide) ?_
    exact V_lret dX8_waysBehind_31 rfl (q_pL h)
def fX8_countWays_L52 (n : Nat) (M : xM) (v1 : Int) (v2 : Int) (v3 : Int) (v4 : Int) (v6 : Int) : Option (Int) := match n with
  | 0 => none
  | n + 1 => (if wr v6 < wr 3 then (xtb [0, 1, -1] 3 v6 fun r4 => xb (fX11_wrap (v3 + r4) v1) fun r6 => xb (fX8_waysBehind M v2 r6) fun r8 => fX8_countWays_L52 n M v1 v2 v3 (v4 + r8) (v6 + 1)) else some v4)
set_option maxRecDepth 20000 in
set_option maxHeartbeats 1000000 in
theorem fX8_countWays_L52_c {S : xS} {kp : Option Nat} (hS : xSk kp 79 S) {Q : Option xV → xS → xM → Prop} :
    ∀ (n : Nat) (M : xM) (v1 : Int) (v2 : Int) (v3 : Int) (v4 : Int) (v6 : Int) {x4 : Int}, fX8_countWays_L52 n M v1 v2 v3 v4 v6 = some x4 → V Y_X8_countWays 2 0 0 89 [(0, vR (some 75)), (1, vI v1), (2, vI v2), (3, vI v3), (4, vL x4)] [] S M Q → V Y_X8_countWays 2 0 0 52 [(0, vR (some 75)), (1, vI v1), (2, vI v2), (3, vI v3), (4, vL v4), (6, vI v6)] [] S M Q := by
  intro n
  induction n with
  | zero =>
    intro M v1 v2 v3 v4 v6 x4 h k
    cases h
  | succ n ih =>
    intro M v1 v2 v3 v4 v6 x4 h k
    rw [fX8_countWays_L52] at h
    refine V_iload dX8_countWays_52 (xm 5 rfl) ?_
    refine V_getsN (host := "TurnedIsland") dX8_countWays_54 (by decide +kernel : ("TurnedIsland", "ORDER", "[I", 1) ∈ xZR) (by decide +kernel) ?_
    refine V_tlen (tb := [0, 1, -1]) dX8_countWays_57 (by decide +kernel) rfl ?_
    refine V_icmp_ge (tgt := 89) dX8_countWays_58 (by decide) h (fun _ h => ?_) (fun _ h => ?_)
    · refine V_lload dX8_countWays_61 (xm 4 rfl) ?_
      refine V_aload_n dX8_countWays_63 rfl (xm 0 rfl) ?_
      refine V_iload_n dX8_countWays_64 rfl (xm 2 rfl) ?_
      refine V_iload_n dX8_countWays_65 rfl (xm 3 rfl) ?_
      refine V_getsN (host := "TurnedIsland") dX8_countWays_66 (by decide +kernel : ("TurnedIsland", "ORDER", "[I", 1) ∈ xZR) (by decide +kernel) ?_
      refine V_iload dX8_countWays_69 (xm 5 rfl) ?_
      refine T_tald (tb := [0, 1, -1]) dX8_countWays_71 (by decide +kernel) rfl h (fun r4 h => ?_)
      refine V_iadd dX8_countWays_72 ?_
      refine V_iload_n dX8_countWays_73 rfl (xm 1 rfl) ?_
      refine xbE h (fun r6 h5 h => ?_)
      refine T_callSNI (host := "TurnedIsland") dX8_countWays_74 ok_X11_wrap lk_X8_77.1 lk_X8_77.2 (hV := ((fX11_wrap_c (hS.le (by decide)) h5).mono (by decide) (Nat.le_refl _) (Nat.le_refl _))) rfl (Nat.le_of_ble_eq_true rfl) rfl (Nat.le_of_ble_eq_true rfl) ?_
      refine xbE h (fun r8 h7 h => ?_)
      refine T_callVL dX8_countWays_77 ok_X8_waysBehind (by exact ⟨by decide, rfl⟩) lk_X8_80.1 lk_X8_80.2 (sk_75 hS (by decide)) (hV := ((fX8_waysBehind_c (hS.le (by decide)) h7).mono (by decide) (Nat.le_refl _) (Nat.le_refl _))) rfl (Nat.le_of_ble_eq_true rfl) rfl (Nat.le_of_ble_eq_true rfl) ?_
      refine V_ladd dX8_countWays_80 ?_
      refine V_lstore (ls' := [(4, vL (v4 + r8)), (0, vR (some 75)), (1, vI v1), (2, vI v2), (3, vI v3), (6, vI v6)]) dX8_countWays_81 (by decide) rfl ?_
      refine V_iinc (ls' := [(6, vI (v6 + 1)), (4, vL (v4 + r8)), (0, vR (some 75)), (1, vI v1), (2, vI v2), (3, vI v3)]) dX8_countWays_83 (xm 5 rfl) (by decide) rfl ?_
      refine V_goto (tgt := 52) dX8_countWays_86 (by decide) ?_
      refine V.pick [2, 3, 4, 5, 1, 0] rfl ?_
      exact ih M v1 v2 v3 (v4 + r8) (v6 + 1) h k
    · cases h
      refine V.pick [0, 1, 2, 3, 4] rfl ?_
      exact k
theorem fX8_countWays_L52_ci {S : xS} {kp : Option Nat} (hS : xSk kp 79 S) {Q : Option xV → xS → xM → Prop} {n : Nat} {M : xM} {v1 : Int} {v2 : Int} {v3 : Int} {v4 : Int} {v6 : Int} {x4 : Int} (hl : fX8_countWays_L52 n M v1 v2 v3 v4 v6 = some x4) (k : V Y_X8_countWays 2 0 0 89 [(0, vR (some 75)), (1, vI v1), (2, vI v2), (3, vI v3), (4, vL x4)] [] S M Q) : V Y_X8_countWays 2 0 0 52 [(0, vR (some 75)), (1, vI v1), (2, vI v2), (3, vI v3), (4, vL v4), (6, vI v6)] [] S M Q := fX8_countWays_L52_c hS _ _ _ _ _ _ _ hl k
def fX8_countWays_L41 (n : Nat) (M : xM) (v1 : Int) (v2 : Int) (v3 : Int) : Option (xM) := match n with
  | 0 => none
  | n + 1 => (if wr v3 < wr v1 then (xb (fX8_countWays_L52 xfuel M v1 v2 v3 0 0) fun y9 => xwt M 77 984 ((v2 * 24) + v3) (xminL y9 100000000000000000) fun M11 => fX8_countWays_L41 n M11 v1 v2 (v3 + 1)) else some M)
set_option maxRecDepth 20000 in
set_option maxHeartbeats 1000000 in
theorem fX8_countWays_L41_c {S : xS} {kp : Option Nat} (hS : xSk kp 79 S) {Q : Option xV → xS → xM → Prop} :
    ∀ (n : Nat) (M : xM) (v1 : Int) (v2 : Int) (v3 : Int) {Mz : xM}, fX8_countWays_L41 n M v1 v2 v3 = some Mz → V Y_X8_countWays 2 0 0 114 [(0, vR (some 75)), (1, vI v1), (2, vI v2)] [] S Mz Q → V Y_X8_countWays 2 0 0 41 [(0, vR (some 75)), (1, vI v1), (2, vI v2), (3, vI v3)] [] S M Q := by
  intro n
  induction n with
  | zero =>
    intro M v1 v2 v3 Mz h k
    cases h
  | succ n ih =>
    intro M v1 v2 v3 Mz h k
    rw [fX8_countWays_L41] at h
    refine V_iload_n dX8_countWays_41 rfl (xm 3 rfl) ?_
    refine V_iload_n dX8_countWays_42 rfl (xm 1 rfl) ?_
    refine V_icmp_ge (tgt := 114) dX8_countWays_43 (by decide) h (fun _ h => ?_) (fun _ h => ?_)
    · refine V_lconst (x := 0) dX8_countWays_46 (by decide) ?_
      refine V_lstore (ls' := [(4, vL 0), (0, vR (some 75)), (1, vI v1), (2, vI v2), (3, vI v3)]) dX8_countWays_47 (by decide) rfl ?_
      refine V_iconst dX8_countWays_49 ?_
      refine V_istore (ls' := [(6, vI 0), (4, vL 0), (0, vR (some 75)), (1, vI v1), (2, vI v2), (3, vI v3)]) dX8_countWays_50 (by decide) rfl ?_
      refine xbE h (fun y9 h10 h => ?_)
      refine V.pick [2, 3, 4, 5, 1, 0] rfl ?_
      refine fX8_countWays_L52_ci (hS.le (by decide)) h10 ?_
      refine V_aload_n dX8_countWays_89 rfl (xm 0 rfl) ?_
      refine V_getR dX8_countWays_90 fl_X8_15 (sk_75 hS (by decide)) rfl ?_
      refine V_iload_n dX8_countWays_93 rfl (xm 2 rfl) ?_
      refine V_bipush dX8_countWays_94 (by decide) ?_
      refine V_imul dX8_countWays_96 ?_
      refine V_iload_n dX8_countWays_97 rfl (xm 3 rfl) ?_
      refine V_iadd dX8_countWays_98 ?_
      refine V_lload dX8_countWays_99 (xm 4 rfl) ?_
      refine V_ldc2 (n := 100000000000000000) dX8_countWays_101 (xsg5 124 rfl rfl : Cond.constantLong RX8 56 100000000000000000 ∈ xT) (by decide) ?_
      refine V_mminL dX8_countWays_104 mt_X8_58 (by decide) (Nat.le_of_ble_eq_true rfl) ?_
      refine T_last dX8_countWays_107 (sk_77 hS (by decide)) rfl h (fun M11 h => ?_)
      refine V_iinc (ls' := [(3, vI (v3 + 1)), (0, vR (some 75)), (1, vI v1), (2, vI v2), (4, vL y9)]) dX8_countWays_108 (xm 3 rfl) (by decide) rfl ?_
      refine V_goto (tgt := 41) dX8_countWays_111 (by decide) ?_
      refine V.pick [1, 2, 3, 0] rfl ?_
      exact ih M11 v1 v2 (v3 + 1) h k
    · cases h
      refine V.pick [0, 1, 2] rfl ?_
      exact k
theorem fX8_countWays_L41_ci {S : xS} {kp : Option Nat} (hS : xSk kp 79 S) {Q : Option xV → xS → xM → Prop} {n : Nat} {M : xM} {v1 : Int} {v2 : Int} {v3 : Int} {Mz : xM} (hl : fX8_countWays_L41 n M v1 v2 v3 = some Mz) (k : V Y_X8_countWays 2 0 0 114 [(0, vR (some 75)), (1, vI v1), (2, vI v2)] [] S Mz Q) : V Y_X8_countWays 2 0 0 41 [(0, vR (some 75)), (1, vI v1), (2, vI v2), (3, vI v3)] [] S M Q := fX8_countWays_L41_c hS _ _ _ _ _ hl k
def fX8_countWays_L35 (n : Nat) (M : xM) (v1 : Int) (v2 : Int) : Option (xM) := match n with
  | 0 => none
  | n + 1 => (if wr v2 < 0 then some M else (xb (fX8_countWays_L41 xfuel M v1 v2 0) fun M12 => fX8_countWays_L35 n M12 v1 (v2 + (-1))))
set_option maxRecDepth 20000 in
set_option maxHeartbeats 1000000 in
theorem fX8_countWays_L35_c {S : xS} {kp : Option Nat} (hS : xSk kp 79 S) {Q : Option xV → xS → xM → Prop} :
    ∀ (n : Nat) (M : xM) (v1 : Int) (v2 : Int) {Mz : xM}, fX8_countWays_L35 n M v1 v2 = some Mz → V Y_X8_countWays 2 0 0 120 [] [] S Mz Q → V Y_X8_countWays 2 0 0 35 [(0, vR (some 75)), (1, vI v1), (2, vI v2)] [] S M Q := by
  intro n
  induction n with
  | zero =>
    intro M v1 v2 Mz h k
    cases h
  | succ n ih =>
    intro M v1 v2 Mz h k
    rw [fX8_countWays_L35] at h
    refine V_iload_n dX8_countWays_35 rfl (xm 2 rfl) ?_
    refine V_if_lt (tgt := 120) dX8_countWays_36 (by decide) h (fun _ h => ?_) (fun _ h => ?_)
    · cases h
      refine V.pick [] rfl ?_
      exact k
    · refine V_iconst dX8_countWays_39 ?_
      refine V_istore_n (ls' := [(3, vI 0), (0, vR (some 75)), (1, vI v1), (2, vI v2)]) dX8_countWays_40 rfl (by decide) rfl ?_
      refine xbE h (fun M12 h13 h => ?_)
      refine V.pick [1, 2, 3, 0] rfl ?_
      refine fX8_countWays_L41_ci (hS.le (by decide)) h13 ?_
      refine V_iinc (ls' := [(2, vI (v2 + (-1))), (0, vR (some 75)), (1, vI v1)]) dX8_countWays_114 (xm 2 rfl) (by decide) rfl ?_
      refine V_goto (tgt := 35) dX8_countWays_117 (by decide) ?_
      refine V.pick [1, 2, 0] rfl ?_
      exact ih M12 v1 (v2 + (-1)) h k
theorem fX8_countWays_L35_ci {S : xS} {kp : Option Nat} (hS : xSk kp 79 S) {Q : Option xV → xS → xM → Prop} {n : Nat} {M : xM} {v1 : Int} {v2 : Int} {Mz : xM} (hl : fX8_countWays_L35 n M v1 v2 = some Mz) (k : V Y_X8_countWays 2 0 0 120 [] [] S Mz Q) : V Y_X8_countWays 2 0 0 35 [(0, vR (some 75)), (1, vI v1), (2, vI v2)] [] S M Q := fX8_countWays_L35_c hS _ _ _ _ hl k
def fX8_countWays (M : xM) (v1 : Int) : Option xM := xb (fX8_countWays_L2 xfuel M v1 0) fun M2 => xb (fX8_countWays_L35 xfuel M2 v1 ((M2 75 2) - 1)) fun M14 => some M14
set_option maxRecDepth 20000 in
set_option maxHeartbeats 1000000 in
theorem fX8_countWays_c {S : xS} {kp : Option Nat} (hS : xSk kp 79 S) {M : xM} {v1 : Int} {E : xM} (h : fX8_countWays M v1 = some E) :
    V Y_X8_countWays 2 0 0 0 (xarg 0 [vR (some 75), vI v1]) [] S M (xqR S E none) := by
  unfold fX8_countWays at h
  show V Y_X8_countWays 2 0 0 0 [(0, vR (some 75)), (1, vI v1)] [] S M _
  refine V_iconst dX8_countWays_0 ?_
  refine V_istore_n (ls' := [(2, vI 0), (0, vR (some 75)), (1, vI v1)]) dX8_countWays_1 rfl (by decide) rfl ?_
  refine xbE h (fun M2 h3 h => ?_)
  refine V.pick [1, 2, 0] rfl ?_
  refine fX8_countWays_L2_ci (hS.le (by decide)) h3 ?_
  refine V_aload_n dX8_countWays_28 rfl (xm 0 rfl) ?_
  refine V_getI (kI := 2) dX8_countWays_29 fl_X8_23 (sk_75 hS (by decide)) rfl rfl ?_
  refine V_iconst dX8_countWays_32 ?_
  refine V_isub dX8_countWays_33 ?_
  refine V_istore_n (ls' := [(2, vI ((M2 75 2) - 1)), (0, vR (some 75)), (1, vI v1)]) dX8_countWays_34 rfl (by decide) rfl ?_
  refine xbE h (fun M14 h15 h => ?_)
  refine V.pick [1, 2, 0] rfl ?_
  refine fX8_countWays_L35_ci (hS.le (by decide)) h15 ?_
  exact V_ret dX8_countWays_120 rfl (q_v h)
def fX8_countRows_L131 (n : Nat) (M : xM) (v4 : Int) (v6 : Int) : Option (Int) := match n with
  | 0 => none
  | n + 1 => (if wr v6 < wr (M 1 0) then (xrd M 77 984 v6 fun r15 => fX8_countRows_L131 n M (v4 + r15) (v6 + 1)) else some v4)
set_option maxRecDepth 20000 in
set_option maxHeartbeats 1000000 in
theorem fX8_countRows_L131_c {S : xS} {kp : Option Nat} (hS : xSk kp 78 S) {Q : Option xV → xS → xM → Prop} :
    ∀ (n : Nat) (M : xM) (v4 : Int) (v6 : Int) {x4 : Int}, fX8_countRows_L131 n M v4 v6 = some x4 → V Y_X8_countRows 4 0 0 158 [(4, vL x4)] [] S M Q → V Y_X8_countRows 4 0 0 131 [(0, vR (some 75)), (1, vR (some 1)), (4, vL v4), (6, vI v6)] [] S M Q := by
  intro n
  induction n with
  | zero =>
    intro M v4 v6 x4 h k
    cases h
  | succ n ih =>
    intro M v4 v6 x4 h k
    rw [fX8_countRows_L131] at h
    refine V_iload dX8_countRows_131 (xm 3 rfl) ?_
    refine V_aload_n dX8_countRows_133 rfl (xm 1 rfl) ?_
    refine V_getI (kI := 0) dX8_countRows_134 fl_X8_27 (sk_1 hS (by decide)) rfl rfl ?_
    refine V_icmp_ge (tgt := 158) dX8_countRows_137 (by decide) h (fun _ h => ?_) (fun _ h => ?_)
    · refine V_lload dX8_countRows_140 (xm 2 rfl) ?_
      refine V_aload_n dX8_countRows_142 rfl (xm 0 rfl) ?_
      refine V_getR dX8_countRows_143 fl_X8_15 (sk_75 hS (by decide)) rfl ?_
      refine V_iload dX8_countRows_146 (xm 3 rfl) ?_
      refine T_lald dX8_countRows_148 (sk_77 hS (by decide)) rfl h (fun r15 h => ?_)
      refine V_ladd dX8_countRows_149 ?_
      refine V_lstore (ls' := [(4, vL (v4 + r15)), (0, vR (some 75)), (1, vR (some 1)), (6, vI v6)]) dX8_countRows_150 (by decide) rfl ?_
      refine V_iinc (ls' := [(6, vI (v6 + 1)), (4, vL (v4 + r15)), (0, vR (some 75)), (1, vR (some 1))]) dX8_countRows_152 (xm 3 rfl) (by decide) rfl ?_
      refine V_goto (tgt := 131) dX8_countRows_155 (by decide) ?_
      refine V.pick [2, 3, 1, 0] rfl ?_
      exact ih M (v4 + r15) (v6 + 1) h k
    · cases h
      refine V.pick [2] rfl ?_
      exact k
theorem fX8_countRows_L131_ci {S : xS} {kp : Option Nat} (hS : xSk kp 78 S) {Q : Option xV → xS → xM → Prop} {n : Nat} {M : xM} {v4 : Int} {v6 : Int} {x4 : Int} (hl : fX8_countRows_L131 n M v4 v6 = some x4) (k : V Y_X8_countRows 4 0 0 158 [(4, vL x4)] [] S M Q) : V Y_X8_countRows 4 0 0 131 [(0, vR (some 75)), (1, vR (some 1)), (4, vL v4), (6, vI v6)] [] S M Q := fX8_countRows_L131_c hS _ _ _ _ hl k
def fX8_countRows (M : xM) (v2 : Int) (v3 : Int) : Option (Int × xM) := xlet (xup M 75 2 ((v3 - v2) + 1)) fun M1 => xb (fX8_countRows_L12 xfuel M1 v2 v3 0) fun M5 => xb (fX8_countRows_L62 xfuel M5 v2 v3 0) fun M11 => xb (fX8_countWays M11 (M11 1 0)) fun M14 => xb (fX8_countRows_L131 xfuel M14 0 0) fun y16 => some (xminL y16 100000000000000000, M14)
set_option maxRecDepth 20000 in
set_option maxHeartbeats 1000000 in
theorem fX8_countRows_c {S : xS} {kp : Option Nat} (hS : xSk kp 79 S) {M : xM} {v2 : Int} {v3 : Int} {E : Int × xM} (h : fX8_countRows M v2 v3 = some E) :
    V Y_X8_countRows 4 0 0 0 (xarg 0 [vR (some 75), vR (some 1), vI v2, vI v3]) [] S M (xqR S E.2 (some (vL E.1))) := by
  unfold fX8_countRows at h
  show V Y_X8_countRows 4 0 0 0 [(0, vR (some 75)), (1, vR (some 1)), (2, vI v2), (3, vI v3)] [] S M _
  refine V_aload_n dX8_countRows_0 rfl (xm 0 rfl) ?_
  refine V_iload_n dX8_countRows_1 rfl (xm 3 rfl) ?_
  refine V_iload_n dX8_countRows_2 rfl (xm 2 rfl) ?_
  refine V_isub dX8_countRows_3 ?_
  refine V_iconst dX8_countRows_4 ?_
  refine V_iadd dX8_countRows_5 ?_
  refine T_putI (kI := 2) dX8_countRows_6 fp_X8_23 (sk_75 hS (by decide)) rfl rfl h (fun M1 h => ?_)
  refine V_iconst dX8_countRows_9 ?_
  refine V_istore (ls' := [(4, vI 0), (0, vR (some 75)), (1, vR (some 1)), (2, vI v2), (3, vI v3)]) dX8_countRows_10 (by decide) rfl ?_
  refine xbE h (fun M5 h6 h => ?_)
  refine V.pick [1, 2, 3, 4, 0] rfl ?_
  refine fX8_countRows_L12_ci (hS.le (by decide)) h6 ?_
  refine V_iconst dX8_countRows_59 ?_
  refine V_istore (ls' := [(4, vI 0), (0, vR (some 75)), (1, vR (some 1)), (2, vI v2), (3, vI v3)]) dX8_countRows_60 (by decide) rfl ?_
  refine xbE h (fun M11 h12 h => ?_)
  refine V.pick [1, 2, 3, 4, 0] rfl ?_
  refine fX8_countRows_L62_ci (hS.le (by decide)) h12 ?_
  refine V_aload_n dX8_countRows_117 rfl (xm 0 rfl) ?_
  refine V_aload_n dX8_countRows_118 rfl (xm 1 rfl) ?_
  refine V_getI (kI := 0) dX8_countRows_119 fl_X8_27 (sk_1 hS (by decide)) rfl rfl ?_
  refine xbE h (fun M14 h13 h => ?_)
  refine T_callVv dX8_countRows_122 ok_X8_countWays (by exact ⟨by decide, rfl⟩) lk_X8_52.1 lk_X8_52.2 (sk_75 hS (by decide)) (hV := ((fX8_countWays_c (hS.le (by decide)) h13).mono (by decide) (Nat.le_refl _) (Nat.le_refl _))) rfl (Nat.le_of_ble_eq_true rfl) rfl (Nat.le_of_ble_eq_true rfl) ?_
  refine V_lconst (x := 0) dX8_countRows_125 (by decide) ?_
  refine V_lstore (ls' := [(4, vL 0), (0, vR (some 75)), (1, vR (some 1))]) dX8_countRows_126 (by decide) rfl ?_
  refine V_iconst dX8_countRows_128 ?_
  refine V_istore (ls' := [(6, vI 0), (4, vL 0), (0, vR (some 75)), (1, vR (some 1))]) dX8_countRows_129 (by decide) rfl ?_
  refine xbE h (fun y16 h17 h => ?_)
  refine V.pick [2, 3, 1, 0] rfl ?_
  refine fX8_countRows_L131_ci (hS.le (by decide)) h17 ?_
  refine V_lload dX8_countRows_158 (xm 0 rfl) ?_
  refine V_ldc2 (n := 100000000000000000) dX8_countRows_160 (xsg5 124 rfl rfl : Cond.constantLong RX8 56 100000000000000000 ∈ xT) (by decide) ?_
  refine V_mminL dX8_countRows_163 mt_X8_58 (by decide) (Nat.le_of_ble_eq_true rfl) ?_
  exact V_lret dX8_countRows_166 rfl (q_wL h)
def fX8_findFirst_L5 (n : Nat) (M : xM) (v1 : Int) : Option (xM) := match n with
  | 0 => none
  | n + 1 => (if wr (M 75 0) < wr (v1 - 1) then (xrd M 77 984 (M 75 0) fun r2 => (if wr (xlcmp r2 0) = 0 then (xlet (xup M 75 0 ((M 75 0) + 1)) fun M3 => fX8_findFirst_L5 n M3 v1) else some M)) else some M)
set_option maxRecDepth 20000 in
set_option maxHeartbeats 1000000 in
theorem fX8_findFirst_L5_c {S : xS} {kp : Option Nat} (hS : xSk kp 78 S) {Q : Option xV → xS → xM → Prop} :
    ∀ (n : Nat) (M : xM) (v1 : Int) {Mz : xM}, fX8_findFirst_L5 n M v1 = some Mz → V Y_X8_findFirst 3 0 0 42 [(0, vR (some 75)), (1, vI v1)] [] S Mz Q → V Y_X8_findFirst 3 0 0 5 [(0, vR (some 75)), (1, vI v1)] [] S M Q := by
  intro n
  induction n with
  | zero =>
    intro M v1 Mz h k
    cases h
  | succ n ih =>
    intro M v1 Mz h k
    rw [fX8_findFirst_L5] at h
    refine V_aload_n dX8_findFirst_5 rfl (xm 0 rfl) ?_
    refine V_getI (kI := 0) dX8_findFirst_6 fl_X8_84 (sk_75 hS (by decide)) rfl rfl ?_
    refine V_iload_n dX8_findFirst_9 rfl (xm 1 rfl) ?_
    refine V_iconst dX8_findFirst_10 ?_
    refine V_isub dX8_findFirst_11 ?_
    refine V_icmp_ge (tgt := 42) dX8_findFirst_12 (by decide) h (fun _ h => ?_) (fun _ h => ?_)
    · refine V_aload_n dX8_findFirst_15 rfl (xm 0 rfl) ?_
      refine V_getR dX8_findFirst_16 fl_X8_15 (sk_75 hS (by decide)) rfl ?_
      refine V_aload_n dX8_findFirst_19 rfl (xm 0 rfl) ?_
      refine V_getI (kI := 0) dX8_findFirst_20 fl_X8_84 (sk_75 hS (by decide)) rfl rfl ?_
      refine T_lald dX8_findFirst_23 (sk_77 hS (by decide)) rfl h (fun r2 h => ?_)
      refine V_lconst (x := 0) dX8_findFirst_24 (by decide) ?_
      refine V_lcmp dX8_findFirst_25 ?_
      refine V_if_ne (tgt := 42) dX8_findFirst_26 (by decide) h (fun _ h => ?_) (fun _ h => ?_)
      · refine V_aload_n dX8_findFirst_29 rfl (xm 0 rfl) ?_
        refine V_dup dX8_findFirst_30 rfl ?_
        refine V_getI (kI := 0) dX8_findFirst_31 fl_X8_84 (sk_75 hS (by decide)) rfl rfl ?_
        refine V_iconst dX8_findFirst_34 ?_
        refine V_iadd dX8_findFirst_35 ?_
        refine T_putI (kI := 0) dX8_findFirst_36 fp_X8_84 (sk_75 hS (by decide)) rfl rfl h (fun M3 h => ?_)
        refine V_goto (tgt := 5) dX8_findFirst_39 (by decide) ?_
        refine V.pick [0, 1] rfl ?_
        exact ih M3 v1 h k
      · cases h
        refine V.pick [0, 1] rfl ?_
        exact k
    · cases h
      refine V.pick [0, 1] rfl ?_
      exact k
theorem fX8_findFirst_L5_ci {S : xS} {kp : Option Nat} (hS : xSk kp 78 S) {Q : Option xV → xS → xM → Prop} {n : Nat} {M : xM} {v1 : Int} {Mz : xM} (hl : fX8_findFirst_L5 n M v1 = some Mz) (k : V Y_X8_findFirst 3 0 0 42 [(0, vR (some 75)), (1, vI v1)] [] S Mz Q) : V Y_X8_findFirst 3 0 0 5 [(0, vR (some 75)), (1, vI v1)] [] S M Q := fX8_findFirst_L5_c hS _ _ _ hl k
def fX8_firstTurn_L3 (n : Nat) (M : xM) (v1 : Int) (v2 : Int) (v3 : Int) (v4 : Int) : Option ((Unit) ⊕ (Int)) := match n with
  | 0 => none
  | n + 1 => (if wr v4 < wr 3 then (xtb [0, 1, -1] 3 v4 fun r1 => xb (fX11_wrap (v2 + r1) v3) fun r3 => xb (fX8_waysBehind M v1 r3) fun r5 => (if 0 < wr (xlcmp r5 0) then (xtb [0, 1, -1] 3 v4 fun r6 => some (.inr r6)) else fX8_firstTurn_L3 n M v1 v2 v3 (v4 + 1))) else some (.inl ()))
set_option maxRecDepth 20000 in
set_option maxHeartbeats 1000000 in
theorem fX8_firstTurn_L3_c {S : xS} {kp : Option Nat} (hS : xSk kp 79 S) {Q : Option xV → xS → xM → Prop} :
    ∀ (n : Nat) (M : xM) (v1 : Int) (v2 : Int) (v3 : Int) (v4 : Int) {E : (Unit) ⊕ (Int)}, fX8_firstTurn_L3 n M v1 v2 v3 v4 = some E → (E = .inl () → V Y_X8_firstTurn 2 0 0 47 [] [] S M Q) → (∀ (w : Int), E = .inr w → Q (some (vI w)) S M) → V Y_X8_firstTurn 2 0 0 3 [(0, vR (some 75)), (1, vI v1), (2, vI v2), (3, vI v3), (4, vI v4)] [] S M Q := by
  intro n
  induction n with
  | zero =>
    intro M v1 v2 v3 v4 E h k kr
    cases h
  | succ n ih =>
    intro M v1 v2 v3 v4 E h k kr
    rw [fX8_firstTurn_L3] at h
    refine V_iload dX8_firstTurn_3 (xm 4 rfl) ?_
    refine V_getsN (host := "TurnedIsland") dX8_firstTurn_5 (by decide +kernel : ("TurnedIsland", "ORDER", "[I", 1) ∈ xZR) (by decide +kernel) ?_
    refine V_tlen (tb := [0, 1, -1]) dX8_firstTurn_8 (by decide +kernel) rfl ?_
    refine V_icmp_ge (tgt := 47) dX8_firstTurn_9 (by decide) h (fun _ h => ?_) (fun _ h => ?_)
    · refine V_aload_n dX8_firstTurn_12 rfl (xm 0 rfl) ?_
      refine V_iload_n dX8_firstTurn_13 rfl (xm 1 rfl) ?_
      refine V_iload_n dX8_firstTurn_14 rfl (xm 2 rfl) ?_
      refine V_getsN (host := "TurnedIsland") dX8_firstTurn_15 (by decide +kernel : ("TurnedIsland", "ORDER", "[I", 1) ∈ xZR) (by decide +kernel) ?_
      refine V_iload dX8_firstTurn_18 (xm 4 rfl) ?_
      refine T_tald (tb := [0, 1, -1]) dX8_firstTurn_20 (by decide +kernel) rfl h (fun r1 h => ?_)
      refine V_iadd dX8_firstTurn_21 ?_
      refine V_iload_n dX8_firstTurn_22 rfl (xm 3 rfl) ?_
      refine xbE h (fun r3 h2 h => ?_)
      refine T_callSNI (host := "TurnedIsland") dX8_firstTurn_23 ok_X11_wrap lk_X8_77.1 lk_X8_77.2 (hV := ((fX11_wrap_c (hS.le (by decide)) h2).mono (by decide) (Nat.le_refl _) (Nat.le_refl _))) rfl (Nat.le_of_ble_eq_true rfl) rfl (Nat.le_of_ble_eq_true rfl) ?_
      refine xbE h (fun r5 h4 h => ?_)
      refine T_callVL dX8_firstTurn_26 ok_X8_waysBehind (by exact ⟨by decide, rfl⟩) lk_X8_80.1 lk_X8_80.2 (sk_75 hS (by decide)) (hV := ((fX8_waysBehind_c (hS.le (by decide)) h4).mono (by decide) (Nat.le_refl _) (Nat.le_refl _))) rfl (Nat.le_of_ble_eq_true rfl) rfl (Nat.le_of_ble_eq_true rfl) ?_
      refine V_lconst (x := 0) dX8_firstTurn_29 (by decide) ?_
      refine V_lcmp dX8_firstTurn_30 ?_
      refine V_if_le (tgt := 41) dX8_firstTurn_31 (by decide) h (fun _ h => ?_) (fun _ h => ?_)
      · refine V_getsN (host := "TurnedIsland") dX8_firstTurn_34 (by decide +kernel : ("TurnedIsland", "ORDER", "[I", 1) ∈ xZR) (by decide +kernel) ?_
        refine V_iload dX8_firstTurn_37 (xm 4 rfl) ?_
        refine T_tald (tb := [0, 1, -1]) dX8_firstTurn_39 (by decide +kernel) rfl h (fun r6 h => ?_)
        exact V_ireti dX8_firstTurn_40 rfl (kr r6 (Option.some.inj h).symm)
      · refine V_iinc (ls' := [(4, vI (v4 + 1)), (0, vR (some 75)), (1, vI v1), (2, vI v2), (3, vI v3)]) dX8_firstTurn_41 (xm 4 rfl) (by decide) rfl ?_
        refine V_goto (tgt := 3) dX8_firstTurn_44 (by decide) ?_
        refine V.pick [1, 2, 3, 4, 0] rfl ?_
        exact ih M v1 v2 v3 (v4 + 1) h k kr
    · refine V.pick [] rfl ?_
      exact k  (Option.some.inj h).symm
theorem fX8_firstTurn_L3_ci {S : xS} {kp : Option Nat} (hS : xSk kp 79 S) {Q : Option xV → xS → xM → Prop} {n : Nat} {M : xM} {v1 : Int} {v2 : Int} {v3 : Int} {v4 : Int} (hl : fX8_firstTurn_L3 n M v1 v2 v3 v4 = some (.inl ())) (k : V Y_X8_firstTurn 2 0 0 47 [] [] S M Q) : V Y_X8_firstTurn 2 0 0 3 [(0, vR (some 75)), (1, vI v1), (2, vI v2), (3, vI v3), (4, vI v4)] [] S M Q := fX8_firstTurn_L3_c hS _ _ _ _ _ _ hl (fun  e => by cases e; exact k) (fun _ e => by cases e)
theorem fX8_firstTurn_L3_cr {S : xS} {kp : Option Nat} (hS : xSk kp 79 S) {Q : Option xV → xS → xM → Prop} {n : Nat} {M : xM} {v1 : Int} {v2 : Int} {v3 : Int} {v4 : Int} {w : Int} (hl : fX8_firstTurn_L3 n M v1 v2 v3 v4 = some (.inr w)) (k : Q (some (vI w)) S M) : V Y_X8_firstTurn 2 0 0 3 [(0, vR (some 75)), (1, vI v1), (2, vI v2), (3, vI v3), (4, vI v4)] [] S M Q := fX8_firstTurn_L3_c hS _ _ _ _ _ _ hl (fun  e => by cases e) (fun _ e => by cases e; exact k)
