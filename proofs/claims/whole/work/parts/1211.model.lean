def fX12_boat (M : xM) (v1 : Int) (v2 : Int) (v3 : Int) : Option Int := (if (fX12_isPlot M v1) = true then (if (fX12_isIn v2 0 59) = true then (if (fX12_isAngle M v3) = true then (xs0 (fX12_boat_L39 xfuel M v1 v2 v3 (M 95 1) 0) (some ((-1))) (fun r => some r)) else some ((-1))) else some ((-1))) else some ((-1)))
set_option maxRecDepth 20000 in
set_option maxHeartbeats 1000000 in
theorem fX12_boat_c {S : xS} {kp : Option Nat} (hS : xSk kp 96 S) {M : xM} {v1 : Int} {v2 : Int} {v3 : Int} {E : Int} (h : fX12_boat M v1 v2 v3 = some E) :
    V Y_X12_boat 2 0 0 0 (xarg 0 [vR (some 94), vI v1, vI v2, vI v3]) [] S M (xqR S M (some (vI E))) := by
  unfold fX12_boat at h
  show V Y_X12_boat 2 0 0 0 [(0, vR (some 94)), (1, vI v1), (2, vI v2), (3, vI v3)] [] S M _
  refine V_aload_n dX12_boat_0 rfl (xm 0 rfl) ?_
  refine V_iload_n dX12_boat_1 rfl (xm 1 rfl) ?_
  refine T_callVI dX12_boat_2 ok_X12_isPlot (by exact ⟨by decide, rfl⟩) lk_X12_226.1 lk_X12_226.2 (sk_94 hS (by decide)) (hV := ((fX12_isPlot_c (hS.le (by decide)) rfl).mono (by decide) (Nat.le_refl _) (Nat.le_refl _))) rfl (Nat.le_of_ble_eq_true rfl) rfl (Nat.le_of_ble_eq_true rfl) ?_
  refine V_if_eqB (tgt := 26) dX12_boat_5 (by decide) h (fun _ h => ?_) (fun _ h => ?_)
  · refine V_iload_n dX12_boat_8 rfl (xm 2 rfl) ?_
    refine V_iconst dX12_boat_9 ?_
    refine V_bipush dX12_boat_10 (by decide) ?_
    refine T_callSI (host := "") dX12_boat_12 ok_X12_isIn lk_X12_70.1 lk_X12_70.2 (hV := ((fX12_isIn_c (hS.le (by decide)) rfl).mono (by decide) (Nat.le_refl _) (Nat.le_refl _))) rfl (Nat.le_of_ble_eq_true rfl) rfl (Nat.le_of_ble_eq_true rfl) ?_
    refine V_if_eqB (tgt := 26) dX12_boat_15 (by decide) h (fun _ h => ?_) (fun _ h => ?_)
    · refine V_aload_n dX12_boat_18 rfl (xm 0 rfl) ?_
      refine V_iload_n dX12_boat_19 rfl (xm 3 rfl) ?_
      refine T_callVI dX12_boat_20 ok_X12_isAngle (by exact ⟨by decide, rfl⟩) lk_X12_74.1 lk_X12_74.2 (sk_94 hS (by decide)) (hV := ((fX12_isAngle_c (hS.le (by decide)) rfl).mono (by decide) (Nat.le_refl _) (Nat.le_refl _))) rfl (Nat.le_of_ble_eq_true rfl) rfl (Nat.le_of_ble_eq_true rfl) ?_
      refine V_if_neB (tgt := 28) dX12_boat_23 (by decide) h (fun _ h => ?_) (fun _ h => ?_)
      · refine V_aload_n dX12_boat_28 rfl (xm 0 rfl) ?_
        refine V_getR dX12_boat_29 fl_X12_7 (sk_94 hS (by decide)) rfl ?_
        refine V_iconst dX12_boat_32 ?_
        refine V_ialdK (j := 1) dX12_boat_33 (sk_95 hS (by decide)) (by decide) (by decide) ?_
        refine V_istore (ls' := [(4, vI (M 95 1)), (0, vR (some 94)), (1, vI v1), (2, vI v2), (3, vI v3)]) dX12_boat_34 (by decide) rfl ?_
        refine V_iconst dX12_boat_36 ?_
        refine V_istore (ls' := [(5, vI 0), (4, vI (M 95 1)), (0, vR (some 94)), (1, vI v1), (2, vI v2), (3, vI v3)]) dX12_boat_37 (by decide) rfl ?_
        refine xs0E h (fun  h6 h => ?_) (fun r h6 h => ?_)
        · refine V.pick [2, 3, 4, 5, 1, 0] rfl ?_
          refine fX12_boat_L39_ci (hS.le (by decide)) h6 ?_
          refine V_iconst dX12_boat_95 ?_
          exact V_ireti dX12_boat_96 rfl (q_pI h)
        · refine V.pick [2, 3, 4, 5, 1, 0] rfl ?_
          refine fX12_boat_L39_cr (hS.le (by decide)) h6 ?_
          exact q_pI h
      · refine V_iconst dX12_boat_26 ?_
        exact V_ireti dX12_boat_27 rfl (q_pI h)
    · refine V_iconst dX12_boat_26 ?_
      exact V_ireti dX12_boat_27 rfl (q_pI h)
  · refine V_iconst dX12_boat_26 ?_
    exact V_ireti dX12_boat_27 rfl (q_pI h)
def fX12_log (M : xM) (v1 : Int) (v2 : Int) (v3 : Int) : Option (Bool × xM) := (if (fX12_isDay v1) = true then (if (fX12_isPlot M v2) = true then (if (fX12_isAngle M v3) = true then (if wr (M 95 8) = wr 40 then some (false, M) else (xwt M 95 5820 (490 + (3 * (M 95 8))) v1 fun M1 => xwt M1 95 5820 ((490 + (3 * (M 95 8))) + 1) v2 fun M2 => xwt M2 95 5820 ((490 + (3 * (M 95 8))) + 2) v3 fun M3 => xlet (xup M3 95 8 ((M3 95 8) + 1)) fun M4 => some (true, M4))) else some (false, M)) else some (false, M)) else some (false, M))
set_option maxRecDepth 20000 in
set_option maxHeartbeats 1000000 in
theorem fX12_log_c {S : xS} {kp : Option Nat} (hS : xSk kp 96 S) {M : xM} {v1 : Int} {v2 : Int} {v3 : Int} {E : Bool × xM} (h : fX12_log M v1 v2 v3 = some E) :
    V Y_X12_log 2 0 0 0 (xarg 0 [vR (some 94), vI v1, vI v2, vI v3]) [] S M (xqR S E.2 (some (vI (b2i E.1)))) := by
  unfold fX12_log at h
  show V Y_X12_log 2 0 0 0 [(0, vR (some 94)), (1, vI v1), (2, vI v2), (3, vI v3)] [] S M _
  refine V_iload_n dX12_log_0 rfl (xm 1 rfl) ?_
  refine T_callSI (host := "") dX12_log_1 ok_X12_isDay lk_X12_229.1 lk_X12_229.2 (hV := ((fX12_isDay_c (hS.le (by decide)) rfl).mono (by decide) (Nat.le_refl _) (Nat.le_refl _))) rfl (Nat.le_of_ble_eq_true rfl) rfl (Nat.le_of_ble_eq_true rfl) ?_
  refine V_if_eqB (tgt := 35) dX12_log_4 (by decide) h (fun _ h => ?_) (fun _ h => ?_)
  · refine V_aload_n dX12_log_7 rfl (xm 0 rfl) ?_
    refine V_iload_n dX12_log_8 rfl (xm 2 rfl) ?_
    refine T_callVI dX12_log_9 ok_X12_isPlot (by exact ⟨by decide, rfl⟩) lk_X12_226.1 lk_X12_226.2 (sk_94 hS (by decide)) (hV := ((fX12_isPlot_c (hS.le (by decide)) rfl).mono (by decide) (Nat.le_refl _) (Nat.le_refl _))) rfl (Nat.le_of_ble_eq_true rfl) rfl (Nat.le_of_ble_eq_true rfl) ?_
    refine V_if_eqB (tgt := 35) dX12_log_12 (by decide) h (fun _ h => ?_) (fun _ h => ?_)
    · refine V_aload_n dX12_log_15 rfl (xm 0 rfl) ?_
      refine V_iload_n dX12_log_16 rfl (xm 3 rfl) ?_
      refine T_callVI dX12_log_17 ok_X12_isAngle (by exact ⟨by decide, rfl⟩) lk_X12_74.1 lk_X12_74.2 (sk_94 hS (by decide)) (hV := ((fX12_isAngle_c (hS.le (by decide)) rfl).mono (by decide) (Nat.le_refl _) (Nat.le_refl _))) rfl (Nat.le_of_ble_eq_true rfl) rfl (Nat.le_of_ble_eq_true rfl) ?_
      refine V_if_eqB (tgt := 35) dX12_log_20 (by decide) h (fun _ h => ?_) (fun _ h => ?_)
      · refine V_aload_n dX12_log_23 rfl (xm 0 rfl) ?_
        refine V_getR dX12_log_24 fl_X12_7 (sk_94 hS (by decide)) rfl ?_
        refine V_bipush dX12_log_27 (by decide) ?_
        refine V_ialdK (j := 8) dX12_log_29 (sk_95 hS (by decide)) (by decide) (by decide) ?_
        refine V_bipush dX12_log_30 (by decide) ?_
        refine V_icmp_ne (tgt := 37) dX12_log_32 (by decide) h (fun _ h => ?_) (fun _ h => ?_)
        · refine V_iconst dX12_log_35 ?_
          exact V_iretb (b := false) dX12_log_36 rfl (by decide) (q_wB h)
        · refine V_sipush dX12_log_37 (by decide) ?_
          refine V_iconst dX12_log_40 ?_
          refine V_aload_n dX12_log_41 rfl (xm 0 rfl) ?_
          refine V_getR dX12_log_42 fl_X12_7 (sk_94 hS (by decide)) rfl ?_
          refine V_bipush dX12_log_45 (by decide) ?_
          refine V_ialdK (j := 8) dX12_log_47 (sk_95 hS (by decide)) (by decide) (by decide) ?_
          refine V_imul dX12_log_48 ?_
          refine V_iadd dX12_log_49 ?_
          refine V_istore (ls' := [(4, vI (490 + (3 * (M 95 8)))), (0, vR (some 94)), (1, vI v1), (2, vI v2), (3, vI v3)]) dX12_log_50 (by decide) rfl ?_
          refine V_aload_n dX12_log_52 rfl (xm 1 rfl) ?_
          refine V_getR dX12_log_53 fl_X12_7 (sk_94 hS (by decide)) rfl ?_
          refine V_iload dX12_log_56 (xm 0 rfl) ?_
          refine V_iload_n dX12_log_58 rfl (xm 2 rfl) ?_
          refine T_iast dX12_log_59 (sk_95 hS (by decide)) rfl h (fun M1 h => ?_)
          refine V_aload_n dX12_log_60 rfl (xm 1 rfl) ?_
          refine V_getR dX12_log_61 fl_X12_7 (sk_94 hS (by decide)) rfl ?_
          refine V_iload dX12_log_64 (xm 0 rfl) ?_
          refine V_iconst dX12_log_66 ?_
          refine V_iadd dX12_log_67 ?_
          refine V_iload_n dX12_log_68 rfl (xm 3 rfl) ?_
          refine T_iast dX12_log_69 (sk_95 hS (by decide)) rfl h (fun M2 h => ?_)
          refine V_aload_n dX12_log_70 rfl (xm 1 rfl) ?_
          refine V_getR dX12_log_71 fl_X12_7 (sk_94 hS (by decide)) rfl ?_
          refine V_iload dX12_log_74 (xm 0 rfl) ?_
          refine V_iconst dX12_log_76 ?_
          refine V_iadd dX12_log_77 ?_
          refine V_iload_n dX12_log_78 rfl (xm 4 rfl) ?_
          refine T_iast dX12_log_79 (sk_95 hS (by decide)) rfl h (fun M3 h => ?_)
          refine V_aload_n dX12_log_80 rfl (xm 1 rfl) ?_
          refine V_getR dX12_log_81 fl_X12_7 (sk_94 hS (by decide)) rfl ?_
          refine V_bipush dX12_log_84 (by decide) ?_
          refine V_dup2 dX12_log_86 rfl rfl ?_
          refine V_ialdK (j := 8) dX12_log_87 (sk_95 hS (by decide)) (by decide) (by decide) ?_
          refine V_iconst dX12_log_88 ?_
          refine V_iadd dX12_log_89 ?_
          refine xletE h (fun M4 eM4 h => ?_)
          refine V_iastK (j := 8) dX12_log_90 (sk_95 hS (by decide)) (by decide) (by decide) ?_
          rw [← eM4]
          refine V_iconst dX12_log_91 ?_
          exact V_iretb (b := true) dX12_log_92 rfl (by decide) (q_wB h)
      · refine V_iconst dX12_log_35 ?_
        exact V_iretb (b := false) dX12_log_36 rfl (by decide) (q_wB h)
    · refine V_iconst dX12_log_35 ?_
      exact V_iretb (b := false) dX12_log_36 rfl (by decide) (q_wB h)
  · refine V_iconst dX12_log_35 ?_
    exact V_iretb (b := false) dX12_log_36 rfl (by decide) (q_wB h)
def fX12_goesWith_L2 (n : Nat) (M : xM) (v1 : Int) (v2 : Int) (v3 : Int) : Option ((Unit) ⊕ (Bool)) := match n with
  | 0 => none
  | n + 1 => (if wr v3 < wr (M 95 8) then (xrd M 95 5820 (490 + (3 * v3)) fun r1 => (if wr r1 = wr v1 then (xrd M 95 5820 ((490 + (3 * v3)) + 1) fun r2 => xb (fX12_of0 M r2 0) fun r4 => xb (fX12_modulo M (r4 + v2)) fun r6 => xrd M 95 5820 ((490 + (3 * v3)) + 2) fun r7 => (if wr r6 = wr r7 then fX12_goesWith_L2 n M v1 v2 (v3 + 1) else some (.inr false))) else fX12_goesWith_L2 n M v1 v2 (v3 + 1))) else some (.inl ()))
set_option maxRecDepth 20000 in
set_option maxHeartbeats 1000000 in
theorem fX12_goesWith_L2_c {S : xS} {kp : Option Nat} (hS : xSk kp 96 S) {Q : Option xV → xS → xM → Prop} :
    ∀ (n : Nat) (M : xM) (v1 : Int) (v2 : Int) (v3 : Int) {E : (Unit) ⊕ (Bool)}, fX12_goesWith_L2 n M v1 v2 v3 = some E → (E = .inl () → V Y_X12_goesWith 1 0 0 73 [] [] S M Q) → (∀ (w : Bool), E = .inr w → Q (some (vI (b2i w))) S M) → V Y_X12_goesWith 1 0 0 2 [(0, vR (some 94)), (1, vI v1), (2, vI v2), (3, vI v3)] [] S M Q := by
  intro n
  induction n with
  | zero =>
    intro M v1 v2 v3 E h k kr
    cases h
  | succ n ih =>
    intro M v1 v2 v3 E h k kr
    rw [fX12_goesWith_L2] at h
    refine V_iload_n dX12_goesWith_2 rfl (xm 3 rfl) ?_
    refine V_aload_n dX12_goesWith_3 rfl (xm 0 rfl) ?_
    refine V_getR dX12_goesWith_4 fl_X12_7 (sk_94 hS (by decide)) rfl ?_
    refine V_bipush dX12_goesWith_7 (by decide) ?_
    refine V_ialdK (j := 8) dX12_goesWith_9 (sk_95 hS (by decide)) (by decide) (by decide) ?_
    refine V_icmp_ge (tgt := 73) dX12_goesWith_10 (by decide) h (fun _ h => ?_) (fun _ h => ?_)
    · refine V_sipush dX12_goesWith_13 (by decide) ?_
      refine V_iconst dX12_goesWith_16 ?_
      refine V_iload_n dX12_goesWith_17 rfl (xm 3 rfl) ?_
      refine V_imul dX12_goesWith_18 ?_
      refine V_iadd dX12_goesWith_19 ?_
      refine V_istore (ls' := [(4, vI (490 + (3 * v3))), (0, vR (some 94)), (1, vI v1), (2, vI v2), (3, vI v3)]) dX12_goesWith_20 (by decide) rfl ?_
      refine V_aload_n dX12_goesWith_22 rfl (xm 1 rfl) ?_
      refine V_getR dX12_goesWith_23 fl_X12_7 (sk_94 hS (by decide)) rfl ?_
      refine V_iload dX12_goesWith_26 (xm 0 rfl) ?_
      refine T_iald dX12_goesWith_28 (sk_95 hS (by decide)) rfl h (fun r1 h => ?_)
      refine V_iload_n dX12_goesWith_29 rfl (xm 2 rfl) ?_
      refine V_icmp_ne (tgt := 67) dX12_goesWith_30 (by decide) h (fun _ h => ?_) (fun _ h => ?_)
      · refine V_aload_n dX12_goesWith_33 rfl (xm 1 rfl) ?_
        refine V_aload_n dX12_goesWith_34 rfl (xm 1 rfl) ?_
        refine V_aload_n dX12_goesWith_35 rfl (xm 1 rfl) ?_
        refine V_getR dX12_goesWith_36 fl_X12_7 (sk_94 hS (by decide)) rfl ?_
        refine V_iload dX12_goesWith_39 (xm 0 rfl) ?_
        refine V_iconst dX12_goesWith_41 ?_
        refine V_iadd dX12_goesWith_42 ?_
        refine T_iald dX12_goesWith_43 (sk_95 hS (by decide)) rfl h (fun r2 h => ?_)
        refine V_iconst dX12_goesWith_44 ?_
        refine xbE h (fun r4 h3 h => ?_)
        refine T_callVI dX12_goesWith_45 ok_X12_of0 (by exact ⟨by decide, rfl⟩) lk_X12_212.1 lk_X12_212.2 (sk_94 hS (by decide)) (hV := ((fX12_of0_c (hS.le (by decide)) h3).mono (by decide) (Nat.le_refl _) (Nat.le_refl _))) rfl (Nat.le_of_ble_eq_true rfl) rfl (Nat.le_of_ble_eq_true rfl) ?_
        refine V_iload_n dX12_goesWith_48 rfl (xm 3 rfl) ?_
        refine V_iadd dX12_goesWith_49 ?_
        refine xbE h (fun r6 h5 h => ?_)
        refine T_callVI dX12_goesWith_50 ok_X12_modulo (by exact ⟨by decide, rfl⟩) lk_X12_216.1 lk_X12_216.2 (sk_94 hS (by decide)) (hV := ((fX12_modulo_c (hS.le (by decide)) h5).mono (by decide) (Nat.le_refl _) (Nat.le_refl _))) rfl (Nat.le_of_ble_eq_true rfl) rfl (Nat.le_of_ble_eq_true rfl) ?_
        refine V_aload_n dX12_goesWith_53 rfl (xm 1 rfl) ?_
        refine V_getR dX12_goesWith_54 fl_X12_7 (sk_94 hS (by decide)) rfl ?_
        refine V_iload dX12_goesWith_57 (xm 0 rfl) ?_
        refine V_iconst dX12_goesWith_59 ?_
        refine V_iadd dX12_goesWith_60 ?_
        refine T_iald dX12_goesWith_61 (sk_95 hS (by decide)) rfl h (fun r7 h => ?_)
        refine V_icmp_eq (tgt := 67) dX12_goesWith_62 (by decide) h (fun _ h => ?_) (fun _ h => ?_)
        · refine V_iinc (ls' := [(3, vI (v3 + 1)), (4, vI (490 + (3 * v3))), (0, vR (some 94)), (1, vI v1), (2, vI v2)]) dX12_goesWith_67 (xm 4 rfl) (by decide) rfl ?_
          refine V_goto (tgt := 2) dX12_goesWith_70 (by decide) ?_
          refine V.pick [2, 3, 4, 0] rfl ?_
          exact ih M v1 v2 (v3 + 1) h k kr
        · refine V_iconst dX12_goesWith_65 ?_
          exact V_iretb (b := false) dX12_goesWith_66 rfl (by decide) (kr false (Option.some.inj h).symm)
      · refine V_iinc (ls' := [(3, vI (v3 + 1)), (4, vI (490 + (3 * v3))), (0, vR (some 94)), (1, vI v1), (2, vI v2)]) dX12_goesWith_67 (xm 4 rfl) (by decide) rfl ?_
        refine V_goto (tgt := 2) dX12_goesWith_70 (by decide) ?_
        refine V.pick [2, 3, 4, 0] rfl ?_
        exact ih M v1 v2 (v3 + 1) h k kr
    · refine V.pick [] rfl ?_
      exact k  (Option.some.inj h).symm
theorem fX12_goesWith_L2_ci {S : xS} {kp : Option Nat} (hS : xSk kp 96 S) {Q : Option xV → xS → xM → Prop} {n : Nat} {M : xM} {v1 : Int} {v2 : Int} {v3 : Int} (hl : fX12_goesWith_L2 n M v1 v2 v3 = some (.inl ())) (k : V Y_X12_goesWith 1 0 0 73 [] [] S M Q) : V Y_X12_goesWith 1 0 0 2 [(0, vR (some 94)), (1, vI v1), (2, vI v2), (3, vI v3)] [] S M Q := fX12_goesWith_L2_c hS _ _ _ _ _ hl (fun  e => by cases e; exact k) (fun _ e => by cases e)
theorem fX12_goesWith_L2_cr {S : xS} {kp : Option Nat} (hS : xSk kp 96 S) {Q : Option xV → xS → xM → Prop} {n : Nat} {M : xM} {v1 : Int} {v2 : Int} {v3 : Int} {w : Bool} (hl : fX12_goesWith_L2 n M v1 v2 v3 = some (.inr w)) (k : Q (some (vI (b2i w))) S M) : V Y_X12_goesWith 1 0 0 2 [(0, vR (some 94)), (1, vI v1), (2, vI v2), (3, vI v3)] [] S M Q := fX12_goesWith_L2_c hS _ _ _ _ _ hl (fun  e => by cases e) (fun _ e => by cases e; exact k)
def fX12_goesWith (M : xM) (v1 : Int) (v2 : Int) : Option Bool := xs0 (fX12_goesWith_L2 xfuel M v1 v2 0) (some true) (fun r => some r)
set_option maxRecDepth 20000 in
set_option maxHeartbeats 1000000 in
theorem fX12_goesWith_c {S : xS} {kp : Option Nat} (hS : xSk kp 96 S) {M : xM} {v1 : Int} {v2 : Int} {E : Bool} (h : fX12_goesWith M v1 v2 = some E) :
    V Y_X12_goesWith 1 0 0 0 (xarg 0 [vR (some 94), vI v1, vI v2]) [] S M (xqR S M (some (vI (b2i E)))) := by
  unfold fX12_goesWith at h
  show V Y_X12_goesWith 1 0 0 0 [(0, vR (some 94)), (1, vI v1), (2, vI v2)] [] S M _
  refine V_iconst dX12_goesWith_0 ?_
  refine V_istore_n (ls' := [(3, vI 0), (0, vR (some 94)), (1, vI v1), (2, vI v2)]) dX12_goesWith_1 rfl (by decide) rfl ?_
  refine xs0E h (fun  h8 h => ?_) (fun r h8 h => ?_)
  · refine V.pick [1, 2, 3, 0] rfl ?_
    refine fX12_goesWith_L2_ci (hS.le (by decide)) h8 ?_
    refine V_iconst dX12_goesWith_73 ?_
    exact V_iretb (b := true) dX12_goesWith_74 rfl (by decide) (q_pB h)
  · refine V.pick [1, 2, 3, 0] rfl ?_
    refine fX12_goesWith_L2_cr (hS.le (by decide)) h8 ?_
    exact q_pB h
def fX12_laysWays_L9 (n : Nat) (M : xM) (v1 : Int) (v3 : Int) (v4 : Int) : Option (xM) := match n with
  | 0 => none
  | n + 1 => (if wr v4 < wr (M 95 0) then (xwt M 110 984 ((24 * v3) + v4) 1 fun M1 => fX12_laysWays_L9 n M1 v1 v3 (v4 + 1)) else some M)
set_option maxRecDepth 20000 in
set_option maxHeartbeats 1000000 in
theorem fX12_laysWays_L9_c {S : xS} {kp : Option Nat} (hS : xSk kp 111 S) {Q : Option xV → xS → xM → Prop} :
    ∀ (n : Nat) (M : xM) (v1 : Int) (v3 : Int) (v4 : Int) {Mz : xM}, fX12_laysWays_L9 n M v1 v3 v4 = some Mz → V Y_X12_laysWays 2 0 0 39 [(0, vR (some 94)), (1, vI v1), (3, vI v3)] [] S Mz Q → V Y_X12_laysWays 2 0 0 9 [(0, vR (some 94)), (1, vI v1), (3, vI v3), (4, vI v4)] [] S M Q := by
  intro n
  induction n with
  | zero =>
    intro M v1 v3 v4 Mz h k
    cases h
  | succ n ih =>
    intro M v1 v3 v4 Mz h k
    rw [fX12_laysWays_L9] at h
    refine V_iload dX12_laysWays_9 (xm 3 rfl) ?_
    refine V_aload_n dX12_laysWays_11 rfl (xm 0 rfl) ?_
    refine V_getR dX12_laysWays_12 fl_X12_7 (sk_94 hS (by decide)) rfl ?_
    refine V_iconst dX12_laysWays_15 ?_
    refine V_ialdK (j := 0) dX12_laysWays_16 (sk_95 hS (by decide)) (by decide) (by decide) ?_
    refine V_icmp_ge (tgt := 39) dX12_laysWays_17 (by decide) h (fun _ h => ?_) (fun _ h => ?_)
    · refine V_aload_n dX12_laysWays_20 rfl (xm 0 rfl) ?_
      refine V_getR dX12_laysWays_21 fl_X12_59 (sk_94 hS (by decide)) rfl ?_
      refine V_bipush dX12_laysWays_24 (by decide) ?_
      refine V_iload_n dX12_laysWays_26 rfl (xm 2 rfl) ?_
      refine V_imul dX12_laysWays_27 ?_
      refine V_iload dX12_laysWays_28 (xm 3 rfl) ?_
      refine V_iadd dX12_laysWays_30 ?_
      refine V_lconst (x := 1) dX12_laysWays_31 (by decide) ?_
      refine T_last dX12_laysWays_32 (sk_110 hS (by decide)) rfl h (fun M1 h => ?_)
      refine V_iinc (ls' := [(4, vI (v4 + 1)), (0, vR (some 94)), (1, vI v1), (3, vI v3)]) dX12_laysWays_33 (xm 3 rfl) (by decide) rfl ?_
      refine V_goto (tgt := 9) dX12_laysWays_36 (by decide) ?_
      refine V.pick [1, 2, 3, 0] rfl ?_
      exact ih M1 v1 v3 (v4 + 1) h k
    · cases h
      refine V.pick [0, 1, 2] rfl ?_
      exact k
theorem fX12_laysWays_L9_ci {S : xS} {kp : Option Nat} (hS : xSk kp 111 S) {Q : Option xV → xS → xM → Prop} {n : Nat} {M : xM} {v1 : Int} {v3 : Int} {v4 : Int} {Mz : xM} (hl : fX12_laysWays_L9 n M v1 v3 v4 = some Mz) (k : V Y_X12_laysWays 2 0 0 39 [(0, vR (some 94)), (1, vI v1), (3, vI v3)] [] S Mz Q) : V Y_X12_laysWays 2 0 0 9 [(0, vR (some 94)), (1, vI v1), (3, vI v3), (4, vI v4)] [] S M Q := fX12_laysWays_L9_c hS _ _ _ _ _ hl k
def fX12_laysWays_L69 (n : Nat) (M : xM) (v1 : Int) (v4 : Int) (v5 : Int) (v6 : Int) (v8 : Int) : Option (Int) := match n with
  | 0 => none
  | n + 1 => (if wr v8 < wr 2 then (xb (fX12_modulo M (v5 + v8)) fun r5 => xb (fX12_goesWith M (v1 + v4) r5) fun r7 => (if r7 = true then (xb (fX12_modulo M (v5 + v8)) fun r9 => xrd M 110 984 ((24 * (v4 + 1)) + r9) fun r10 => fX12_laysWays_L69 n M v1 v4 v5 (v6 + r10) (v8 + 1)) else fX12_laysWays_L69 n M v1 v4 v5 v6 (v8 + 1))) else some v6)
set_option maxRecDepth 20000 in
set_option maxHeartbeats 1000000 in
theorem fX12_laysWays_L69_c {S : xS} {kp : Option Nat} (hS : xSk kp 111 S) {Q : Option xV → xS → xM → Prop} :
    ∀ (n : Nat) (M : xM) (v1 : Int) (v4 : Int) (v5 : Int) (v6 : Int) (v8 : Int) {x6 : Int}, fX12_laysWays_L69 n M v1 v4 v5 v6 v8 = some x6 → V Y_X12_laysWays 2 0 0 128 [(0, vR (some 94)), (1, vI v1), (4, vI v4), (5, vI v5), (6, vL x6)] [] S M Q → V Y_X12_laysWays 2 0 0 69 [(0, vR (some 94)), (1, vI v1), (4, vI v4), (5, vI v5), (6, vL v6), (8, vI v8)] [] S M Q := by
  intro n
  induction n with
  | zero =>
    intro M v1 v4 v5 v6 v8 x6 h k
    cases h
  | succ n ih =>
    intro M v1 v4 v5 v6 v8 x6 h k
    rw [fX12_laysWays_L69] at h
    refine V_iload dX12_laysWays_69 (xm 5 rfl) ?_
    refine V_iconst dX12_laysWays_71 ?_
    refine V_icmp_ge (tgt := 128) dX12_laysWays_72 (by decide) h (fun _ h => ?_) (fun _ h => ?_)
    · refine V_aload_n dX12_laysWays_75 rfl (xm 0 rfl) ?_
      refine V_iload_n dX12_laysWays_76 rfl (xm 1 rfl) ?_
      refine V_iload dX12_laysWays_77 (xm 2 rfl) ?_
      refine V_iadd dX12_laysWays_79 ?_
      refine V_aload_n dX12_laysWays_80 rfl (xm 0 rfl) ?_
      refine V_iload dX12_laysWays_81 (xm 3 rfl) ?_
      refine V_iload dX12_laysWays_83 (xm 5 rfl) ?_
      refine V_iadd dX12_laysWays_85 ?_
      refine xbE h (fun r5 h4 h => ?_)
      refine T_callVI dX12_laysWays_86 ok_X12_modulo (by exact ⟨by decide, rfl⟩) lk_X12_216.1 lk_X12_216.2 (sk_94 hS (by decide)) (hV := ((fX12_modulo_c (hS.le (by decide)) h4).mono (by decide) (Nat.le_refl _) (Nat.le_refl _))) rfl (Nat.le_of_ble_eq_true rfl) rfl (Nat.le_of_ble_eq_true rfl) ?_
      refine xbE h (fun r7 h6 h => ?_)
      refine T_callVI dX12_laysWays_89 ok_X12_goesWith (by exact ⟨by decide, rfl⟩) lk_X12_322.1 lk_X12_322.2 (sk_94 hS (by decide)) (hV := ((fX12_goesWith_c (hS.le (by decide)) h6).mono (by decide) (Nat.le_refl _) (Nat.le_refl _))) rfl (Nat.le_of_ble_eq_true rfl) rfl (Nat.le_of_ble_eq_true rfl) ?_
      refine V_if_eqB (tgt := 122) dX12_laysWays_92 (by decide) h (fun _ h => ?_) (fun _ h => ?_)
      · refine V_lload dX12_laysWays_95 (xm 4 rfl) ?_
        refine V_aload_n dX12_laysWays_97 rfl (xm 0 rfl) ?_
        refine V_getR dX12_laysWays_98 fl_X12_59 (sk_94 hS (by decide)) rfl ?_
        refine V_bipush dX12_laysWays_101 (by decide) ?_
        refine V_iload dX12_laysWays_103 (xm 2 rfl) ?_
        refine V_iconst dX12_laysWays_105 ?_
        refine V_iadd dX12_laysWays_106 ?_
        refine V_imul dX12_laysWays_107 ?_
        refine V_aload_n dX12_laysWays_108 rfl (xm 0 rfl) ?_
        refine V_iload dX12_laysWays_109 (xm 3 rfl) ?_
        refine V_iload dX12_laysWays_111 (xm 5 rfl) ?_
        refine V_iadd dX12_laysWays_113 ?_
        refine xbE h (fun r9 h8 h => ?_)
        refine T_callVI dX12_laysWays_114 ok_X12_modulo (by exact ⟨by decide, rfl⟩) lk_X12_216.1 lk_X12_216.2 (sk_94 hS (by decide)) (hV := ((fX12_modulo_c (hS.le (by decide)) h8).mono (by decide) (Nat.le_refl _) (Nat.le_refl _))) rfl (Nat.le_of_ble_eq_true rfl) rfl (Nat.le_of_ble_eq_true rfl) ?_
        refine V_iadd dX12_laysWays_117 ?_
        refine T_lald dX12_laysWays_118 (sk_110 hS (by decide)) rfl h (fun r10 h => ?_)
        refine V_ladd dX12_laysWays_119 ?_
        refine V_lstore (ls' := [(6, vL (v6 + r10)), (0, vR (some 94)), (1, vI v1), (4, vI v4), (5, vI v5), (8, vI v8)]) dX12_laysWays_120 (by decide) rfl ?_
        refine V_iinc (ls' := [(8, vI (v8 + 1)), (6, vL (v6 + r10)), (0, vR (some 94)), (1, vI v1), (4, vI v4), (5, vI v5)]) dX12_laysWays_122 (xm 5 rfl) (by decide) rfl ?_
        refine V_goto (tgt := 69) dX12_laysWays_125 (by decide) ?_
        refine V.pick [2, 3, 4, 5, 1, 0] rfl ?_
        exact ih M v1 v4 v5 (v6 + r10) (v8 + 1) h k
      · refine V_iinc (ls' := [(8, vI (v8 + 1)), (0, vR (some 94)), (1, vI v1), (4, vI v4), (5, vI v5), (6, vL v6)]) dX12_laysWays_122 (xm 5 rfl) (by decide) rfl ?_
        refine V_goto (tgt := 69) dX12_laysWays_125 (by decide) ?_
        refine V.pick [1, 2, 3, 4, 5, 0] rfl ?_
        exact ih M v1 v4 v5 v6 (v8 + 1) h k
    · cases h
      refine V.pick [0, 1, 2, 3, 4] rfl ?_
      exact k
theorem fX12_laysWays_L69_ci {S : xS} {kp : Option Nat} (hS : xSk kp 111 S) {Q : Option xV → xS → xM → Prop} {n : Nat} {M : xM} {v1 : Int} {v4 : Int} {v5 : Int} {v6 : Int} {v8 : Int} {x6 : Int} (hl : fX12_laysWays_L69 n M v1 v4 v5 v6 v8 = some x6) (k : V Y_X12_laysWays 2 0 0 128 [(0, vR (some 94)), (1, vI v1), (4, vI v4), (5, vI v5), (6, vL x6)] [] S M Q) : V Y_X12_laysWays 2 0 0 69 [(0, vR (some 94)), (1, vI v1), (4, vI v4), (5, vI v5), (6, vL v6), (8, vI v8)] [] S M Q := fX12_laysWays_L69_c hS _ _ _ _ _ _ _ hl k
def fX12_laysWays_L52 (n : Nat) (M : xM) (v1 : Int) (v4 : Int) (v5 : Int) : Option (xM) := match n with
  | 0 => none
  | n + 1 => (if wr v5 < wr (M 95 0) then (xb (fX12_laysWays_L69 xfuel M v1 v4 v5 0 ((-1))) fun y11 => xj (fun (s13 : Int) => xwt M 110 984 ((24 * v4) + v5) s13 fun M15 => fX12_laysWays_L52 n M15 v1 v4 (v5 + 1)) fun j14 => (if 0 < wr (xlcmp y11 100000000000000000) then j14 100000000000000000 else j14 y11)) else some M)
set_option maxRecDepth 20000 in
set_option maxHeartbeats 1000000 in
theorem fX12_laysWays_L52_c {S : xS} {kp : Option Nat} (hS : xSk kp 111 S) {Q : Option xV → xS → xM → Prop} :
    ∀ (n : Nat) (M : xM) (v1 : Int) (v4 : Int) (v5 : Int) {Mz : xM}, fX12_laysWays_L52 n M v1 v4 v5 = some Mz → V Y_X12_laysWays 2 0 0 164 [(0, vR (some 94)), (1, vI v1), (4, vI v4)] [] S Mz Q → V Y_X12_laysWays 2 0 0 52 [(0, vR (some 94)), (1, vI v1), (4, vI v4), (5, vI v5)] [] S M Q := by
  intro n
  induction n with
  | zero =>
    intro M v1 v4 v5 Mz h k
    cases h
  | succ n ih =>
    intro M v1 v4 v5 Mz h k
    rw [fX12_laysWays_L52] at h
    refine V_iload dX12_laysWays_52 (xm 3 rfl) ?_
    refine V_aload_n dX12_laysWays_54 rfl (xm 0 rfl) ?_
    refine V_getR dX12_laysWays_55 fl_X12_7 (sk_94 hS (by decide)) rfl ?_
    refine V_iconst dX12_laysWays_58 ?_
    refine V_ialdK (j := 0) dX12_laysWays_59 (sk_95 hS (by decide)) (by decide) (by decide) ?_
    refine V_icmp_ge (tgt := 164) dX12_laysWays_60 (by decide) h (fun _ h => ?_) (fun _ h => ?_)
    · refine V_lconst (x := 0) dX12_laysWays_63 (by decide) ?_
      refine V_lstore (ls' := [(6, vL 0), (0, vR (some 94)), (1, vI v1), (4, vI v4), (5, vI v5)]) dX12_laysWays_64 (by decide) rfl ?_
      refine V_iconst dX12_laysWays_66 ?_
      refine V_istore (ls' := [(8, vI ((-1))), (6, vL 0), (0, vR (some 94)), (1, vI v1), (4, vI v4), (5, vI v5)]) dX12_laysWays_67 (by decide) rfl ?_
      refine xbE h (fun y11 h12 h => ?_)
      refine V.pick [2, 3, 4, 5, 1, 0] rfl ?_
      refine fX12_laysWays_L69_ci (hS.le (by decide)) h12 ?_
      refine V_aload_n dX12_laysWays_128 rfl (xm 0 rfl) ?_
      refine V_getR dX12_laysWays_129 fl_X12_59 (sk_94 hS (by decide)) rfl ?_
      refine V_bipush dX12_laysWays_132 (by decide) ?_
      refine V_iload dX12_laysWays_134 (xm 2 rfl) ?_
      refine V_imul dX12_laysWays_136 ?_
      refine V_iload dX12_laysWays_137 (xm 3 rfl) ?_
      refine V_iadd dX12_laysWays_139 ?_
      refine V_lload dX12_laysWays_140 (xm 4 rfl) ?_
      refine V_ldc2 (n := 100000000000000000) dX12_laysWays_142 (xsg7 151 rfl rfl : Cond.constantLong RX12 325 100000000000000000 ∈ xT) (by decide) ?_
      refine V_lcmp dX12_laysWays_145 ?_
      refine xjE h (fun j14 hj14 h => ?_)
      have kj14 : ∀ (s13 : Int), j14 s13 = some Mz → V Y_X12_laysWays 2 0 0 157 [(0, vR (some 94)), (1, vI v1), (4, vI v4), (5, vI v5)] [vL s13, vI ((24 * v4) + v5), vR (some 110)] S M Q := by
        intro s13 h
        rw [hj14] at h
        refine T_last dX12_laysWays_157 (sk_110 hS (by decide)) rfl h (fun M15 h => ?_)
        refine V_iinc (ls' := [(5, vI (v5 + 1)), (0, vR (some 94)), (1, vI v1), (4, vI v4)]) dX12_laysWays_158 (xm 3 rfl) (by decide) rfl ?_
        refine V_goto (tgt := 52) dX12_laysWays_161 (by decide) ?_
        refine V.pick [1, 2, 3, 0] rfl ?_
        exact ih M15 v1 v4 (v5 + 1) h k
      refine V_if_le (tgt := 155) dX12_laysWays_146 (by decide) h (fun _ h => ?_) (fun _ h => ?_)
      · refine V_ldc2 (n := 100000000000000000) dX12_laysWays_149 (xsg7 151 rfl rfl : Cond.constantLong RX12 325 100000000000000000 ∈ xT) (by decide) ?_
        refine V_goto (tgt := 157) dX12_laysWays_152 (by decide) ?_
        refine V.pick [0, 1, 2, 3] rfl ?_
        exact kj14 100000000000000000 h
      · refine V_lload dX12_laysWays_155 (xm 4 rfl) ?_
        refine V.pick [0, 1, 2, 3] rfl ?_
        exact kj14 y11 h
    · cases h
      refine V.pick [0, 1, 2] rfl ?_
      exact k
theorem fX12_laysWays_L52_ci {S : xS} {kp : Option Nat} (hS : xSk kp 111 S) {Q : Option xV → xS → xM → Prop} {n : Nat} {M : xM} {v1 : Int} {v4 : Int} {v5 : Int} {Mz : xM} (hl : fX12_laysWays_L52 n M v1 v4 v5 = some Mz) (k : V Y_X12_laysWays 2 0 0 164 [(0, vR (some 94)), (1, vI v1), (4, vI v4)] [] S Mz Q) : V Y_X12_laysWays 2 0 0 52 [(0, vR (some 94)), (1, vI v1), (4, vI v4), (5, vI v5)] [] S M Q := fX12_laysWays_L52_c hS _ _ _ _ _ hl k
def fX12_laysWays_L44 (n : Nat) (M : xM) (v1 : Int) (v4 : Int) : Option (xM) := match n with
  | 0 => none
  | n + 1 => (if wr v4 < 0 then some M else (xb (fX12_laysWays_L52 xfuel M v1 v4 0) fun M16 => fX12_laysWays_L44 n M16 v1 (v4 + (-1))))
set_option maxRecDepth 20000 in
set_option maxHeartbeats 1000000 in
theorem fX12_laysWays_L44_c {S : xS} {kp : Option Nat} (hS : xSk kp 111 S) {Q : Option xV → xS → xM → Prop} :
    ∀ (n : Nat) (M : xM) (v1 : Int) (v4 : Int) {Mz : xM}, fX12_laysWays_L44 n M v1 v4 = some Mz → V Y_X12_laysWays 2 0 0 170 [] [] S Mz Q → V Y_X12_laysWays 2 0 0 44 [(0, vR (some 94)), (1, vI v1), (4, vI v4)] [] S M Q := by
  intro n
  induction n with
  | zero =>
    intro M v1 v4 Mz h k
    cases h
  | succ n ih =>
    intro M v1 v4 Mz h k
    rw [fX12_laysWays_L44] at h
    refine V_iload dX12_laysWays_44 (xm 2 rfl) ?_
    refine V_if_lt (tgt := 170) dX12_laysWays_46 (by decide) h (fun _ h => ?_) (fun _ h => ?_)
    · cases h
      refine V.pick [] rfl ?_
      exact k
    · refine V_iconst dX12_laysWays_49 ?_
      refine V_istore (ls' := [(5, vI 0), (0, vR (some 94)), (1, vI v1), (4, vI v4)]) dX12_laysWays_50 (by decide) rfl ?_
      refine xbE h (fun M16 h17 h => ?_)
      refine V.pick [1, 2, 3, 0] rfl ?_
      refine fX12_laysWays_L52_ci (hS.le (by decide)) h17 ?_
      refine V_iinc (ls' := [(4, vI (v4 + (-1))), (0, vR (some 94)), (1, vI v1)]) dX12_laysWays_164 (xm 2 rfl) (by decide) rfl ?_
      refine V_goto (tgt := 44) dX12_laysWays_167 (by decide) ?_
      refine V.pick [1, 2, 0] rfl ?_
      exact ih M16 v1 (v4 + (-1)) h k
theorem fX12_laysWays_L44_ci {S : xS} {kp : Option Nat} (hS : xSk kp 111 S) {Q : Option xV → xS → xM → Prop} {n : Nat} {M : xM} {v1 : Int} {v4 : Int} {Mz : xM} (hl : fX12_laysWays_L44 n M v1 v4 = some Mz) (k : V Y_X12_laysWays 2 0 0 170 [] [] S Mz Q) : V Y_X12_laysWays 2 0 0 44 [(0, vR (some 94)), (1, vI v1), (4, vI v4)] [] S M Q := fX12_laysWays_L44_c hS _ _ _ _ hl k
def fX12_laysWays (M : xM) (v1 : Int) (v2 : Int) : Option xM := xb (fX12_laysWays_L9 xfuel M v1 ((v2 - v1) + 1) 0) fun M2 => xb (fX12_laysWays_L44 xfuel M2 v1 (((v2 - v1) + 1) - 1)) fun M18 => some M18
set_option maxRecDepth 20000 in
set_option maxHeartbeats 1000000 in
theorem fX12_laysWays_c {S : xS} {kp : Option Nat} (hS : xSk kp 111 S) {M : xM} {v1 : Int} {v2 : Int} {E : xM} (h : fX12_laysWays M v1 v2 = some E) :
    V Y_X12_laysWays 2 0 0 0 (xarg 0 [vR (some 94), vI v1, vI v2]) [] S M (xqR S E none) := by
  unfold fX12_laysWays at h
  show V Y_X12_laysWays 2 0 0 0 [(0, vR (some 94)), (1, vI v1), (2, vI v2)] [] S M _
  refine V_iload_n dX12_laysWays_0 rfl (xm 2 rfl) ?_
  refine V_iload_n dX12_laysWays_1 rfl (xm 1 rfl) ?_
  refine V_isub dX12_laysWays_2 ?_
  refine V_iconst dX12_laysWays_3 ?_
  refine V_iadd dX12_laysWays_4 ?_
  refine V_istore_n (ls' := [(3, vI ((v2 - v1) + 1)), (0, vR (some 94)), (1, vI v1), (2, vI v2)]) dX12_laysWays_5 rfl (by decide) rfl ?_
  refine V_iconst dX12_laysWays_6 ?_
  refine V_istore (ls' := [(4, vI 0), (3, vI ((v2 - v1) + 1)), (0, vR (some 94)), (1, vI v1), (2, vI v2)]) dX12_laysWays_7 (by decide) rfl ?_
  refine xbE h (fun M2 h3 h => ?_)
  refine V.pick [2, 3, 1, 0] rfl ?_
  refine fX12_laysWays_L9_ci (hS.le (by decide)) h3 ?_
  refine V_iload_n dX12_laysWays_39 rfl (xm 2 rfl) ?_
  refine V_iconst dX12_laysWays_40 ?_
  refine V_isub dX12_laysWays_41 ?_
  refine V_istore (ls' := [(4, vI (((v2 - v1) + 1) - 1)), (0, vR (some 94)), (1, vI v1), (3, vI ((v2 - v1) + 1))]) dX12_laysWays_42 (by decide) rfl ?_
  refine xbE h (fun M18 h19 h => ?_)
  refine V.pick [1, 2, 0] rfl ?_
  refine fX12_laysWays_L44_ci (hS.le (by decide)) h19 ?_
  exact V_ret dX12_laysWays_170 rfl (q_v h)
def fX12_back_L86 (n : Nat) (M : xM) (v1 : Int) (v3 : Int) (v5 : Int) (v7 : Int) (v8 : Int) : Option (Int × Int) := match n with
  | 0 => none
  | n + 1 => (if wr v8 < 0 then some (v5, v7) else (xrd M 110 984 v8 fun r4 => xrd M 110 984 v8 fun r5 => (if 0 < wr (xlcmp r5 0) then fX12_back_L86 n M v1 v3 (v5 + r4) v8 (v8 + (-1)) else fX12_back_L86 n M v1 v3 (v5 + r4) v7 (v8 + (-1)))))
set_option maxRecDepth 20000 in
set_option maxHeartbeats 1000000 in
theorem fX12_back_L86_c {S : xS} {kp : Option Nat} (hS : xSk kp 111 S) {Q : Option xV → xS → xM → Prop} :
    ∀ (n : Nat) (M : xM) (v1 : Int) (v3 : Int) (v5 : Int) (v7 : Int) (v8 : Int) {x5 : Int} {x7 : Int}, fX12_back_L86 n M v1 v3 v5 v7 v8 = some (x5, x7) → V Y_X12_back 3 0 0 130 [(0, vR (some 94)), (1, vI v1), (3, vI v3), (5, vL x5), (7, vI x7)] [] S M Q → V Y_X12_back 3 0 0 86 [(0, vR (some 94)), (1, vI v1), (3, vI v3), (5, vL v5), (7, vI v7), (8, vI v8)] [] S M Q := by
  intro n
  induction n with
  | zero =>
    intro M v1 v3 v5 v7 v8 x5 x7 h k
    cases h
  | succ n ih =>
    intro M v1 v3 v5 v7 v8 x5 x7 h k
    rw [fX12_back_L86] at h
    refine V_iload dX12_back_86 (xm 5 rfl) ?_
    refine V_if_lt (tgt := 130) dX12_back_88 (by decide) h (fun _ h => ?_) (fun _ h => ?_)
    · cases h
      refine V.pick [0, 1, 2, 3, 4] rfl ?_
      exact k
    · refine V_lload dX12_back_91 (xm 3 rfl) ?_
      refine V_aload_n dX12_back_93 rfl (xm 0 rfl) ?_
      refine V_getR dX12_back_94 fl_X12_59 (sk_94 hS (by decide)) rfl ?_
      refine V_iload dX12_back_97 (xm 5 rfl) ?_
      refine T_lald dX12_back_99 (sk_110 hS (by decide)) rfl h (fun r4 h => ?_)
      refine V_ladd dX12_back_100 ?_
      refine V_lstore (ls' := [(5, vL (v5 + r4)), (0, vR (some 94)), (1, vI v1), (3, vI v3), (7, vI v7), (8, vI v8)]) dX12_back_101 (by decide) rfl ?_
      refine V_aload_n dX12_back_103 rfl (xm 1 rfl) ?_
      refine V_getR dX12_back_104 fl_X12_59 (sk_94 hS (by decide)) rfl ?_
      refine V_iload dX12_back_107 (xm 5 rfl) ?_
      refine T_lald dX12_back_109 (sk_110 hS (by decide)) rfl h (fun r5 h => ?_)
      refine V_lconst (x := 0) dX12_back_110 (by decide) ?_
      refine V_lcmp dX12_back_111 ?_
      refine V_if_le (tgt := 120) dX12_back_112 (by decide) h (fun _ h => ?_) (fun _ h => ?_)
      · refine V_iload dX12_back_115 (xm 5 rfl) ?_
        refine V_goto (tgt := 122) dX12_back_117 (by decide) ?_
        refine V_istore (ls' := [(7, vI v8), (5, vL (v5 + r4)), (0, vR (some 94)), (1, vI v1), (3, vI v3), (8, vI v8)]) dX12_back_122 (by decide) rfl ?_
        refine V_iinc (ls' := [(8, vI (v8 + (-1))), (7, vI v8), (5, vL (v5 + r4)), (0, vR (some 94)), (1, vI v1), (3, vI v3)]) dX12_back_124 (xm 5 rfl) (by decide) rfl ?_
        refine V_goto (tgt := 86) dX12_back_127 (by decide) ?_
        refine V.pick [3, 4, 5, 2, 1, 0] rfl ?_
        exact ih M v1 v3 (v5 + r4) v8 (v8 + (-1)) h k
      · refine V_iload dX12_back_120 (xm 4 rfl) ?_
        refine V_istore (ls' := [(7, vI v7), (5, vL (v5 + r4)), (0, vR (some 94)), (1, vI v1), (3, vI v3), (8, vI v8)]) dX12_back_122 (by decide) rfl ?_
        refine V_iinc (ls' := [(8, vI (v8 + (-1))), (7, vI v7), (5, vL (v5 + r4)), (0, vR (some 94)), (1, vI v1), (3, vI v3)]) dX12_back_124 (xm 5 rfl) (by decide) rfl ?_
        refine V_goto (tgt := 86) dX12_back_127 (by decide) ?_
        refine V.pick [3, 4, 5, 2, 1, 0] rfl ?_
        exact ih M v1 v3 (v5 + r4) v7 (v8 + (-1)) h k
theorem fX12_back_L86_ci {S : xS} {kp : Option Nat} (hS : xSk kp 111 S) {Q : Option xV → xS → xM → Prop} {n : Nat} {M : xM} {v1 : Int} {v3 : Int} {v5 : Int} {v7 : Int} {v8 : Int} {x5 : Int} {x7 : Int} (hl : fX12_back_L86 n M v1 v3 v5 v7 v8 = some (x5, x7)) (k : V Y_X12_back 3 0 0 130 [(0, vR (some 94)), (1, vI v1), (3, vI v3), (5, vL x5), (7, vI x7)] [] S M Q) : V Y_X12_back 3 0 0 86 [(0, vR (some 94)), (1, vI v1), (3, vI v3), (5, vL v5), (7, vI v7), (8, vI v8)] [] S M Q := fX12_back_L86_c hS _ _ _ _ _ _ _ hl k
def fX12_back_L189 (n : Nat) (M : xM) (v1 : Int) (v3 : Int) (v8 : Int) (v10 : Int) (v11 : Int) : Option (Int) := match n with
  | 0 => none
  | n + 1 => xb (fX12_modulo M (v8 + (fX12_turnOf v11))) fun r10 => xb (fX12_goesWith M (v1 + v10) r10) fun r12 => (if r12 = true then (xb (fX12_modulo M (v8 + (fX12_turnOf v11))) fun r14 => xrd M 110 984 ((24 * (v10 + 1)) + r14) fun r15 => (if wr (xlcmp r15 0) = 0 then fX12_back_L189 n M v1 v3 v8 v10 (v11 + 1) else some v11)) else fX12_back_L189 n M v1 v3 v8 v10 (v11 + 1))
set_option maxRecDepth 20000 in
set_option maxHeartbeats 1000000 in
theorem fX12_back_L189_c {S : xS} {kp : Option Nat} (hS : xSk kp 111 S) {Q : Option xV → xS → xM → Prop} :
    ∀ (n : Nat) (M : xM) (v1 : Int) (v3 : Int) (v8 : Int) (v10 : Int) (v11 : Int) {x11 : Int}, fX12_back_L189 n M v1 v3 v8 v10 v11 = some x11 → V Y_X12_back 3 0 0 248 [(0, vR (some 94)), (1, vI v1), (3, vI v3), (8, vI v8), (10, vI v10), (11, vI x11)] [] S M Q → V Y_X12_back 3 0 0 189 [(0, vR (some 94)), (1, vI v1), (3, vI v3), (8, vI v8), (10, vI v10), (11, vI v11)] [] S M Q := by
  intro n
  induction n with
  | zero =>
    intro M v1 v3 v8 v10 v11 x11 h k
    cases h
  | succ n ih =>
    intro M v1 v3 v8 v10 v11 x11 h k
    rw [fX12_back_L189] at h
    refine V_aload_n dX12_back_189 rfl (xm 0 rfl) ?_
    refine V_iload_n dX12_back_190 rfl (xm 1 rfl) ?_
    refine V_iload dX12_back_191 (xm 4 rfl) ?_
    refine V_iadd dX12_back_193 ?_
    refine V_aload_n dX12_back_194 rfl (xm 0 rfl) ?_
    refine V_iload dX12_back_195 (xm 3 rfl) ?_
    refine V_iload dX12_back_197 (xm 5 rfl) ?_
    refine T_callSI (host := "") dX12_back_199 ok_X12_turnOf lk_X12_283.1 lk_X12_283.2 (hV := ((fX12_turnOf_c (hS.le (by decide)) rfl).mono (by decide) (Nat.le_refl _) (Nat.le_refl _))) rfl (Nat.le_of_ble_eq_true rfl) rfl (Nat.le_of_ble_eq_true rfl) ?_
    refine V_iadd dX12_back_202 ?_
    refine xbE h (fun r10 h9 h => ?_)
    refine T_callVI dX12_back_203 ok_X12_modulo (by exact ⟨by decide, rfl⟩) lk_X12_216.1 lk_X12_216.2 (sk_94 hS (by decide)) (hV := ((fX12_modulo_c (hS.le (by decide)) h9).mono (by decide) (Nat.le_refl _) (Nat.le_refl _))) rfl (Nat.le_of_ble_eq_true rfl) rfl (Nat.le_of_ble_eq_true rfl) ?_
    refine xbE h (fun r12 h11 h => ?_)
    refine T_callVI dX12_back_206 ok_X12_goesWith (by exact ⟨by decide, rfl⟩) lk_X12_322.1 lk_X12_322.2 (sk_94 hS (by decide)) (hV := ((fX12_goesWith_c (hS.le (by decide)) h11).mono (by decide) (Nat.le_refl _) (Nat.le_refl _))) rfl (Nat.le_of_ble_eq_true rfl) rfl (Nat.le_of_ble_eq_true rfl) ?_
    refine V_if_eqB (tgt := 242) dX12_back_209 (by decide) h (fun _ h => ?_) (fun _ h => ?_)
    · refine V_aload_n dX12_back_212 rfl (xm 0 rfl) ?_
      refine V_getR dX12_back_213 fl_X12_59 (sk_94 hS (by decide)) rfl ?_
      refine V_bipush dX12_back_216 (by decide) ?_
      refine V_iload dX12_back_218 (xm 4 rfl) ?_
      refine V_iconst dX12_back_220 ?_
      refine V_iadd dX12_back_221 ?_
      refine V_imul dX12_back_222 ?_
      refine V_aload_n dX12_back_223 rfl (xm 0 rfl) ?_
      refine V_iload dX12_back_224 (xm 3 rfl) ?_
      refine V_iload dX12_back_226 (xm 5 rfl) ?_
      refine T_callSI (host := "") dX12_back_228 ok_X12_turnOf lk_X12_283.1 lk_X12_283.2 (hV := ((fX12_turnOf_c (hS.le (by decide)) rfl).mono (by decide) (Nat.le_refl _) (Nat.le_refl _))) rfl (Nat.le_of_ble_eq_true rfl) rfl (Nat.le_of_ble_eq_true rfl) ?_
      refine V_iadd dX12_back_231 ?_
      refine xbE h (fun r14 h13 h => ?_)
      refine T_callVI dX12_back_232 ok_X12_modulo (by exact ⟨by decide, rfl⟩) lk_X12_216.1 lk_X12_216.2 (sk_94 hS (by decide)) (hV := ((fX12_modulo_c (hS.le (by decide)) h13).mono (by decide) (Nat.le_refl _) (Nat.le_refl _))) rfl (Nat.le_of_ble_eq_true rfl) rfl (Nat.le_of_ble_eq_true rfl) ?_
      refine V_iadd dX12_back_235 ?_
      refine T_lald dX12_back_236 (sk_110 hS (by decide)) rfl h (fun r15 h => ?_)
      refine V_lconst (x := 0) dX12_back_237 (by decide) ?_
      refine V_lcmp dX12_back_238 ?_
      refine V_if_ne (tgt := 248) dX12_back_239 (by decide) h (fun _ h => ?_) (fun _ h => ?_)
      · refine V_iinc (ls' := [(11, vI (v11 + 1)), (0, vR (some 94)), (1, vI v1), (3, vI v3), (8, vI v8), (10, vI v10)]) dX12_back_242 (xm 5 rfl) (by decide) rfl ?_
        refine V_goto (tgt := 189) dX12_back_245 (by decide) ?_
        refine V.pick [1, 2, 3, 4, 5, 0] rfl ?_
        exact ih M v1 v3 v8 v10 (v11 + 1) h k
      · cases h
        refine V.pick [0, 1, 2, 3, 4, 5] rfl ?_
        exact k
    · refine V_iinc (ls' := [(11, vI (v11 + 1)), (0, vR (some 94)), (1, vI v1), (3, vI v3), (8, vI v8), (10, vI v10)]) dX12_back_242 (xm 5 rfl) (by decide) rfl ?_
      refine V_goto (tgt := 189) dX12_back_245 (by decide) ?_
      refine V.pick [1, 2, 3, 4, 5, 0] rfl ?_
      exact ih M v1 v3 v8 v10 (v11 + 1) h k
theorem fX12_back_L189_ci {S : xS} {kp : Option Nat} (hS : xSk kp 111 S) {Q : Option xV → xS → xM → Prop} {n : Nat} {M : xM} {v1 : Int} {v3 : Int} {v8 : Int} {v10 : Int} {v11 : Int} {x11 : Int} (hl : fX12_back_L189 n M v1 v3 v8 v10 v11 = some x11) (k : V Y_X12_back 3 0 0 248 [(0, vR (some 94)), (1, vI v1), (3, vI v3), (8, vI v8), (10, vI v10), (11, vI x11)] [] S M Q) : V Y_X12_back 3 0 0 189 [(0, vR (some 94)), (1, vI v1), (3, vI v3), (8, vI v8), (10, vI v10), (11, vI v11)] [] S M Q := fX12_back_L189_c hS _ _ _ _ _ _ _ hl k
def fX12_back_L177 (n : Nat) (M : xM) (v1 : Int) (v3 : Int) (v8 : Int) (v9 : Int) (v10 : Int) : Option (Int) := match n with
  | 0 => none
  | n + 1 => (if wr (v3 - 10) < wr v10 then some v9 else (xb (fX12_back_L189 xfuel M v1 v3 v8 v10 0) fun y16 => xb (fX12_modulo M (v8 + (fX12_turnOf y16))) fun r19 => fX12_back_L177 n M v1 v3 r19 (fX12_turnOf y16) (v10 + 1)))
set_option maxRecDepth 20000 in
set_option maxHeartbeats 1000000 in
theorem fX12_back_L177_c {S : xS} {kp : Option Nat} (hS : xSk kp 111 S) {Q : Option xV → xS → xM → Prop} :
    ∀ (n : Nat) (M : xM) (v1 : Int) (v3 : Int) (v8 : Int) (v9 : Int) (v10 : Int) {x9 : Int}, fX12_back_L177 n M v1 v3 v8 v9 v10 = some x9 → V Y_X12_back 3 0 0 272 [(9, vI x9)] [] S M Q → V Y_X12_back 3 0 0 177 [(0, vR (some 94)), (1, vI v1), (3, vI v3), (8, vI v8), (9, vI v9), (10, vI v10)] [] S M Q := by
  intro n
  induction n with
  | zero =>
    intro M v1 v3 v8 v9 v10 x9 h k
    cases h
  | succ n ih =>
    intro M v1 v3 v8 v9 v10 x9 h k
    rw [fX12_back_L177] at h
    refine V_iload dX12_back_177 (xm 5 rfl) ?_
    refine V_iload_n dX12_back_179 rfl (xm 2 rfl) ?_
    refine V_bipush dX12_back_180 (by decide) ?_
    refine V_isub dX12_back_182 ?_
    refine V_icmp_gt (tgt := 272) dX12_back_183 (by decide) h (fun _ h => ?_) (fun _ h => ?_)
    · cases h
      refine V.pick [4] rfl ?_
      exact k
    · refine V_iconst dX12_back_186 ?_
      refine V_istore (ls' := [(11, vI 0), (0, vR (some 94)), (1, vI v1), (3, vI v3), (8, vI v8), (9, vI v9), (10, vI v10)]) dX12_back_187 (by decide) rfl ?_
      refine xbE h (fun y16 h17 h => ?_)
      refine V.pick [1, 2, 3, 4, 6, 0] rfl ?_
      refine fX12_back_L189_ci (hS.le (by decide)) h17 ?_
      refine V_iload dX12_back_248 (xm 5 rfl) ?_
      refine T_callSI (host := "") dX12_back_250 ok_X12_turnOf lk_X12_283.1 lk_X12_283.2 (hV := ((fX12_turnOf_c (hS.le (by decide)) rfl).mono (by decide) (Nat.le_refl _) (Nat.le_refl _))) rfl (Nat.le_of_ble_eq_true rfl) rfl (Nat.le_of_ble_eq_true rfl) ?_
      refine V_istore (ls' := [(9, vI (fX12_turnOf y16)), (0, vR (some 94)), (1, vI v1), (3, vI v3), (8, vI v8), (10, vI v10), (11, vI y16)]) dX12_back_253 (by decide) rfl ?_
      refine V_aload_n dX12_back_255 rfl (xm 1 rfl) ?_
      refine V_iload dX12_back_256 (xm 4 rfl) ?_
      refine V_iload dX12_back_258 (xm 0 rfl) ?_
      refine V_iadd dX12_back_260 ?_
      refine xbE h (fun r19 h18 h => ?_)
      refine T_callVI dX12_back_261 ok_X12_modulo (by exact ⟨by decide, rfl⟩) lk_X12_216.1 lk_X12_216.2 (sk_94 hS (by decide)) (hV := ((fX12_modulo_c (hS.le (by decide)) h18).mono (by decide) (Nat.le_refl _) (Nat.le_refl _))) rfl (Nat.le_of_ble_eq_true rfl) rfl (Nat.le_of_ble_eq_true rfl) ?_
      refine V_istore (ls' := [(8, vI r19), (9, vI (fX12_turnOf y16)), (0, vR (some 94)), (1, vI v1), (3, vI v3), (10, vI v10), (11, vI y16)]) dX12_back_264 (by decide) rfl ?_
      refine V_iinc (ls' := [(10, vI (v10 + 1)), (8, vI r19), (9, vI (fX12_turnOf y16)), (0, vR (some 94)), (1, vI v1), (3, vI v3), (11, vI y16)]) dX12_back_266 (xm 5 rfl) (by decide) rfl ?_
      refine V_goto (tgt := 177) dX12_back_269 (by decide) ?_
      refine V.pick [3, 4, 5, 1, 2, 0] rfl ?_
      exact ih M v1 v3 r19 (fX12_turnOf y16) (v10 + 1) h k
theorem fX12_back_L177_ci {S : xS} {kp : Option Nat} (hS : xSk kp 111 S) {Q : Option xV → xS → xM → Prop} {n : Nat} {M : xM} {v1 : Int} {v3 : Int} {v8 : Int} {v9 : Int} {v10 : Int} {x9 : Int} (hl : fX12_back_L177 n M v1 v3 v8 v9 v10 = some x9) (k : V Y_X12_back 3 0 0 272 [(9, vI x9)] [] S M Q) : V Y_X12_back 3 0 0 177 [(0, vR (some 94)), (1, vI v1), (3, vI v3), (8, vI v8), (9, vI v9), (10, vI v10)] [] S M Q := fX12_back_L177_c hS _ _ _ _ _ _ _ hl k
def fX12_back (M : xM) (v1 : Int) (v2 : Int) (v3 : Int) : Option (Int × xM) := (if (fX12_isDay v1) = true then (if (fX12_isDay v2) = true then (if (fX12_isIn (v2 - v1) 0 39) = true then (xj (fun (_ : Unit) => xb (fX12_laysWays M v1 v2) fun M3 => xb2 (fX12_back_L86 xfuel M3 v1 v3 0 ((-1)) ((M3 95 0) - 1)) fun y6 y7 => (if wr v3 = 0 then (if 0 < wr (xlcmp y6 100000000000000000) then some (100000000000000000, M3) else some (y6, M3)) else (if wr v3 = wr 1 then some (wr y7, M3) else (if wr y7 = wr ((-1)) then some (wr y7, M3) else (xb (fX12_back_L177 xfuel M3 v1 v3 y7 0 0) fun y20 => some ((wr y20) + 2, M3)))))) fun j1 => (if (fX12_isIn v3 0 1) = true then j1 () else (if (fX12_isIn v3 10 (9 + ((v2 - v1) + 1))) = true then j1 () else some ((-1), M)))) else some ((-1), M)) else some ((-1), M)) else some ((-1), M))
