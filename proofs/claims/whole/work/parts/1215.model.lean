def fX7_readUnit (M : xM)  : Option (Bool × xM) := xrd M 38 401 (M 36 8) fun r1 => xj (fun (M2 : xM) => xlet (xup M2 36 8 ((M2 36 8) + 1)) fun M4 => some (true, M4)) fun j3 => (if wr r1 = wr 12 then (xrd M 40 401 (M 36 8) fun r5 => xb (fX9_add M r5) fun M7 => j3 M7) else (xrd M 38 401 (M 36 8) fun r8 => (if wr r8 < wr 7 then (xrd M 38 401 (M 36 8) fun r9 => xb (fX9_add M (xxor r9 ((-1)))) fun M11 => xj (fun (s12 : Int) => xbl s12 fun b15 => xlet (xup M11 41 2 (b2i b15)) fun M14 => j3 M14) fun j13 => xj (fun (_ : Unit) => j13 1) fun j16 => (if wr (M11 41 2) = 0 then (xrd M11 38 401 (M11 36 8) fun r17 => (if wr r17 = wr 5 then j16 () else j13 0)) else j16 ())) else (xb2 (fX7_fail M 1) fun r19 M20 => some (r19, M20)))))
set_option maxRecDepth 20000 in
set_option maxHeartbeats 1000000 in
theorem fX7_readUnit_c {S : xS} {kp : Option Nat} (hS : xSk kp 43 S) {M : xM} {E : Bool × xM} (h : fX7_readUnit M = some E) :
    V Y_X7_readUnit 1 0 0 0 (xarg 0 [vR (some 36)]) [] S M (xqR S E.2 (some (vI (b2i E.1)))) := by
  unfold fX7_readUnit at h
  show V Y_X7_readUnit 1 0 0 0 [(0, vR (some 36))] [] S M _
  refine V_aload_n dX7_readUnit_0 rfl (xm 0 rfl) ?_
  refine V_getR dX7_readUnit_1 fl_X7_19 (sk_36 hS (by decide)) rfl ?_
  refine V_aload_n dX7_readUnit_4 rfl (xm 0 rfl) ?_
  refine V_getI (kI := 8) dX7_readUnit_5 fl_X7_51 (sk_36 hS (by decide)) rfl rfl ?_
  refine T_iald dX7_readUnit_8 (sk_38 hS (by decide)) rfl h (fun r1 h => ?_)
  refine V_bipush dX7_readUnit_9 (by decide) ?_
  refine xjE h (fun j3 hj3 h => ?_)
  have kj3 : ∀ (M2 : xM), j3 M2 = some E → V Y_X7_readUnit 1 0 0 109 [(0, vR (some 36))] [] S M2 (xqR S E.2 (some (vI (b2i E.1)))) := by
    intro M2 h
    rw [hj3] at h
    refine V_aload_n dX7_readUnit_109 rfl (xm 0 rfl) ?_
    refine V_dup dX7_readUnit_110 rfl ?_
    refine V_getI (kI := 8) dX7_readUnit_111 fl_X7_51 (sk_36 hS (by decide)) rfl rfl ?_
    refine V_iconst dX7_readUnit_114 ?_
    refine V_iadd dX7_readUnit_115 ?_
    refine T_putI (kI := 8) dX7_readUnit_116 fp_X7_51 (sk_36 hS (by decide)) rfl rfl h (fun M4 h => ?_)
    refine V_iconst dX7_readUnit_119 ?_
    exact V_iretb (b := true) dX7_readUnit_120 rfl (by decide) (q_wB h)
  refine V_icmp_ne (tgt := 33) dX7_readUnit_11 (by decide) h (fun _ h => ?_) (fun _ h => ?_)
  · refine V_aload_n dX7_readUnit_14 rfl (xm 0 rfl) ?_
    refine V_getR dX7_readUnit_15 fl_X7_32 (sk_36 hS (by decide)) rfl ?_
    refine V_aload_n dX7_readUnit_18 rfl (xm 0 rfl) ?_
    refine V_getR dX7_readUnit_19 fl_X7_26 (sk_36 hS (by decide)) rfl ?_
    refine V_aload_n dX7_readUnit_22 rfl (xm 0 rfl) ?_
    refine V_getI (kI := 8) dX7_readUnit_23 fl_X7_51 (sk_36 hS (by decide)) rfl rfl ?_
    refine T_iald dX7_readUnit_26 (sk_40 hS (by decide)) rfl h (fun r5 h => ?_)
    refine xbE h (fun M7 h6 h => ?_)
    refine T_callVv dX7_readUnit_27 ok_X9_add (by exact ⟨by decide, rfl⟩) lk_X7_78.1 lk_X7_78.2 (sk_41 hS (by decide)) (hV := ((fX9_add_c (hS.le (by decide)) h6).mono (by decide) (Nat.le_refl _) (Nat.le_refl _))) rfl (Nat.le_of_ble_eq_true rfl) rfl (Nat.le_of_ble_eq_true rfl) ?_
    refine V_goto (tgt := 109) dX7_readUnit_30 (by decide) ?_
    refine V.pick [0] rfl ?_
    exact kj3 M7 h
  · refine V_aload_n dX7_readUnit_33 rfl (xm 0 rfl) ?_
    refine V_getR dX7_readUnit_34 fl_X7_19 (sk_36 hS (by decide)) rfl ?_
    refine V_aload_n dX7_readUnit_37 rfl (xm 0 rfl) ?_
    refine V_getI (kI := 8) dX7_readUnit_38 fl_X7_51 (sk_36 hS (by decide)) rfl rfl ?_
    refine T_iald dX7_readUnit_41 (sk_38 hS (by decide)) rfl h (fun r8 h => ?_)
    refine V_bipush dX7_readUnit_42 (by decide) ?_
    refine V_icmp_ge (tgt := 103) dX7_readUnit_44 (by decide) h (fun _ h => ?_) (fun _ h => ?_)
    · refine V_aload_n dX7_readUnit_47 rfl (xm 0 rfl) ?_
      refine V_getR dX7_readUnit_48 fl_X7_32 (sk_36 hS (by decide)) rfl ?_
      refine V_aload_n dX7_readUnit_51 rfl (xm 0 rfl) ?_
      refine V_getR dX7_readUnit_52 fl_X7_19 (sk_36 hS (by decide)) rfl ?_
      refine V_aload_n dX7_readUnit_55 rfl (xm 0 rfl) ?_
      refine V_getI (kI := 8) dX7_readUnit_56 fl_X7_51 (sk_36 hS (by decide)) rfl rfl ?_
      refine T_iald dX7_readUnit_59 (sk_38 hS (by decide)) rfl h (fun r9 h => ?_)
      refine V_iconst dX7_readUnit_60 ?_
      refine V_ixor dX7_readUnit_61 ?_
      refine xbE h (fun M11 h10 h => ?_)
      refine T_callVv dX7_readUnit_62 ok_X9_add (by exact ⟨by decide, rfl⟩) lk_X7_78.1 lk_X7_78.2 (sk_41 hS (by decide)) (hV := ((fX9_add_c (hS.le (by decide)) h10).mono (by decide) (Nat.le_refl _) (Nat.le_refl _))) rfl (Nat.le_of_ble_eq_true rfl) rfl (Nat.le_of_ble_eq_true rfl) ?_
      refine V_aload_n dX7_readUnit_65 rfl (xm 0 rfl) ?_
      refine V_getR dX7_readUnit_66 fl_X7_32 (sk_36 hS (by decide)) rfl ?_
      refine V_aload_n dX7_readUnit_69 rfl (xm 0 rfl) ?_
      refine V_getR dX7_readUnit_70 fl_X7_32 (sk_36 hS (by decide)) rfl ?_
      refine V_getI (kI := 2) dX7_readUnit_73 fl_X7_91 (sk_41 hS (by decide)) rfl rfl ?_
      refine xjE h (fun j13 hj13 h => ?_)
      have kj13 : ∀ (s12 : Int), j13 s12 = some E → V Y_X7_readUnit 1 0 0 97 [(0, vR (some 36))] [vI s12, vR (some 41)] S M11 (xqR S E.2 (some (vI (b2i E.1)))) := by
        intro s12 h
        rw [hj13] at h
        refine T_putZx (kI := 2) dX7_readUnit_97 fp_X7_91 (sk_41 hS (by decide)) rfl rfl h (fun M14 h => ?_)
        refine V_goto (tgt := 109) dX7_readUnit_100 (by decide) ?_
        refine V.pick [0] rfl ?_
        exact kj3 M14 h
      refine xjE h (fun j16 hj16 h => ?_)
      have kj16 : ∀ (u : Unit), j16 u = some E → V Y_X7_readUnit 1 0 0 92 [(0, vR (some 36))] [vR (some 41)] S M11 (xqR S E.2 (some (vI (b2i E.1)))) := by
        intro u h
        rw [hj16] at h
        refine V_iconst dX7_readUnit_92 ?_
        refine V_goto (tgt := 97) dX7_readUnit_93 (by decide) ?_
        refine V.pick [0] rfl ?_
        exact kj13 1 h
      refine V_if_ne (tgt := 92) dX7_readUnit_76 (by decide) h (fun _ h => ?_) (fun _ h => ?_)
      · refine V_aload_n dX7_readUnit_79 rfl (xm 0 rfl) ?_
        refine V_getR dX7_readUnit_80 fl_X7_19 (sk_36 hS (by decide)) rfl ?_
        refine V_aload_n dX7_readUnit_83 rfl (xm 0 rfl) ?_
        refine V_getI (kI := 8) dX7_readUnit_84 fl_X7_51 (sk_36 hS (by decide)) rfl rfl ?_
        refine T_iald dX7_readUnit_87 (sk_38 hS (by decide)) rfl h (fun r17 h => ?_)
        refine V_iconst dX7_readUnit_88 ?_
        refine V_icmp_ne (tgt := 96) dX7_readUnit_89 (by decide) h (fun _ h => ?_) (fun _ h => ?_)
        · refine V.pick [0] rfl ?_
          exact kj16 () h
        · refine V_iconst dX7_readUnit_96 ?_
          refine V.pick [0] rfl ?_
          exact kj13 0 h
      · refine V.pick [0] rfl ?_
        exact kj16 () h
    · refine V_aload_n dX7_readUnit_103 rfl (xm 0 rfl) ?_
      refine V_iconst dX7_readUnit_104 ?_
      refine xb2E h (fun r19 M20 h18 h => ?_)
      refine T_callVI dX7_readUnit_105 ok_X7_fail (by exact ⟨by decide, rfl⟩) lk_X7_65.1 lk_X7_65.2 (sk_36 hS (by decide)) (hV := ((fX7_fail_c (hS.le (by decide)) h18).mono (by decide) (Nat.le_refl _) (Nat.le_refl _))) rfl (Nat.le_of_ble_eq_true rfl) rfl (Nat.le_of_ble_eq_true rfl) ?_
      exact V_iretb (b := r19) dX7_readUnit_108 rfl rfl (q_wB h)
def fX7_readDivisor (M : xM)  : Option (Bool × xM) := xrd M 38 401 (M 36 8) fun r1 => (if wr r1 = wr 12 then (xrd M 40 401 (M 36 8) fun r2 => (if wr r2 = 0 then (xb2 (fX7_fail M 2) fun r4 M5 => some (r4, M5)) else (xrd M 40 401 (M 36 8) fun r6 => xb (fX9_add M r6) fun M8 => xlet (xup M8 36 8 ((M8 36 8) + 1)) fun M9 => some (true, M9)))) else (xb2 (fX7_fail M 1) fun r11 M12 => some (r11, M12)))
set_option maxRecDepth 20000 in
set_option maxHeartbeats 1000000 in
theorem fX7_readDivisor_c {S : xS} {kp : Option Nat} (hS : xSk kp 43 S) {M : xM} {E : Bool × xM} (h : fX7_readDivisor M = some E) :
    V Y_X7_readDivisor 1 0 0 0 (xarg 0 [vR (some 36)]) [] S M (xqR S E.2 (some (vI (b2i E.1)))) := by
  unfold fX7_readDivisor at h
  show V Y_X7_readDivisor 1 0 0 0 [(0, vR (some 36))] [] S M _
  refine V_aload_n dX7_readDivisor_0 rfl (xm 0 rfl) ?_
  refine V_getR dX7_readDivisor_1 fl_X7_19 (sk_36 hS (by decide)) rfl ?_
  refine V_aload_n dX7_readDivisor_4 rfl (xm 0 rfl) ?_
  refine V_getI (kI := 8) dX7_readDivisor_5 fl_X7_51 (sk_36 hS (by decide)) rfl rfl ?_
  refine T_iald dX7_readDivisor_8 (sk_38 hS (by decide)) rfl h (fun r1 h => ?_)
  refine V_bipush dX7_readDivisor_9 (by decide) ?_
  refine V_icmp_eq (tgt := 20) dX7_readDivisor_11 (by decide) h (fun _ h => ?_) (fun _ h => ?_)
  · refine V_aload_n dX7_readDivisor_20 rfl (xm 0 rfl) ?_
    refine V_getR dX7_readDivisor_21 fl_X7_26 (sk_36 hS (by decide)) rfl ?_
    refine V_aload_n dX7_readDivisor_24 rfl (xm 0 rfl) ?_
    refine V_getI (kI := 8) dX7_readDivisor_25 fl_X7_51 (sk_36 hS (by decide)) rfl rfl ?_
    refine T_iald dX7_readDivisor_28 (sk_40 hS (by decide)) rfl h (fun r2 h => ?_)
    refine V_if_ne (tgt := 38) dX7_readDivisor_29 (by decide) h (fun _ h => ?_) (fun _ h => ?_)
    · refine V_aload_n dX7_readDivisor_32 rfl (xm 0 rfl) ?_
      refine V_iconst dX7_readDivisor_33 ?_
      refine xb2E h (fun r4 M5 h3 h => ?_)
      refine T_callVI dX7_readDivisor_34 ok_X7_fail (by exact ⟨by decide, rfl⟩) lk_X7_65.1 lk_X7_65.2 (sk_36 hS (by decide)) (hV := ((fX7_fail_c (hS.le (by decide)) h3).mono (by decide) (Nat.le_refl _) (Nat.le_refl _))) rfl (Nat.le_of_ble_eq_true rfl) rfl (Nat.le_of_ble_eq_true rfl) ?_
      exact V_iretb (b := r4) dX7_readDivisor_37 rfl rfl (q_wB h)
    · refine V_aload_n dX7_readDivisor_38 rfl (xm 0 rfl) ?_
      refine V_getR dX7_readDivisor_39 fl_X7_32 (sk_36 hS (by decide)) rfl ?_
      refine V_aload_n dX7_readDivisor_42 rfl (xm 0 rfl) ?_
      refine V_getR dX7_readDivisor_43 fl_X7_26 (sk_36 hS (by decide)) rfl ?_
      refine V_aload_n dX7_readDivisor_46 rfl (xm 0 rfl) ?_
      refine V_getI (kI := 8) dX7_readDivisor_47 fl_X7_51 (sk_36 hS (by decide)) rfl rfl ?_
      refine T_iald dX7_readDivisor_50 (sk_40 hS (by decide)) rfl h (fun r6 h => ?_)
      refine xbE h (fun M8 h7 h => ?_)
      refine T_callVv dX7_readDivisor_51 ok_X9_add (by exact ⟨by decide, rfl⟩) lk_X7_78.1 lk_X7_78.2 (sk_41 hS (by decide)) (hV := ((fX9_add_c (hS.le (by decide)) h7).mono (by decide) (Nat.le_refl _) (Nat.le_refl _))) rfl (Nat.le_of_ble_eq_true rfl) rfl (Nat.le_of_ble_eq_true rfl) ?_
      refine V_aload_n dX7_readDivisor_54 rfl (xm 0 rfl) ?_
      refine V_dup dX7_readDivisor_55 rfl ?_
      refine V_getI (kI := 8) dX7_readDivisor_56 fl_X7_51 (sk_36 hS (by decide)) rfl rfl ?_
      refine V_iconst dX7_readDivisor_59 ?_
      refine V_iadd dX7_readDivisor_60 ?_
      refine T_putI (kI := 8) dX7_readDivisor_61 fp_X7_51 (sk_36 hS (by decide)) rfl rfl h (fun M9 h => ?_)
      refine V_iconst dX7_readDivisor_64 ?_
      exact V_iretb (b := true) dX7_readDivisor_65 rfl (by decide) (q_wB h)
  · refine V_aload_n dX7_readDivisor_14 rfl (xm 0 rfl) ?_
    refine V_iconst dX7_readDivisor_15 ?_
    refine xb2E h (fun r11 M12 h10 h => ?_)
    refine T_callVI dX7_readDivisor_16 ok_X7_fail (by exact ⟨by decide, rfl⟩) lk_X7_65.1 lk_X7_65.2 (sk_36 hS (by decide)) (hV := ((fX7_fail_c (hS.le (by decide)) h10).mono (by decide) (Nat.le_refl _) (Nat.le_refl _))) rfl (Nat.le_of_ble_eq_true rfl) rfl (Nat.le_of_ble_eq_true rfl) ?_
    exact V_iretb (b := r11) dX7_readDivisor_19 rfl rfl (q_wB h)
def fX7_readSum_L9 (n : Nat) (M : xM) (v1 : Int) (v2 : Int) (v3 : Int) : Option (Int × Int × xM) := match n with
  | 0 => none
  | n + 1 => (if wr v3 < wr 400 then (if wr v2 = 0 then some (v1, v2, M) else (xrd M 38 401 (M 36 8) fun r4 => (if wr r4 < wr 14 then some (v1, v2, M) else (xrd M 38 401 (M 36 8) fun r5 => (if wr 17 < wr r5 then some (v1, v2, M) else (xrd M 38 401 (M 36 8) fun r6 => xj (fun (s7 : Int) => xlet (xup M 36 8 ((M 36 8) + 1)) fun M9 => xj (fun (M10 : xM) => xj (fun (s12 : Int) (M13 : xM) => (if wr s7 = 0 then fX7_readSum_L9 n M13 r6 s12 (v3 + 1) else (xb (fX9_add M13 (xxor r6 ((-1)))) fun M16 => fX7_readSum_L9 n M16 v1 s12 (v3 + 1)))) fun j14 => (if wr r6 = wr 17 then (xb2 (fX7_readDivisor M10) fun r18 M19 => j14 (b2i r18) M19) else (xb2 (fX7_readUnit M10) fun r21 M22 => j14 (b2i r21) M22))) fun j11 => (if wr s7 = 0 then (if wr v1 = wr ((-1)) then j11 M9 else (xb (fX9_add M9 (xxor v1 ((-1)))) fun M24 => j11 M24)) else j11 M9)) fun j8 => xj (fun (_ : Unit) => j8 1) fun j25 => (if wr r6 = wr 16 then j25 () else (if wr r6 = wr 17 then j25 () else j8 0)))))))) else some (v1, v2, M))
set_option maxRecDepth 20000 in
set_option maxHeartbeats 1000000 in
theorem fX7_readSum_L9_c {S : xS} {kp : Option Nat} (hS : xSk kp 43 S) {Q : Option xV → xS → xM → Prop} :
    ∀ (n : Nat) (M : xM) (v1 : Int) (v2 : Int) (v3 : Int) {x1 : Int} {x2 : Int} {Mz : xM}, fX7_readSum_L9 n M v1 v2 v3 = some (x1, x2, Mz) → V Y_X7_readSum 2 0 0 157 [(0, vR (some 36)), (1, vI x1), (2, vI x2)] [] S Mz Q → V Y_X7_readSum 2 0 0 9 [(0, vR (some 36)), (1, vI v1), (2, vI v2), (3, vI v3)] [] S M Q := by
  intro n
  induction n with
  | zero =>
    intro M v1 v2 v3 x1 x2 Mz h k
    cases h
  | succ n ih =>
    intro M v1 v2 v3 x1 x2 Mz h k
    rw [fX7_readSum_L9] at h
    refine V_iload_n dX7_readSum_9 rfl (xm 3 rfl) ?_
    refine V_sipush dX7_readSum_10 (by decide) ?_
    refine V_icmp_ge (tgt := 157) dX7_readSum_13 (by decide) h (fun _ h => ?_) (fun _ h => ?_)
    · refine V_iload_n dX7_readSum_16 rfl (xm 2 rfl) ?_
      refine V_if_eq (tgt := 157) dX7_readSum_17 (by decide) h (fun _ h => ?_) (fun _ h => ?_)
      · cases h
        refine V.pick [0, 1, 2] rfl ?_
        exact k
      · refine V_aload_n dX7_readSum_20 rfl (xm 0 rfl) ?_
        refine V_getR dX7_readSum_21 fl_X7_19 (sk_36 hS (by decide)) rfl ?_
        refine V_aload_n dX7_readSum_24 rfl (xm 0 rfl) ?_
        refine V_getI (kI := 8) dX7_readSum_25 fl_X7_51 (sk_36 hS (by decide)) rfl rfl ?_
        refine T_iald dX7_readSum_28 (sk_38 hS (by decide)) rfl h (fun r4 h => ?_)
        refine V_bipush dX7_readSum_29 (by decide) ?_
        refine V_icmp_lt (tgt := 157) dX7_readSum_31 (by decide) h (fun _ h => ?_) (fun _ h => ?_)
        · cases h
          refine V.pick [0, 1, 2] rfl ?_
          exact k
        · refine V_aload_n dX7_readSum_34 rfl (xm 0 rfl) ?_
          refine V_getR dX7_readSum_35 fl_X7_19 (sk_36 hS (by decide)) rfl ?_
          refine V_aload_n dX7_readSum_38 rfl (xm 0 rfl) ?_
          refine V_getI (kI := 8) dX7_readSum_39 fl_X7_51 (sk_36 hS (by decide)) rfl rfl ?_
          refine T_iald dX7_readSum_42 (sk_38 hS (by decide)) rfl h (fun r5 h => ?_)
          refine V_bipush dX7_readSum_43 (by decide) ?_
          refine V_icmp_gt (tgt := 157) dX7_readSum_45 (by decide) h (fun _ h => ?_) (fun _ h => ?_)
          · cases h
            refine V.pick [0, 1, 2] rfl ?_
            exact k
          · refine V_aload_n dX7_readSum_48 rfl (xm 0 rfl) ?_
            refine V_getR dX7_readSum_49 fl_X7_19 (sk_36 hS (by decide)) rfl ?_
            refine V_aload_n dX7_readSum_52 rfl (xm 0 rfl) ?_
            refine V_getI (kI := 8) dX7_readSum_53 fl_X7_51 (sk_36 hS (by decide)) rfl rfl ?_
            refine T_iald dX7_readSum_56 (sk_38 hS (by decide)) rfl h (fun r6 h => ?_)
            refine V_istore (ls' := [(4, vI r6), (0, vR (some 36)), (1, vI v1), (2, vI v2), (3, vI v3)]) dX7_readSum_57 (by decide) rfl ?_
            refine V_iload dX7_readSum_59 (xm 0 rfl) ?_
            refine V_bipush dX7_readSum_61 (by decide) ?_
            refine xjE h (fun j8 hj8 h => ?_)
            have kj8 : ∀ (s7 : Int), j8 s7 = some (x1, x2, Mz) → V Y_X7_readSum 2 0 0 78 [(0, vR (some 36)), (1, vI v1), (3, vI v3), (4, vI r6)] [vI s7] S M Q := by
              intro s7 h
              rw [hj8] at h
              refine V_istore (ls' := [(5, vI s7), (0, vR (some 36)), (1, vI v1), (3, vI v3), (4, vI r6)]) dX7_readSum_78 (by decide) rfl ?_
              refine V_aload_n dX7_readSum_80 rfl (xm 1 rfl) ?_
              refine V_dup dX7_readSum_81 rfl ?_
              refine V_getI (kI := 8) dX7_readSum_82 fl_X7_51 (sk_36 hS (by decide)) rfl rfl ?_
              refine V_iconst dX7_readSum_85 ?_
              refine V_iadd dX7_readSum_86 ?_
              refine T_putI (kI := 8) dX7_readSum_87 fp_X7_51 (sk_36 hS (by decide)) rfl rfl h (fun M9 h => ?_)
              refine V_iload dX7_readSum_90 (xm 0 rfl) ?_
              refine xjE h (fun j11 hj11 h => ?_)
              have kj11 : ∀ (M10 : xM), j11 M10 = some (x1, x2, Mz) → V Y_X7_readSum 2 0 0 110 [(0, vR (some 36)), (1, vI v1), (3, vI v3), (4, vI r6), (5, vI s7)] [] S M10 Q := by
                intro M10 h
                rw [hj11] at h
                refine V_iload dX7_readSum_110 (xm 3 rfl) ?_
                refine V_bipush dX7_readSum_112 (by decide) ?_
                refine xjE h (fun j14 hj14 h => ?_)
                have kj14 : ∀ (s12 : Int) (M13 : xM), j14 s12 M13 = some (x1, x2, Mz) → V Y_X7_readSum 2 0 0 128 [(0, vR (some 36)), (1, vI v1), (3, vI v3), (4, vI r6), (5, vI s7)] [vI s12] S M13 Q := by
                  intro s12 M13 h
                  rw [hj14] at h
                  refine V_istore_n (ls' := [(2, vI s12), (0, vR (some 36)), (1, vI v1), (3, vI v3), (4, vI r6), (5, vI s7)]) dX7_readSum_128 rfl (by decide) rfl ?_
                  refine V_iload dX7_readSum_129 (xm 5 rfl) ?_
                  refine V_if_eq (tgt := 148) dX7_readSum_131 (by decide) h (fun _ h => ?_) (fun _ h => ?_)
                  · refine V_iload dX7_readSum_148 (xm 4 rfl) ?_
                    refine V_istore_n (ls' := [(1, vI r6), (2, vI s12), (0, vR (some 36)), (3, vI v3), (4, vI r6), (5, vI s7)]) dX7_readSum_150 rfl (by decide) rfl ?_
                    refine V_iinc (ls' := [(3, vI (v3 + 1)), (1, vI r6), (2, vI s12), (0, vR (some 36)), (4, vI r6), (5, vI s7)]) dX7_readSum_151 (xm 3 rfl) (by decide) rfl ?_
                    refine V_goto (tgt := 9) dX7_readSum_154 (by decide) ?_
                    refine V.pick [3, 1, 2, 0] rfl ?_
                    exact ih M13 r6 s12 (v3 + 1) h k
                  · refine V_aload_n dX7_readSum_134 rfl (xm 1 rfl) ?_
                    refine V_getR dX7_readSum_135 fl_X7_32 (sk_36 hS (by decide)) rfl ?_
                    refine V_iload dX7_readSum_138 (xm 4 rfl) ?_
                    refine V_iconst dX7_readSum_140 ?_
                    refine V_ixor dX7_readSum_141 ?_
                    refine xbE h (fun M16 h15 h => ?_)
                    refine T_callVv dX7_readSum_142 ok_X9_add (by exact ⟨by decide, rfl⟩) lk_X7_78.1 lk_X7_78.2 (sk_41 hS (by decide)) (hV := ((fX9_add_c (hS.le (by decide)) h15).mono (by decide) (Nat.le_refl _) (Nat.le_refl _))) rfl (Nat.le_of_ble_eq_true rfl) rfl (Nat.le_of_ble_eq_true rfl) ?_
                    refine V_goto (tgt := 151) dX7_readSum_145 (by decide) ?_
                    refine V_iinc (ls' := [(3, vI (v3 + 1)), (2, vI s12), (0, vR (some 36)), (1, vI v1), (4, vI r6), (5, vI s7)]) dX7_readSum_151 (xm 3 rfl) (by decide) rfl ?_
                    refine V_goto (tgt := 9) dX7_readSum_154 (by decide) ?_
                    refine V.pick [2, 3, 1, 0] rfl ?_
                    exact ih M16 v1 s12 (v3 + 1) h k
                refine V_icmp_ne (tgt := 124) dX7_readSum_114 (by decide) h (fun _ h => ?_) (fun _ h => ?_)
                · refine V_aload_n dX7_readSum_117 rfl (xm 0 rfl) ?_
                  refine xb2E h (fun r18 M19 h17 h => ?_)
                  refine T_callVI dX7_readSum_118 ok_X7_readDivisor (by exact ⟨by decide, rfl⟩) lk_X7_88.1 lk_X7_88.2 (sk_36 hS (by decide)) (hV := ((fX7_readDivisor_c (hS.le (by decide)) h17).mono (by decide) (Nat.le_refl _) (Nat.le_refl _))) rfl (Nat.le_of_ble_eq_true rfl) rfl (Nat.le_of_ble_eq_true rfl) ?_
                  refine V_goto (tgt := 128) dX7_readSum_121 (by decide) ?_
                  refine V.pick [0, 1, 2, 3, 4] rfl ?_
                  exact kj14 (b2i r18) M19 h
                · refine V_aload_n dX7_readSum_124 rfl (xm 0 rfl) ?_
                  refine xb2E h (fun r21 M22 h20 h => ?_)
                  refine T_callVI dX7_readSum_125 ok_X7_readUnit (by exact ⟨by decide, rfl⟩) lk_X7_85.1 lk_X7_85.2 (sk_36 hS (by decide)) (hV := ((fX7_readUnit_c (hS.le (by decide)) h20).mono (by decide) (Nat.le_refl _) (Nat.le_refl _))) rfl (Nat.le_of_ble_eq_true rfl) rfl (Nat.le_of_ble_eq_true rfl) ?_
                  refine V.pick [0, 1, 2, 3, 4] rfl ?_
                  exact kj14 (b2i r21) M22 h
              refine V_if_ne (tgt := 110) dX7_readSum_92 (by decide) h (fun _ h => ?_) (fun _ h => ?_)
              · refine V_iload_n dX7_readSum_95 rfl (xm 2 rfl) ?_
                refine V_iconst dX7_readSum_96 ?_
                refine V_icmp_eq (tgt := 110) dX7_readSum_97 (by decide) h (fun _ h => ?_) (fun _ h => ?_)
                · refine V.pick [1, 2, 3, 4, 0] rfl ?_
                  exact kj11 M9 h
                · refine V_aload_n dX7_readSum_100 rfl (xm 1 rfl) ?_
                  refine V_getR dX7_readSum_101 fl_X7_32 (sk_36 hS (by decide)) rfl ?_
                  refine V_iload_n dX7_readSum_104 rfl (xm 2 rfl) ?_
                  refine V_iconst dX7_readSum_105 ?_
                  refine V_ixor dX7_readSum_106 ?_
                  refine xbE h (fun M24 h23 h => ?_)
                  refine T_callVv dX7_readSum_107 ok_X9_add (by exact ⟨by decide, rfl⟩) lk_X7_78.1 lk_X7_78.2 (sk_41 hS (by decide)) (hV := ((fX9_add_c (hS.le (by decide)) h23).mono (by decide) (Nat.le_refl _) (Nat.le_refl _))) rfl (Nat.le_of_ble_eq_true rfl) rfl (Nat.le_of_ble_eq_true rfl) ?_
                  refine V.pick [1, 2, 3, 4, 0] rfl ?_
                  exact kj11 M24 h
              · refine V.pick [1, 2, 3, 4, 0] rfl ?_
                exact kj11 M9 h
            refine xjE h (fun j25 hj25 h => ?_)
            have kj25 : ∀ (u : Unit), j25 u = some (x1, x2, Mz) → V Y_X7_readSum 2 0 0 73 [(0, vR (some 36)), (1, vI v1), (3, vI v3), (4, vI r6)] [] S M Q := by
              intro u h
              rw [hj25] at h
              refine V_iconst dX7_readSum_73 ?_
              refine V_goto (tgt := 78) dX7_readSum_74 (by decide) ?_
              refine V.pick [0, 1, 2, 3] rfl ?_
              exact kj8 1 h
            refine V_icmp_eq (tgt := 73) dX7_readSum_63 (by decide) h (fun _ h => ?_) (fun _ h => ?_)
            · refine V.pick [1, 2, 4, 0] rfl ?_
              exact kj25 () h
            · refine V_iload dX7_readSum_66 (xm 0 rfl) ?_
              refine V_bipush dX7_readSum_68 (by decide) ?_
              refine V_icmp_ne (tgt := 77) dX7_readSum_70 (by decide) h (fun _ h => ?_) (fun _ h => ?_)
              · refine V.pick [1, 2, 4, 0] rfl ?_
                exact kj25 () h
              · refine V_iconst dX7_readSum_77 ?_
                refine V.pick [1, 2, 4, 0] rfl ?_
                exact kj8 0 h
    · cases h
      refine V.pick [0, 1, 2] rfl ?_
      exact k
theorem fX7_readSum_L9_ci {S : xS} {kp : Option Nat} (hS : xSk kp 43 S) {Q : Option xV → xS → xM → Prop} {n : Nat} {M : xM} {v1 : Int} {v2 : Int} {v3 : Int} {x1 : Int} {x2 : Int} {Mz : xM} (hl : fX7_readSum_L9 n M v1 v2 v3 = some (x1, x2, Mz)) (k : V Y_X7_readSum 2 0 0 157 [(0, vR (some 36)), (1, vI x1), (2, vI x2)] [] S Mz Q) : V Y_X7_readSum 2 0 0 9 [(0, vR (some 36)), (1, vI v1), (2, vI v2), (3, vI v3)] [] S M Q := fX7_readSum_L9_c hS _ _ _ _ _ hl k
def fX7_readSum (M : xM)  : Option (Bool × xM) := xb2 (fX7_readUnit M) fun r2 M3 => xb3 (fX7_readSum_L9 xfuel M3 ((-1)) (b2i r2) 0) fun y26 y27 M28 => (if wr y26 = wr ((-1)) then (xbl y27 fun b30 => some (b30, M28)) else (xb (fX9_add M28 (xxor y26 ((-1)))) fun M32 => xbl y27 fun b33 => some (b33, M32)))
set_option maxRecDepth 20000 in
set_option maxHeartbeats 1000000 in
theorem fX7_readSum_c {S : xS} {kp : Option Nat} (hS : xSk kp 43 S) {M : xM} {E : Bool × xM} (h : fX7_readSum M = some E) :
    V Y_X7_readSum 2 0 0 0 (xarg 0 [vR (some 36)]) [] S M (xqR S E.2 (some (vI (b2i E.1)))) := by
  unfold fX7_readSum at h
  show V Y_X7_readSum 2 0 0 0 [(0, vR (some 36))] [] S M _
  refine V_iconst dX7_readSum_0 ?_
  refine V_istore_n (ls' := [(1, vI ((-1))), (0, vR (some 36))]) dX7_readSum_1 rfl (by decide) rfl ?_
  refine V_aload_n dX7_readSum_2 rfl (xm 1 rfl) ?_
  refine xb2E h (fun r2 M3 h1 h => ?_)
  refine T_callVI dX7_readSum_3 ok_X7_readUnit (by exact ⟨by decide, rfl⟩) lk_X7_85.1 lk_X7_85.2 (sk_36 hS (by decide)) (hV := ((fX7_readUnit_c (hS.le (by decide)) h1).mono (by decide) (Nat.le_refl _) (Nat.le_refl _))) rfl (Nat.le_of_ble_eq_true rfl) rfl (Nat.le_of_ble_eq_true rfl) ?_
  refine V_istore_n (ls' := [(2, vI (b2i r2)), (1, vI ((-1))), (0, vR (some 36))]) dX7_readSum_6 rfl (by decide) rfl ?_
  refine V_iconst dX7_readSum_7 ?_
  refine V_istore_n (ls' := [(3, vI 0), (2, vI (b2i r2)), (1, vI ((-1))), (0, vR (some 36))]) dX7_readSum_8 rfl (by decide) rfl ?_
  refine xb3E h (fun y26 y27 M28 h29 h => ?_)
  refine V.pick [3, 2, 1, 0] rfl ?_
  refine fX7_readSum_L9_ci (hS.le (by decide)) h29 ?_
  refine V_iload_n dX7_readSum_157 rfl (xm 1 rfl) ?_
  refine V_iconst dX7_readSum_158 ?_
  refine V_icmp_eq (tgt := 172) dX7_readSum_159 (by decide) h (fun _ h => ?_) (fun _ h => ?_)
  · refine V_iload_n dX7_readSum_172 rfl (xm 2 rfl) ?_
    exact T_iretb dX7_readSum_173 rfl h (fun b30 h => q_wB h)
  · refine V_aload_n dX7_readSum_162 rfl (xm 0 rfl) ?_
    refine V_getR dX7_readSum_163 fl_X7_32 (sk_36 hS (by decide)) rfl ?_
    refine V_iload_n dX7_readSum_166 rfl (xm 1 rfl) ?_
    refine V_iconst dX7_readSum_167 ?_
    refine V_ixor dX7_readSum_168 ?_
    refine xbE h (fun M32 h31 h => ?_)
    refine T_callVv dX7_readSum_169 ok_X9_add (by exact ⟨by decide, rfl⟩) lk_X7_78.1 lk_X7_78.2 (sk_41 hS (by decide)) (hV := ((fX9_add_c (hS.le (by decide)) h31).mono (by decide) (Nat.le_refl _) (Nat.le_refl _))) rfl (Nat.le_of_ble_eq_true rfl) rfl (Nat.le_of_ble_eq_true rfl) ?_
    refine V_iload_n dX7_readSum_172 rfl (xm 2 rfl) ?_
    exact T_iretb dX7_readSum_173 rfl h (fun b33 h => q_wB h)
def fX7_readCondition_g_X7_readEither_L11 (rc : Nat → xM → Int → Option (Bool × xM)) (n : Nat) (M : xM) (v1 : Int) (v2 : Int) (v3 : Int) (v4 : Int) : Option (Int × Int × xM) := match n with
  | 0 => none
  | n + 1 => (if wr v4 < wr 400 then (if wr v3 = 0 then some (v2, v3, M) else (xrd M 38 401 (M 36 8) fun r104 => xj (fun (_ : Unit) => xrd M 38 401 (M 36 8) fun r106 => xlet (xup M 36 8 ((M 36 8) + 1)) fun M107 => xj (fun (M108 : xM) => xb2 (rc 0 M108 v1) fun r111 M112 => (if wr r106 = wr 10 then (xb (fX9_add M112 ((-11))) fun M114 => fX7_readCondition_g_X7_readEither_L11 rc n M114 v1 v2 (b2i r111) (v4 + 1)) else fX7_readCondition_g_X7_readEither_L11 rc n M112 v1 1 (b2i r111) (v4 + 1))) fun j109 => (if wr r106 = wr 9 then (if wr v2 = 0 then j109 M107 else (xb (fX9_add M107 ((-10))) fun M116 => j109 M116)) else j109 M107)) fun j105 => (if wr r104 = wr 9 then j105 () else (xrd M 38 401 (M 36 8) fun r117 => (if wr r117 = wr 10 then j105 () else some (v2, v3, M)))))) else some (v2, v3, M))
set_option maxRecDepth 20000 in
set_option maxHeartbeats 1000000 in
theorem fX7_readCondition_g_X7_readEither_L11_c {S : xS} {kp : Option Nat} (hS : xSk kp 43 S) {Q : Option xV → xS → xM → Prop} {m : Nat} {rc : Nat → xM → Int → Option (Bool × xM)} (hm : 3 ≤ m) (ih0 : ∀ {M : xM} {v1 : Int} {E : Bool × xM}, rc 0 M v1 = some E → V Y_X7_readCondition m 0 0 0 (xarg 0 [vR (some 36), vI v1]) [] S M (xqR S E.2 (some (vI (b2i E.1))))) (ih1 : ∀ {M : xM} {v1 : Int} {E : Bool × xM}, rc 1 M v1 = some E → V Y_X7_readEither m 0 0 0 (xarg 0 [vR (some 36), vI v1]) [] S M (xqR S E.2 (some (vI (b2i E.1))))) :
    ∀ (n : Nat) (M : xM) (v1 : Int) (v2 : Int) (v3 : Int) (v4 : Int) {x2 : Int} {x3 : Int} {Mz : xM}, fX7_readCondition_g_X7_readEither_L11 rc n M v1 v2 v3 v4 = some (x2, x3, Mz) → V Y_X7_readEither (m + 1) 0 0 125 [(0, vR (some 36)), (2, vI x2), (3, vI x3)] [] S Mz Q → V Y_X7_readEither (m + 1) 0 0 11 [(0, vR (some 36)), (1, vI v1), (2, vI v2), (3, vI v3), (4, vI v4)] [] S M Q := by
  intro n
  induction n with
  | zero =>
    intro M v1 v2 v3 v4 x2 x3 Mz h k
    cases h
  | succ n ih =>
    intro M v1 v2 v3 v4 x2 x3 Mz h k
    rw [fX7_readCondition_g_X7_readEither_L11] at h
    refine V_iload dX7_readEither_11 (xm 4 rfl) ?_
    refine V_sipush dX7_readEither_13 (by decide) ?_
    refine V_icmp_ge (tgt := 125) dX7_readEither_16 (by decide) h (fun _ h => ?_) (fun _ h => ?_)
    · refine V_iload_n dX7_readEither_19 rfl (xm 3 rfl) ?_
      refine V_if_eq (tgt := 125) dX7_readEither_20 (by decide) h (fun _ h => ?_) (fun _ h => ?_)
      · cases h
        refine V.pick [0, 2, 3] rfl ?_
        exact k
      · refine V_aload_n dX7_readEither_23 rfl (xm 0 rfl) ?_
        refine V_getR dX7_readEither_24 fl_X7_19 (sk_36 hS (by decide)) rfl ?_
        refine V_aload_n dX7_readEither_27 rfl (xm 0 rfl) ?_
        refine V_getI (kI := 8) dX7_readEither_28 fl_X7_51 (sk_36 hS (by decide)) rfl rfl ?_
        refine T_iald dX7_readEither_31 (sk_38 hS (by decide)) rfl h (fun r104 h => ?_)
        refine V_bipush dX7_readEither_32 (by decide) ?_
        refine xjE h (fun j105 hj105 h => ?_)
        have kj105 : ∀ (u : Unit), j105 u = some (x2, x3, Mz) → V Y_X7_readEither (m + 1) 0 0 51 [(0, vR (some 36)), (1, vI v1), (2, vI v2), (4, vI v4)] [] S M Q := by
          intro u h
          rw [hj105] at h
          refine V_aload_n dX7_readEither_51 rfl (xm 0 rfl) ?_
          refine V_getR dX7_readEither_52 fl_X7_19 (sk_36 hS (by decide)) rfl ?_
          refine V_aload_n dX7_readEither_55 rfl (xm 0 rfl) ?_
          refine V_getI (kI := 8) dX7_readEither_56 fl_X7_51 (sk_36 hS (by decide)) rfl rfl ?_
          refine T_iald dX7_readEither_59 (sk_38 hS (by decide)) rfl h (fun r106 h => ?_)
          refine V_istore (ls' := [(5, vI r106), (0, vR (some 36)), (1, vI v1), (2, vI v2), (4, vI v4)]) dX7_readEither_60 (by decide) rfl ?_
          refine V_aload_n dX7_readEither_62 rfl (xm 1 rfl) ?_
          refine V_dup dX7_readEither_63 rfl ?_
          refine V_getI (kI := 8) dX7_readEither_64 fl_X7_51 (sk_36 hS (by decide)) rfl rfl ?_
          refine V_iconst dX7_readEither_67 ?_
          refine V_iadd dX7_readEither_68 ?_
          refine T_putI (kI := 8) dX7_readEither_69 fp_X7_51 (sk_36 hS (by decide)) rfl rfl h (fun M107 h => ?_)
          refine V_iload dX7_readEither_72 (xm 0 rfl) ?_
          refine V_bipush dX7_readEither_74 (by decide) ?_
          refine xjE h (fun j109 hj109 h => ?_)
          have kj109 : ∀ (M108 : xM), j109 M108 = some (x2, x3, Mz) → V Y_X7_readEither (m + 1) 0 0 92 [(0, vR (some 36)), (1, vI v1), (2, vI v2), (4, vI v4), (5, vI r106)] [] S M108 Q := by
            intro M108 h
            rw [hj109] at h
            refine V_aload_n dX7_readEither_92 rfl (xm 0 rfl) ?_
            refine V_iload_n dX7_readEither_93 rfl (xm 1 rfl) ?_
            refine xb2E h (fun r111 M112 h110 h => ?_)
            refine T_callVI dX7_readEither_94 ok_X7_readCondition (by exact ⟨by decide, rfl⟩) lk_X7_82.1 lk_X7_82.2 (sk_36 hS (by decide)) (hV := (ih0 h110)) rfl (Nat.le_of_ble_eq_true rfl) rfl (Nat.le_of_ble_eq_true rfl) ?_
            refine V_istore_n (ls' := [(3, vI (b2i r111)), (0, vR (some 36)), (1, vI v1), (2, vI v2), (4, vI v4), (5, vI r106)]) dX7_readEither_97 rfl (by decide) rfl ?_
            refine V_iload dX7_readEither_98 (xm 5 rfl) ?_
            refine V_bipush dX7_readEither_100 (by decide) ?_
            refine V_icmp_ne (tgt := 117) dX7_readEither_102 (by decide) h (fun _ h => ?_) (fun _ h => ?_)
            · refine V_aload_n dX7_readEither_105 rfl (xm 1 rfl) ?_
              refine V_getR dX7_readEither_106 fl_X7_32 (sk_36 hS (by decide)) rfl ?_
              refine V_bipush dX7_readEither_109 (by decide) ?_
              refine xbE h (fun M114 h113 h => ?_)
              refine T_callVv dX7_readEither_111 ok_X9_add (by exact ⟨by decide, rfl⟩) lk_X7_78.1 lk_X7_78.2 (sk_41 hS (by decide)) (hV := ((fX9_add_c (hS.le (by decide)) h113).mono (by omega) (Nat.le_refl _) (Nat.le_refl _))) rfl (Nat.le_of_ble_eq_true rfl) rfl (Nat.le_of_ble_eq_true rfl) ?_
              refine V_goto (tgt := 119) dX7_readEither_114 (by decide) ?_
              refine V_iinc (ls' := [(4, vI (v4 + 1)), (3, vI (b2i r111)), (0, vR (some 36)), (1, vI v1), (2, vI v2), (5, vI r106)]) dX7_readEither_119 (xm 4 rfl) (by decide) rfl ?_
              refine V_goto (tgt := 11) dX7_readEither_122 (by decide) ?_
              refine V.pick [2, 3, 4, 1, 0] rfl ?_
              exact ih M114 v1 v2 (b2i r111) (v4 + 1) h k
            · refine V_iconst dX7_readEither_117 ?_
              refine V_istore_n (ls' := [(2, vI 1), (3, vI (b2i r111)), (0, vR (some 36)), (1, vI v1), (4, vI v4), (5, vI r106)]) dX7_readEither_118 rfl (by decide) rfl ?_
              refine V_iinc (ls' := [(4, vI (v4 + 1)), (2, vI 1), (3, vI (b2i r111)), (0, vR (some 36)), (1, vI v1), (5, vI r106)]) dX7_readEither_119 (xm 4 rfl) (by decide) rfl ?_
              refine V_goto (tgt := 11) dX7_readEither_122 (by decide) ?_
              refine V.pick [3, 4, 1, 2, 0] rfl ?_
              exact ih M112 v1 1 (b2i r111) (v4 + 1) h k
          refine V_icmp_ne (tgt := 92) dX7_readEither_76 (by decide) h (fun _ h => ?_) (fun _ h => ?_)
          · refine V_iload_n dX7_readEither_79 rfl (xm 3 rfl) ?_
            refine V_if_eq (tgt := 92) dX7_readEither_80 (by decide) h (fun _ h => ?_) (fun _ h => ?_)
            · refine V.pick [1, 2, 3, 4, 0] rfl ?_
              exact kj109 M107 h
            · refine V_aload_n dX7_readEither_83 rfl (xm 1 rfl) ?_
              refine V_getR dX7_readEither_84 fl_X7_32 (sk_36 hS (by decide)) rfl ?_
              refine V_bipush dX7_readEither_87 (by decide) ?_
              refine xbE h (fun M116 h115 h => ?_)
              refine T_callVv dX7_readEither_89 ok_X9_add (by exact ⟨by decide, rfl⟩) lk_X7_78.1 lk_X7_78.2 (sk_41 hS (by decide)) (hV := ((fX9_add_c (hS.le (by decide)) h115).mono (by omega) (Nat.le_refl _) (Nat.le_refl _))) rfl (Nat.le_of_ble_eq_true rfl) rfl (Nat.le_of_ble_eq_true rfl) ?_
              refine V.pick [1, 2, 3, 4, 0] rfl ?_
              exact kj109 M116 h
          · refine V.pick [1, 2, 3, 4, 0] rfl ?_
            exact kj109 M107 h
        refine V_icmp_eq (tgt := 51) dX7_readEither_34 (by decide) h (fun _ h => ?_) (fun _ h => ?_)
        · refine V.pick [0, 1, 2, 4] rfl ?_
          exact kj105 () h
        · refine V_aload_n dX7_readEither_37 rfl (xm 0 rfl) ?_
          refine V_getR dX7_readEither_38 fl_X7_19 (sk_36 hS (by decide)) rfl ?_
          refine V_aload_n dX7_readEither_41 rfl (xm 0 rfl) ?_
          refine V_getI (kI := 8) dX7_readEither_42 fl_X7_51 (sk_36 hS (by decide)) rfl rfl ?_
          refine T_iald dX7_readEither_45 (sk_38 hS (by decide)) rfl h (fun r117 h => ?_)
          refine V_bipush dX7_readEither_46 (by decide) ?_
          refine V_icmp_ne (tgt := 125) dX7_readEither_48 (by decide) h (fun _ h => ?_) (fun _ h => ?_)
          · refine V.pick [0, 1, 2, 4] rfl ?_
            exact kj105 () h
          · cases h
            refine V.pick [0, 2, 3] rfl ?_
            exact k
    · cases h
      refine V.pick [0, 2, 3] rfl ?_
      exact k
theorem fX7_readCondition_g_X7_readEither_L11_ci {S : xS} {kp : Option Nat} (hS : xSk kp 43 S) {Q : Option xV → xS → xM → Prop} {m : Nat} {rc : Nat → xM → Int → Option (Bool × xM)} (hm : 3 ≤ m) (ih0 : ∀ {M : xM} {v1 : Int} {E : Bool × xM}, rc 0 M v1 = some E → V Y_X7_readCondition m 0 0 0 (xarg 0 [vR (some 36), vI v1]) [] S M (xqR S E.2 (some (vI (b2i E.1))))) (ih1 : ∀ {M : xM} {v1 : Int} {E : Bool × xM}, rc 1 M v1 = some E → V Y_X7_readEither m 0 0 0 (xarg 0 [vR (some 36), vI v1]) [] S M (xqR S E.2 (some (vI (b2i E.1))))) {n : Nat} {M : xM} {v1 : Int} {v2 : Int} {v3 : Int} {v4 : Int} {x2 : Int} {x3 : Int} {Mz : xM} (hl : fX7_readCondition_g_X7_readEither_L11 rc n M v1 v2 v3 v4 = some (x2, x3, Mz)) (k : V Y_X7_readEither (m + 1) 0 0 125 [(0, vR (some 36)), (2, vI x2), (3, vI x3)] [] S Mz Q) : V Y_X7_readEither (m + 1) 0 0 11 [(0, vR (some 36)), (1, vI v1), (2, vI v2), (3, vI v3), (4, vI v4)] [] S M Q := fX7_readCondition_g_X7_readEither_L11_c hS hm ih0 ih1 _ _ _ _ _ _ hl k
def fX7_readCondition_g (n : Nat) (w : Nat) (M : xM) (v1 : Int) : Option (Bool × xM) := match n with
  | 0 => none
  | n + 1 => (if w = 0 then xrd M 38 401 (M 36 8) fun r1 => xj (fun (_ : Unit) => (if wr v1 < wr 8 then (xlet (xup M 36 8 ((M 36 8) + 1)) fun M3 => (if wr r1 = wr 18 then (xb2 ((fX7_readCondition_g n) 1 M3 (v1 + 1)) fun r5 M6 => (if r5 = true then (xb2 (fX7_expect M6 19) fun r8 M9 => (if r8 = true then some (true, M9) else some (false, M9))) else some (false, M6))) else (xb2 ((fX7_readCondition_g n) 0 M3 (v1 + 1)) fun r11 M12 => xb (fX9_add M12 ((-12))) fun M14 => some (r11, M14)))) else (xb2 (fX7_fail M 3) fun r16 M17 => some (r16, M17)))) fun j2 => (if wr r1 = wr 11 then j2 () else (if wr r1 = wr 18 then j2 () else (xb2 (fX7_readSum M) fun r19 M20 => (if r19 = true then (xrd M20 38 401 (M20 36 8) fun r21 => xj (fun (_ : Unit) => xlet (xup M20 36 8 ((M20 36 8) + 1)) fun M23 => xb2 (fX7_readSum M23) fun r25 M26 => xb (fX9_add M26 (xxor r21 ((-1)))) fun M28 => some (r25, M28)) fun j22 => (if wr r21 = wr 20 then j22 () else (if wr r21 = wr 21 then j22 () else (if wr r21 = wr 22 then j22 () else (xb2 (fX7_fail M20 1) fun r30 M31 => some (r30, M31)))))) else some (false, M20))))) else xb2 ((fX7_readCondition_g n) 0 M v1) fun r102 M103 => xb3 (fX7_readCondition_g_X7_readEither_L11 (fX7_readCondition_g n) xfuel M103 v1 0 (b2i r102) 0) fun y118 y119 M120 => (if wr y118 = 0 then (xbl y119 fun b122 => some (b122, M120)) else (xb (fX9_add M120 ((-10))) fun M124 => xbl y119 fun b125 => some (b125, M124))))
set_option maxRecDepth 20000 in
set_option maxHeartbeats 1000000 in
theorem fX7_readCondition_g_c {S : xS} {kp : Option Nat} (hS : xSk kp 43 S) : ∀ n : Nat, (∀ {M : xM} {v1 : Int} {E : Bool × xM}, fX7_readCondition_g n 0 M v1 = some E → V Y_X7_readCondition (n + 3) 0 0 0 (xarg 0 [vR (some 36), vI v1]) [] S M (xqR S E.2 (some (vI (b2i E.1))))) ∧ (∀ {M : xM} {v1 : Int} {E : Bool × xM}, fX7_readCondition_g n 1 M v1 = some E → V Y_X7_readEither (n + 3) 0 0 0 (xarg 0 [vR (some 36), vI v1]) [] S M (xqR S E.2 (some (vI (b2i E.1))))) := by
  intro n
  induction n with
  | zero => exact ⟨(fun h => (by cases h)), (fun h => (by cases h))⟩
  | succ n ih =>
    obtain ⟨ih0, ih1⟩ := ih
    have e9 : n + 1 + 3 = n + 3 + 1 := by omega
    rw [e9]
    refine ⟨?_, ?_⟩
    · intro M v1 E h
      rw [fX7_readCondition_g] at h
      rw [if_pos rfl] at h
      show V Y_X7_readCondition _ 0 0 0 [(0, vR (some 36)), (1, vI v1)] [] S M _
      refine V_aload_n dX7_readCondition_0 rfl (xm 0 rfl) ?_
      refine V_getR dX7_readCondition_1 fl_X7_19 (sk_36 hS (by decide)) rfl ?_
      refine V_aload_n dX7_readCondition_4 rfl (xm 0 rfl) ?_
      refine V_getI (kI := 8) dX7_readCondition_5 fl_X7_51 (sk_36 hS (by decide)) rfl rfl ?_
      refine T_iald dX7_readCondition_8 (sk_38 hS (by decide)) rfl h (fun r1 h => ?_)
      refine V_istore_n (ls' := [(2, vI r1), (0, vR (some 36)), (1, vI v1)]) dX7_readCondition_9 rfl (by decide) rfl ?_
      refine V_iload_n dX7_readCondition_10 rfl (xm 0 rfl) ?_
      refine V_bipush dX7_readCondition_11 (by decide) ?_
      refine xjE h (fun j2 hj2 h => ?_)
      have kj2 : ∀ (u : Unit), j2 u = some E → V Y_X7_readCondition (n + 3 + 1) 0 0 22 [(0, vR (some 36)), (1, vI v1), (2, vI r1)] [] S M (xqR S E.2 (some (vI (b2i E.1)))) := by
        intro u h
        rw [hj2] at h
        refine V_iload_n dX7_readCondition_22 rfl (xm 1 rfl) ?_
        refine V_bipush dX7_readCondition_23 (by decide) ?_
        refine V_icmp_lt (tgt := 34) dX7_readCondition_25 (by decide) h (fun _ h => ?_) (fun _ h => ?_)
        · refine V_aload_n dX7_readCondition_34 rfl (xm 0 rfl) ?_
          refine V_dup dX7_readCondition_35 rfl ?_
          refine V_getI (kI := 8) dX7_readCondition_36 fl_X7_51 (sk_36 hS (by decide)) rfl rfl ?_
          refine V_iconst dX7_readCondition_39 ?_
          refine V_iadd dX7_readCondition_40 ?_
          refine T_putI (kI := 8) dX7_readCondition_41 fp_X7_51 (sk_36 hS (by decide)) rfl rfl h (fun M3 h => ?_)
          refine V_iload_n dX7_readCondition_44 rfl (xm 2 rfl) ?_
          refine V_bipush dX7_readCondition_45 (by decide) ?_
          refine V_icmp_ne (tgt := 75) dX7_readCondition_47 (by decide) h (fun _ h => ?_) (fun _ h => ?_)
          · refine V_aload_n dX7_readCondition_50 rfl (xm 0 rfl) ?_
            refine V_iload_n dX7_readCondition_51 rfl (xm 1 rfl) ?_
            refine V_iconst dX7_readCondition_52 ?_
            refine V_iadd dX7_readCondition_53 ?_
            refine xb2E h (fun r5 M6 h4 h => ?_)
            refine T_callVI dX7_readCondition_54 ok_X7_readEither (by exact ⟨by decide, rfl⟩) lk_X7_75.1 lk_X7_75.2 (sk_36 hS (by decide)) (hV := (ih1 h4)) rfl (Nat.le_of_ble_eq_true rfl) rfl (Nat.le_of_ble_eq_true rfl) ?_
            refine V_if_eqB (tgt := 73) dX7_readCondition_57 (by decide) h (fun _ h => ?_) (fun _ h => ?_)
            · refine V_aload_n dX7_readCondition_60 rfl (xm 0 rfl) ?_
              refine V_bipush dX7_readCondition_61 (by decide) ?_
              refine xb2E h (fun r8 M9 h7 h => ?_)
              refine T_callVI dX7_readCondition_63 ok_X7_expect (by exact ⟨by decide, rfl⟩) lk_X7_69.1 lk_X7_69.2 (sk_36 hS (by decide)) (hV := ((fX7_expect_c (hS.le (by decide)) h7).mono (by omega) (Nat.le_refl _) (Nat.le_refl _))) rfl (Nat.le_of_ble_eq_true rfl) rfl (Nat.le_of_ble_eq_true rfl) ?_
              refine V_if_eqB (tgt := 73) dX7_readCondition_66 (by decide) h (fun _ h => ?_) (fun _ h => ?_)
              · refine V_iconst dX7_readCondition_69 ?_
                refine V_goto (tgt := 74) dX7_readCondition_70 (by decide) ?_
                exact V_iretb (b := true) dX7_readCondition_74 rfl (by decide) (q_wB h)
              · refine V_iconst dX7_readCondition_73 ?_
                exact V_iretb (b := false) dX7_readCondition_74 rfl (by decide) (q_wB h)
            · refine V_iconst dX7_readCondition_73 ?_
              exact V_iretb (b := false) dX7_readCondition_74 rfl (by decide) (q_wB h)
          · refine V_aload_n dX7_readCondition_75 rfl (xm 0 rfl) ?_
            refine V_iload_n dX7_readCondition_76 rfl (xm 1 rfl) ?_
            refine V_iconst dX7_readCondition_77 ?_
            refine V_iadd dX7_readCondition_78 ?_
            refine xb2E h (fun r11 M12 h10 h => ?_)
            refine T_callVI dX7_readCondition_79 ok_X7_readCondition (by exact ⟨by decide, rfl⟩) lk_X7_82.1 lk_X7_82.2 (sk_36 hS (by decide)) (hV := (ih0 h10)) rfl (Nat.le_of_ble_eq_true rfl) rfl (Nat.le_of_ble_eq_true rfl) ?_
            refine V_istore_n (ls' := [(3, vI (b2i r11)), (0, vR (some 36)), (1, vI v1), (2, vI r1)]) dX7_readCondition_82 rfl (by decide) rfl ?_
            refine V_aload_n dX7_readCondition_83 rfl (xm 1 rfl) ?_
            refine V_getR dX7_readCondition_84 fl_X7_32 (sk_36 hS (by decide)) rfl ?_
            refine V_bipush dX7_readCondition_87 (by decide) ?_
            refine xbE h (fun M14 h13 h => ?_)
            refine T_callVv dX7_readCondition_89 ok_X9_add (by exact ⟨by decide, rfl⟩) lk_X7_78.1 lk_X7_78.2 (sk_41 hS (by decide)) (hV := ((fX9_add_c (hS.le (by decide)) h13).mono (by omega) (Nat.le_refl _) (Nat.le_refl _))) rfl (Nat.le_of_ble_eq_true rfl) rfl (Nat.le_of_ble_eq_true rfl) ?_
            refine V_iload_n dX7_readCondition_92 rfl (xm 0 rfl) ?_
            exact V_iretb (b := r11) dX7_readCondition_93 rfl rfl (q_wB h)
        · refine V_aload_n dX7_readCondition_28 rfl (xm 0 rfl) ?_
          refine V_iconst dX7_readCondition_29 ?_
          refine xb2E h (fun r16 M17 h15 h => ?_)
          refine T_callVI dX7_readCondition_30 ok_X7_fail (by exact ⟨by decide, rfl⟩) lk_X7_65.1 lk_X7_65.2 (sk_36 hS (by decide)) (hV := ((fX7_fail_c (hS.le (by decide)) h15).mono (by omega) (Nat.le_refl _) (Nat.le_refl _))) rfl (Nat.le_of_ble_eq_true rfl) rfl (Nat.le_of_ble_eq_true rfl) ?_
          exact V_iretb (b := r16) dX7_readCondition_33 rfl rfl (q_wB h)
      refine V_icmp_eq (tgt := 22) dX7_readCondition_13 (by decide) h (fun _ h => ?_) (fun _ h => ?_)
      · refine V.pick [1, 2, 0] rfl ?_
        exact kj2 () h
      · refine V_iload_n dX7_readCondition_16 rfl (xm 0 rfl) ?_
        refine V_bipush dX7_readCondition_17 (by decide) ?_
        refine V_icmp_ne (tgt := 94) dX7_readCondition_19 (by decide) h (fun _ h => ?_) (fun _ h => ?_)
        · refine V.pick [1, 2, 0] rfl ?_
          exact kj2 () h
        · refine V_aload_n dX7_readCondition_94 rfl (xm 1 rfl) ?_
          refine xb2E h (fun r19 M20 h18 h => ?_)
          refine T_callVI dX7_readCondition_95 ok_X7_readSum (by exact ⟨by decide, rfl⟩) lk_X7_72.1 lk_X7_72.2 (sk_36 hS (by decide)) (hV := ((fX7_readSum_c (hS.le (by decide)) h18).mono (by omega) (Nat.le_refl _) (Nat.le_refl _))) rfl (Nat.le_of_ble_eq_true rfl) rfl (Nat.le_of_ble_eq_true rfl) ?_
          refine V_if_neB (tgt := 103) dX7_readCondition_98 (by decide) h (fun _ h => ?_) (fun _ h => ?_)
          · refine V_aload_n dX7_readCondition_103 rfl (xm 1 rfl) ?_
            refine V_getR dX7_readCondition_104 fl_X7_19 (sk_36 hS (by decide)) rfl ?_
            refine V_aload_n dX7_readCondition_107 rfl (xm 1 rfl) ?_
            refine V_getI (kI := 8) dX7_readCondition_108 fl_X7_51 (sk_36 hS (by decide)) rfl rfl ?_
            refine T_iald dX7_readCondition_111 (sk_38 hS (by decide)) rfl h (fun r21 h => ?_)
            refine V_istore_n (ls' := [(3, vI r21), (2, vI r1), (0, vR (some 36)), (1, vI v1)]) dX7_readCondition_112 rfl (by decide) rfl ?_
            refine V_iload_n dX7_readCondition_113 rfl (xm 0 rfl) ?_
            refine V_bipush dX7_readCondition_114 (by decide) ?_
            refine xjE h (fun j22 hj22 h => ?_)
            have kj22 : ∀ (u : Unit), j22 u = some E → V Y_X7_readCondition (n + 3 + 1) 0 0 137 [(0, vR (some 36)), (3, vI r21)] [] S M20 (xqR S E.2 (some (vI (b2i E.1)))) := by
              intro u h
              rw [hj22] at h
              refine V_aload_n dX7_readCondition_137 rfl (xm 0 rfl) ?_
              refine V_dup dX7_readCondition_138 rfl ?_
              refine V_getI (kI := 8) dX7_readCondition_139 fl_X7_51 (sk_36 hS (by decide)) rfl rfl ?_
              refine V_iconst dX7_readCondition_142 ?_
              refine V_iadd dX7_readCondition_143 ?_
              refine T_putI (kI := 8) dX7_readCondition_144 fp_X7_51 (sk_36 hS (by decide)) rfl rfl h (fun M23 h => ?_)
              refine V_aload_n dX7_readCondition_147 rfl (xm 0 rfl) ?_
              refine xb2E h (fun r25 M26 h24 h => ?_)
              refine T_callVI dX7_readCondition_148 ok_X7_readSum (by exact ⟨by decide, rfl⟩) lk_X7_72.1 lk_X7_72.2 (sk_36 hS (by decide)) (hV := ((fX7_readSum_c (hS.le (by decide)) h24).mono (by omega) (Nat.le_refl _) (Nat.le_refl _))) rfl (Nat.le_of_ble_eq_true rfl) rfl (Nat.le_of_ble_eq_true rfl) ?_
              refine V_istore (ls' := [(4, vI (b2i r25)), (0, vR (some 36)), (3, vI r21)]) dX7_readCondition_151 (by decide) rfl ?_
              refine V_aload_n dX7_readCondition_153 rfl (xm 1 rfl) ?_
              refine V_getR dX7_readCondition_154 fl_X7_32 (sk_36 hS (by decide)) rfl ?_
              refine V_iload_n dX7_readCondition_157 rfl (xm 2 rfl) ?_
              refine V_iconst dX7_readCondition_158 ?_
              refine V_ixor dX7_readCondition_159 ?_
              refine xbE h (fun M28 h27 h => ?_)
              refine T_callVv dX7_readCondition_160 ok_X9_add (by exact ⟨by decide, rfl⟩) lk_X7_78.1 lk_X7_78.2 (sk_41 hS (by decide)) (hV := ((fX9_add_c (hS.le (by decide)) h27).mono (by omega) (Nat.le_refl _) (Nat.le_refl _))) rfl (Nat.le_of_ble_eq_true rfl) rfl (Nat.le_of_ble_eq_true rfl) ?_
              refine V_iload dX7_readCondition_163 (xm 0 rfl) ?_
              exact V_iretb (b := r25) dX7_readCondition_165 rfl rfl (q_wB h)
            refine V_icmp_eq (tgt := 137) dX7_readCondition_116 (by decide) h (fun _ h => ?_) (fun _ h => ?_)
            · refine V.pick [2, 0] rfl ?_
              exact kj22 () h
            · refine V_iload_n dX7_readCondition_119 rfl (xm 0 rfl) ?_
              refine V_bipush dX7_readCondition_120 (by decide) ?_
              refine V_icmp_eq (tgt := 137) dX7_readCondition_122 (by decide) h (fun _ h => ?_) (fun _ h => ?_)
              · refine V.pick [2, 0] rfl ?_
                exact kj22 () h
              · refine V_iload_n dX7_readCondition_125 rfl (xm 0 rfl) ?_
                refine V_bipush dX7_readCondition_126 (by decide) ?_
                refine V_icmp_eq (tgt := 137) dX7_readCondition_128 (by decide) h (fun _ h => ?_) (fun _ h => ?_)
                · refine V.pick [2, 0] rfl ?_
                  exact kj22 () h
                · refine V_aload_n dX7_readCondition_131 rfl (xm 2 rfl) ?_
                  refine V_iconst dX7_readCondition_132 ?_
                  refine xb2E h (fun r30 M31 h29 h => ?_)
                  refine T_callVI dX7_readCondition_133 ok_X7_fail (by exact ⟨by decide, rfl⟩) lk_X7_65.1 lk_X7_65.2 (sk_36 hS (by decide)) (hV := ((fX7_fail_c (hS.le (by decide)) h29).mono (by omega) (Nat.le_refl _) (Nat.le_refl _))) rfl (Nat.le_of_ble_eq_true rfl) rfl (Nat.le_of_ble_eq_true rfl) ?_
                  exact V_iretb (b := r30) dX7_readCondition_136 rfl rfl (q_wB h)
          · refine V_iconst dX7_readCondition_101 ?_
            exact V_iretb (b := false) dX7_readCondition_102 rfl (by decide) (q_wB h)
    · intro M v1 E h
      rw [fX7_readCondition_g] at h
      rw [if_neg (by decide)] at h
      show V Y_X7_readEither _ 0 0 0 [(0, vR (some 36)), (1, vI v1)] [] S M _
      refine V_iconst dX7_readEither_0 ?_
      refine V_istore_n (ls' := [(2, vI 0), (0, vR (some 36)), (1, vI v1)]) dX7_readEither_1 rfl (by decide) rfl ?_
      refine V_aload_n dX7_readEither_2 rfl (xm 1 rfl) ?_
      refine V_iload_n dX7_readEither_3 rfl (xm 2 rfl) ?_
      refine xb2E h (fun r102 M103 h101 h => ?_)
      refine T_callVI dX7_readEither_4 ok_X7_readCondition (by exact ⟨by decide, rfl⟩) lk_X7_82.1 lk_X7_82.2 (sk_36 hS (by decide)) (hV := (ih0 h101)) rfl (Nat.le_of_ble_eq_true rfl) rfl (Nat.le_of_ble_eq_true rfl) ?_
      refine V_istore_n (ls' := [(3, vI (b2i r102)), (2, vI 0), (0, vR (some 36)), (1, vI v1)]) dX7_readEither_7 rfl (by decide) rfl ?_
      refine V_iconst dX7_readEither_8 ?_
      refine V_istore (ls' := [(4, vI 0), (3, vI (b2i r102)), (2, vI 0), (0, vR (some 36)), (1, vI v1)]) dX7_readEither_9 (by decide) rfl ?_
      refine xb3E h (fun y118 y119 M120 h121 h => ?_)
      refine V.pick [3, 4, 2, 1, 0] rfl ?_
      refine fX7_readCondition_g_X7_readEither_L11_ci (hS.le (by decide)) (m := n + 3) (by omega) ih0 ih1 h121 ?_
      refine V_iload_n dX7_readEither_125 rfl (xm 1 rfl) ?_
      refine V_if_eq (tgt := 138) dX7_readEither_126 (by decide) h (fun _ h => ?_) (fun _ h => ?_)
      · refine V_iload_n dX7_readEither_138 rfl (xm 2 rfl) ?_
        exact T_iretb dX7_readEither_139 rfl h (fun b122 h => q_wB h)
      · refine V_aload_n dX7_readEither_129 rfl (xm 0 rfl) ?_
        refine V_getR dX7_readEither_130 fl_X7_32 (sk_36 hS (by decide)) rfl ?_
        refine V_bipush dX7_readEither_133 (by decide) ?_
        refine xbE h (fun M124 h123 h => ?_)
        refine T_callVv dX7_readEither_135 ok_X9_add (by exact ⟨by decide, rfl⟩) lk_X7_78.1 lk_X7_78.2 (sk_41 hS (by decide)) (hV := ((fX9_add_c (hS.le (by decide)) h123).mono (by omega) (Nat.le_refl _) (Nat.le_refl _))) rfl (Nat.le_of_ble_eq_true rfl) rfl (Nat.le_of_ble_eq_true rfl) ?_
        refine V_iload_n dX7_readEither_138 rfl (xm 2 rfl) ?_
        exact T_iretb dX7_readEither_139 rfl h (fun b125 h => q_wB h)
