def fX7_readLine (M : xM)  : Option (Bool × xM) := xrd M 38 401 (M 36 8) fun r1 => xj (fun (_ : Unit) => xb2 (fX7_expect M 7) fun r4 M5 => (if r4 = true then (xb2 (fX7_readSum M5) fun r7 M8 => (if r7 = true then (xrd M8 38 401 (M8 36 8) fun r9 => xj (fun (u10 : Int) (M11 : xM) => xb (fX9_add M11 (xxor u10 ((-1)))) fun M14 => xlet (xup M14 41 0 ((M14 41 0) + 1)) fun M15 => xb2 (fX7_expect M15 13) fun r17 M18 => some (r17, M18)) fun j12 => (if wr r9 = wr 8 then (xlet (xup M8 36 8 ((M8 36 8) + 1)) fun M19 => xb2 (fX7_readCondition_g 40 1 M19 0) fun r21 M22 => (if r21 = true then j12 8 M22 else some (false, M22))) else j12 13 M8)) else some (false, M8))) else some (false, M5))) fun j2 => (if wr r1 = wr 7 then (if wr (M 41 0) < wr 16 then j2 () else (xb2 (fX7_fail M 3) fun r24 M25 => some (r24, M25))) else j2 ())
set_option maxRecDepth 20000 in
set_option maxHeartbeats 1000000 in
theorem fX7_readLine_c {S : xS} {kp : Option Nat} (hS : xSk kp 43 S) {M : xM} {E : Bool × xM} (h : fX7_readLine M = some E) :
    V Y_X7_readLine 44 0 0 0 (xarg 0 [vR (some 36)]) [] S M (xqR S E.2 (some (vI (b2i E.1)))) := by
  unfold fX7_readLine at h
  show V Y_X7_readLine 44 0 0 0 [(0, vR (some 36))] [] S M _
  refine V_aload_n dX7_readLine_0 rfl (xm 0 rfl) ?_
  refine V_getR dX7_readLine_1 fl_X7_19 (sk_36 hS (by decide)) rfl ?_
  refine V_aload_n dX7_readLine_4 rfl (xm 0 rfl) ?_
  refine V_getI (kI := 8) dX7_readLine_5 fl_X7_51 (sk_36 hS (by decide)) rfl rfl ?_
  refine T_iald dX7_readLine_8 (sk_38 hS (by decide)) rfl h (fun r1 h => ?_)
  refine V_bipush dX7_readLine_9 (by decide) ?_
  refine xjE h (fun j2 hj2 h => ?_)
  have kj2 : ∀ (u : Unit), j2 u = some E → V Y_X7_readLine 44 0 0 32 [(0, vR (some 36))] [] S M (xqR S E.2 (some (vI (b2i E.1)))) := by
    intro u h
    rw [hj2] at h
    refine V_aload_n dX7_readLine_32 rfl (xm 0 rfl) ?_
    refine V_bipush dX7_readLine_33 (by decide) ?_
    refine xb2E h (fun r4 M5 h3 h => ?_)
    refine T_callVI dX7_readLine_35 ok_X7_expect (by exact ⟨by decide, rfl⟩) lk_X7_69.1 lk_X7_69.2 (sk_36 hS (by decide)) (hV := ((fX7_expect_c (hS.le (by decide)) h3).mono (by decide) (Nat.le_refl _) (Nat.le_refl _))) rfl (Nat.le_of_ble_eq_true rfl) rfl (Nat.le_of_ble_eq_true rfl) ?_
    refine V_if_eqB (tgt := 48) dX7_readLine_38 (by decide) h (fun _ h => ?_) (fun _ h => ?_)
    · refine V_aload_n dX7_readLine_41 rfl (xm 0 rfl) ?_
      refine xb2E h (fun r7 M8 h6 h => ?_)
      refine T_callVI dX7_readLine_42 ok_X7_readSum (by exact ⟨by decide, rfl⟩) lk_X7_72.1 lk_X7_72.2 (sk_36 hS (by decide)) (hV := ((fX7_readSum_c (hS.le (by decide)) h6).mono (by decide) (Nat.le_refl _) (Nat.le_refl _))) rfl (Nat.le_of_ble_eq_true rfl) rfl (Nat.le_of_ble_eq_true rfl) ?_
      refine V_if_neB (tgt := 50) dX7_readLine_45 (by decide) h (fun _ h => ?_) (fun _ h => ?_)
      · refine V_bipush dX7_readLine_50 (by decide) ?_
        refine V_istore_n (ls' := [(1, vI 13), (0, vR (some 36))]) dX7_readLine_52 rfl (by decide) rfl ?_
        refine V_aload_n dX7_readLine_53 rfl (xm 1 rfl) ?_
        refine V_getR dX7_readLine_54 fl_X7_19 (sk_36 hS (by decide)) rfl ?_
        refine V_aload_n dX7_readLine_57 rfl (xm 1 rfl) ?_
        refine V_getI (kI := 8) dX7_readLine_58 fl_X7_51 (sk_36 hS (by decide)) rfl rfl ?_
        refine T_iald dX7_readLine_61 (sk_38 hS (by decide)) rfl h (fun r9 h => ?_)
        refine V_bipush dX7_readLine_62 (by decide) ?_
        refine xjE h (fun j12 hj12 h => ?_)
        have kj12 : ∀ (u10 : Int) (M11 : xM), j12 u10 M11 = some E → V Y_X7_readLine 44 0 0 90 [(0, vR (some 36)), (1, vI u10)] [] S M11 (xqR S E.2 (some (vI (b2i E.1)))) := by
          intro u10 M11 h
          rw [hj12] at h
          refine V_aload_n dX7_readLine_90 rfl (xm 0 rfl) ?_
          refine V_getR dX7_readLine_91 fl_X7_32 (sk_36 hS (by decide)) rfl ?_
          refine V_iload_n dX7_readLine_94 rfl (xm 1 rfl) ?_
          refine V_iconst dX7_readLine_95 ?_
          refine V_ixor dX7_readLine_96 ?_
          refine xbE h (fun M14 h13 h => ?_)
          refine T_callVv dX7_readLine_97 ok_X9_add (by exact ⟨by decide, rfl⟩) lk_X7_78.1 lk_X7_78.2 (sk_41 hS (by decide)) (hV := ((fX9_add_c (hS.le (by decide)) h13).mono (by decide) (Nat.le_refl _) (Nat.le_refl _))) rfl (Nat.le_of_ble_eq_true rfl) rfl (Nat.le_of_ble_eq_true rfl) ?_
          refine V_aload_n dX7_readLine_100 rfl (xm 0 rfl) ?_
          refine V_getR dX7_readLine_101 fl_X7_32 (sk_36 hS (by decide)) rfl ?_
          refine V_dup dX7_readLine_104 rfl ?_
          refine V_getI (kI := 0) dX7_readLine_105 fl_X7_62 (sk_41 hS (by decide)) rfl rfl ?_
          refine V_iconst dX7_readLine_108 ?_
          refine V_iadd dX7_readLine_109 ?_
          refine T_putI (kI := 0) dX7_readLine_110 fp_X7_62 (sk_41 hS (by decide)) rfl rfl h (fun M15 h => ?_)
          refine V_aload_n dX7_readLine_113 rfl (xm 0 rfl) ?_
          refine V_bipush dX7_readLine_114 (by decide) ?_
          refine xb2E h (fun r17 M18 h16 h => ?_)
          refine T_callVI dX7_readLine_116 ok_X7_expect (by exact ⟨by decide, rfl⟩) lk_X7_69.1 lk_X7_69.2 (sk_36 hS (by decide)) (hV := ((fX7_expect_c (hS.le (by decide)) h16).mono (by decide) (Nat.le_refl _) (Nat.le_refl _))) rfl (Nat.le_of_ble_eq_true rfl) rfl (Nat.le_of_ble_eq_true rfl) ?_
          exact V_iretb (b := r17) dX7_readLine_119 rfl rfl (q_wB h)
        refine V_icmp_ne (tgt := 90) dX7_readLine_64 (by decide) h (fun _ h => ?_) (fun _ h => ?_)
        · refine V_bipush dX7_readLine_67 (by decide) ?_
          refine V_istore_n (ls' := [(1, vI 8), (0, vR (some 36))]) dX7_readLine_69 rfl (by decide) rfl ?_
          refine V_aload_n dX7_readLine_70 rfl (xm 1 rfl) ?_
          refine V_dup dX7_readLine_71 rfl ?_
          refine V_getI (kI := 8) dX7_readLine_72 fl_X7_51 (sk_36 hS (by decide)) rfl rfl ?_
          refine V_iconst dX7_readLine_75 ?_
          refine V_iadd dX7_readLine_76 ?_
          refine T_putI (kI := 8) dX7_readLine_77 fp_X7_51 (sk_36 hS (by decide)) rfl rfl h (fun M19 h => ?_)
          refine V_aload_n dX7_readLine_80 rfl (xm 1 rfl) ?_
          refine V_iconst dX7_readLine_81 ?_
          refine xb2E h (fun r21 M22 h20 h => ?_)
          refine T_callVI dX7_readLine_82 ok_X7_readEither (by exact ⟨by decide, rfl⟩) lk_X7_75.1 lk_X7_75.2 (sk_36 hS (by decide)) (hV := (((fX7_readCondition_g_c (hS.le (by decide)) 40).2 h20).mono (by decide) (Nat.le_refl _) (Nat.le_refl _))) rfl (Nat.le_of_ble_eq_true rfl) rfl (Nat.le_of_ble_eq_true rfl) ?_
          refine V_if_neB (tgt := 90) dX7_readLine_85 (by decide) h (fun _ h => ?_) (fun _ h => ?_)
          · refine V.pick [1, 0] rfl ?_
            exact kj12 8 M22 h
          · refine V_iconst dX7_readLine_88 ?_
            exact V_iretb (b := false) dX7_readLine_89 rfl (by decide) (q_wB h)
        · refine V.pick [1, 0] rfl ?_
          exact kj12 13 M8 h
      · refine V_iconst dX7_readLine_48 ?_
        exact V_iretb (b := false) dX7_readLine_49 rfl (by decide) (q_wB h)
    · refine V_iconst dX7_readLine_48 ?_
      exact V_iretb (b := false) dX7_readLine_49 rfl (by decide) (q_wB h)
  refine V_icmp_ne (tgt := 32) dX7_readLine_11 (by decide) h (fun _ h => ?_) (fun _ h => ?_)
  · refine V_aload_n dX7_readLine_14 rfl (xm 0 rfl) ?_
    refine V_getR dX7_readLine_15 fl_X7_32 (sk_36 hS (by decide)) rfl ?_
    refine V_getI (kI := 0) dX7_readLine_18 fl_X7_62 (sk_41 hS (by decide)) rfl rfl ?_
    refine V_bipush dX7_readLine_21 (by decide) ?_
    refine V_icmp_lt (tgt := 32) dX7_readLine_23 (by decide) h (fun _ h => ?_) (fun _ h => ?_)
    · refine V.pick [0] rfl ?_
      exact kj2 () h
    · refine V_aload_n dX7_readLine_26 rfl (xm 0 rfl) ?_
      refine V_iconst dX7_readLine_27 ?_
      refine xb2E h (fun r24 M25 h23 h => ?_)
      refine T_callVI dX7_readLine_28 ok_X7_fail (by exact ⟨by decide, rfl⟩) lk_X7_65.1 lk_X7_65.2 (sk_36 hS (by decide)) (hV := ((fX7_fail_c (hS.le (by decide)) h23).mono (by decide) (Nat.le_refl _) (Nat.le_refl _))) rfl (Nat.le_of_ble_eq_true rfl) rfl (Nat.le_of_ble_eq_true rfl) ?_
      exact V_iretb (b := r24) dX7_readLine_31 rfl rfl (q_wB h)
  · refine V.pick [0] rfl ?_
    exact kj2 () h
def fX7_readInto_L22 (n : Nat) (M : xM) (o1 : Nat) (v2 : Int) : Option (xM) := match n with
  | 0 => none
  | n + 1 => (if wr v2 < wr 400 then (xrd M 38 401 (M 36 8) fun r8 => (if wr r8 = wr 23 then some M else (if wr (M 36 1) = 0 then (xb2 (fX7_readLine M) fun r10 M11 => fX7_readInto_L22 n M11 o1 (v2 + 1)) else some M))) else some M)
set_option maxRecDepth 20000 in
set_option maxHeartbeats 1000000 in
theorem fX7_readInto_L22_c {S : xS} {kp : Option Nat} (hS : xSk kp 43 S) {Q : Option xV → xS → xM → Prop} :
    ∀ (n : Nat) (M : xM) (o1 : Nat) (v2 : Int) {Mz : xM}, S[o1]? = some (9, 4, [none, none, none, some (some (o1 + 1))]) → S[o1 + 1]? = some (100, 400, []) → fX7_readInto_L22 n M o1 v2 = some Mz → V Y_X7_readInto 45 0 0 61 [(0, vR (some 36)), (1, vR (some o1))] [] S Mz Q → V Y_X7_readInto 45 0 0 22 [(0, vR (some 36)), (1, vR (some o1)), (2, vI v2)] [] S M Q := by
  intro n
  induction n with
  | zero =>
    intro M o1 v2 Mz hw1 hc1 h k
    cases h
  | succ n ih =>
    intro M o1 v2 Mz hw1 hc1 h k
    rw [fX7_readInto_L22] at h
    refine V_iload_n dX7_readInto_22 rfl (xm 2 rfl) ?_
    refine V_sipush dX7_readInto_23 (by decide) ?_
    refine V_icmp_ge (tgt := 61) dX7_readInto_26 (by decide) h (fun _ h => ?_) (fun _ h => ?_)
    · refine V_aload_n dX7_readInto_29 rfl (xm 0 rfl) ?_
      refine V_getR dX7_readInto_30 fl_X7_19 (sk_36 hS (by decide)) rfl ?_
      refine V_aload_n dX7_readInto_33 rfl (xm 0 rfl) ?_
      refine V_getI (kI := 8) dX7_readInto_34 fl_X7_51 (sk_36 hS (by decide)) rfl rfl ?_
      refine T_iald dX7_readInto_37 (sk_38 hS (by decide)) rfl h (fun r8 h => ?_)
      refine V_bipush dX7_readInto_38 (by decide) ?_
      refine V_icmp_eq (tgt := 61) dX7_readInto_40 (by decide) h (fun _ h => ?_) (fun _ h => ?_)
      · cases h
        refine V.pick [0, 1] rfl ?_
        exact k
      · refine V_aload_n dX7_readInto_43 rfl (xm 0 rfl) ?_
        refine V_getI (kI := 1) dX7_readInto_44 fl_X7_39 (sk_36 hS (by decide)) rfl rfl ?_
        refine V_if_ne (tgt := 61) dX7_readInto_47 (by decide) h (fun _ h => ?_) (fun _ h => ?_)
        · refine V_aload_n dX7_readInto_50 rfl (xm 0 rfl) ?_
          refine xb2E h (fun r10 M11 h9 h => ?_)
          refine T_callVI dX7_readInto_51 ok_X7_readLine (by exact ⟨by decide, rfl⟩) lk_X7_54.1 lk_X7_54.2 (sk_36 hS (by decide)) (hV := ((fX7_readLine_c (hS.le (by decide)) h9).mono (by decide) (Nat.le_refl _) (Nat.le_refl _))) rfl (Nat.le_of_ble_eq_true rfl) rfl (Nat.le_of_ble_eq_true rfl) ?_
          refine V_pop dX7_readInto_54 rfl ?_
          refine V_iinc (ls' := [(2, vI (v2 + 1)), (0, vR (some 36)), (1, vR (some o1))]) dX7_readInto_55 (xm 2 rfl) (by decide) rfl ?_
          refine V_goto (tgt := 22) dX7_readInto_58 (by decide) ?_
          refine V.pick [1, 2, 0] rfl ?_
          exact ih M11 o1 (v2 + 1) hw1 hc1 h k
        · cases h
          refine V.pick [0, 1] rfl ?_
          exact k
    · cases h
      refine V.pick [0, 1] rfl ?_
      exact k
theorem fX7_readInto_L22_ci {S : xS} {kp : Option Nat} (hS : xSk kp 43 S) {Q : Option xV → xS → xM → Prop} {n : Nat} {M : xM} {o1 : Nat} {v2 : Int} {Mz : xM} (hw1 : S[o1]? = some (9, 4, [none, none, none, some (some (o1 + 1))])) (hc1 : S[o1 + 1]? = some (100, 400, [])) (hl : fX7_readInto_L22 n M o1 v2 = some Mz) (k : V Y_X7_readInto 45 0 0 61 [(0, vR (some 36)), (1, vR (some o1))] [] S Mz Q) : V Y_X7_readInto 45 0 0 22 [(0, vR (some 36)), (1, vR (some o1)), (2, vI v2)] [] S M Q := fX7_readInto_L22_c hS _ _ _ _ hw1 hc1 hl k
def fX9_copyFrom (M : xM) (o0 : Nat) : Option xM := xlet (xup M o0 0 (M 41 0)) fun M1 => xlet (xup M1 o0 1 (M1 41 1)) fun M2 => xbl (M2 41 2) fun b4 => xlet (xup M2 o0 2 (b2i b4)) fun M3 => xcp M3 42 400 0 (o0 + 1) 400 0 (M3 o0 1) fun M5 => some M5
set_option maxRecDepth 20000 in
set_option maxHeartbeats 1000000 in
theorem fX9_copyFrom_c {S : xS} {kp : Option Nat} (hS : xSk kp 43 S) {M : xM} {o0 : Nat} (hw0 : S[o0]? = some (9, 4, [none, none, none, some (some (o0 + 1))])) (hc0 : S[o0 + 1]? = some (100, 400, [])) {E : xM} (h : fX9_copyFrom M o0 = some E) :
    V Y_X9_copyFrom 1 0 0 0 (xarg 0 [vR (some o0), vR (some 41)]) [] S M (xqR S E none) := by
  unfold fX9_copyFrom at h
  show V Y_X9_copyFrom 1 0 0 0 [(0, vR (some o0)), (1, vR (some 41))] [] S M _
  refine V_aload_n dX9_copyFrom_0 rfl (xm 0 rfl) ?_
  refine V_aload_n dX9_copyFrom_1 rfl (xm 1 rfl) ?_
  refine V_getI (kI := 0) dX9_copyFrom_2 fl_X9_15 (sk_41 hS (by decide)) rfl rfl ?_
  refine T_putI (kI := 0) dX9_copyFrom_5 fp_X9_15 hw0 rfl rfl h (fun M1 h => ?_)
  refine V_aload_n dX9_copyFrom_8 rfl (xm 0 rfl) ?_
  refine V_aload_n dX9_copyFrom_9 rfl (xm 1 rfl) ?_
  refine V_getI (kI := 1) dX9_copyFrom_10 fl_X9_19 (sk_41 hS (by decide)) rfl rfl ?_
  refine T_putI (kI := 1) dX9_copyFrom_13 fp_X9_19 hw0 rfl rfl h (fun M2 h => ?_)
  refine V_aload_n dX9_copyFrom_16 rfl (xm 0 rfl) ?_
  refine V_aload_n dX9_copyFrom_17 rfl (xm 1 rfl) ?_
  refine V_getI (kI := 2) dX9_copyFrom_18 fl_X9_22 (sk_41 hS (by decide)) rfl rfl ?_
  refine T_putZx (kI := 2) dX9_copyFrom_21 fp_X9_22 hw0 rfl rfl h (fun M3 h => ?_)
  refine V_aload_n dX9_copyFrom_24 rfl (xm 1 rfl) ?_
  refine V_getR dX9_copyFrom_25 fl_X9_9 (sk_41 hS (by decide)) rfl ?_
  refine V_iconst dX9_copyFrom_28 ?_
  refine V_aload_n dX9_copyFrom_29 rfl (xm 0 rfl) ?_
  refine V_getR dX9_copyFrom_30 fl_X9_9 hw0 rfl ?_
  refine V_iconst dX9_copyFrom_33 ?_
  refine V_aload_n dX9_copyFrom_34 rfl (xm 0 rfl) ?_
  refine V_getI (kI := 1) dX9_copyFrom_35 fl_X9_19 hw0 rfl rfl ?_
  refine T_copy dX9_copyFrom_38 cp_X9_26 (sk_42 hS (by decide)) hc0 rfl rfl (by decide) (Nat.le_of_ble_eq_true rfl) h (fun M5 h => ?_)
  exact V_ret dX9_copyFrom_41 rfl (q_v h)
def fX7_readInto (M : xM) (o1 : Nat) : Option (Int × xM) := xb (fX7_splitTokens M) fun M2 => xb (fX7_leaveUnread M2) fun M4 => xb (fX9_clear_i2 M4) fun M6 => xlet (xup M6 36 8 0) fun M7 => xb (fX7_readInto_L22 xfuel M7 o1 0) fun M12 => (if wr (M12 36 1) = 0 then (xb (fX9_copyFrom M12 o1) fun M15 => some (M15 o1 0, M15)) else some ((-1), M12))
set_option maxRecDepth 20000 in
set_option maxHeartbeats 1000000 in
theorem fX7_readInto_c {S : xS} {kp : Option Nat} (hS : xSk kp 43 S) {M : xM} {o1 : Nat} (hw1 : S[o1]? = some (9, 4, [none, none, none, some (some (o1 + 1))])) (hc1 : S[o1 + 1]? = some (100, 400, [])) {E : Int × xM} (h : fX7_readInto M o1 = some E) :
    V Y_X7_readInto 45 0 0 0 (xarg 0 [vR (some 36), vR (some o1)]) [] S M (xqR S E.2 (some (vI E.1))) := by
  unfold fX7_readInto at h
  show V Y_X7_readInto 45 0 0 0 [(0, vR (some 36)), (1, vR (some o1))] [] S M _
  refine V_aload_n dX7_readInto_0 rfl (xm 0 rfl) ?_
  refine xbE h (fun M2 h1 h => ?_)
  refine T_callVv dX7_readInto_1 ok_X7_splitTokens (by exact ⟨by decide, rfl⟩) lk_X7_42.1 lk_X7_42.2 (sk_36 hS (by decide)) (hV := ((fX7_splitTokens_c (hS.le (by decide)) h1).mono (by decide) (Nat.le_refl _) (Nat.le_refl _))) rfl (Nat.le_of_ble_eq_true rfl) rfl (Nat.le_of_ble_eq_true rfl) ?_
  refine V_aload_n dX7_readInto_4 rfl (xm 0 rfl) ?_
  refine xbE h (fun M4 h3 h => ?_)
  refine T_callVv dX7_readInto_5 ok_X7_leaveUnread (by exact ⟨by decide, rfl⟩) lk_X7_45.1 lk_X7_45.2 (sk_36 hS (by decide)) (hV := ((fX7_leaveUnread_c (hS.le (by decide)) h3).mono (by decide) (Nat.le_refl _) (Nat.le_refl _))) rfl (Nat.le_of_ble_eq_true rfl) rfl (Nat.le_of_ble_eq_true rfl) ?_
  refine V_aload_n dX7_readInto_8 rfl (xm 0 rfl) ?_
  refine V_getR dX7_readInto_9 fl_X7_32 (sk_36 hS (by decide)) rfl ?_
  refine xbE h (fun M6 h5 h => ?_)
  refine T_callVv dX7_readInto_12 ok_X9_clear (by exact ⟨by decide, rfl⟩) lk_X7_48.1 lk_X7_48.2 (sk_41 hS (by decide)) (hV := ((fX9_clear_i2_c (hS.le (by decide)) h5).mono (by decide) (Nat.le_refl _) (Nat.le_refl _))) rfl (Nat.le_of_ble_eq_true rfl) rfl (Nat.le_of_ble_eq_true rfl) ?_
  refine V_aload_n dX7_readInto_15 rfl (xm 0 rfl) ?_
  refine V_iconst dX7_readInto_16 ?_
  refine T_putI (kI := 8) dX7_readInto_17 fp_X7_51 (sk_36 hS (by decide)) rfl rfl h (fun M7 h => ?_)
  refine V_iconst dX7_readInto_20 ?_
  refine V_istore_n (ls' := [(2, vI 0), (0, vR (some 36)), (1, vR (some o1))]) dX7_readInto_21 rfl (by decide) rfl ?_
  refine xbE h (fun M12 h13 h => ?_)
  refine V.pick [1, 2, 0] rfl ?_
  refine fX7_readInto_L22_ci (hS.le (by decide)) hw1 hc1 h13 ?_
  refine V_aload_n dX7_readInto_61 rfl (xm 0 rfl) ?_
  refine V_getI (kI := 1) dX7_readInto_62 fl_X7_39 (sk_36 hS (by decide)) rfl rfl ?_
  refine V_if_eq (tgt := 70) dX7_readInto_65 (by decide) h (fun _ h => ?_) (fun _ h => ?_)
  · refine V_aload_n dX7_readInto_70 rfl (xm 1 rfl) ?_
    refine V_aload_n dX7_readInto_71 rfl (xm 0 rfl) ?_
    refine V_getR dX7_readInto_72 fl_X7_32 (sk_36 hS (by decide)) rfl ?_
    refine xbE h (fun M15 h14 h => ?_)
    refine T_callVv dX7_readInto_75 ok_X9_copyFrom (by exact ⟨by decide, rfl⟩) lk_X7_58.1 lk_X7_58.2 hw1 (hV := ((fX9_copyFrom_c (hS.le (by decide)) hw1 hc1 h14).mono (by decide) (Nat.le_refl _) (Nat.le_refl _))) rfl (Nat.le_of_ble_eq_true rfl) rfl (Nat.le_of_ble_eq_true rfl) ?_
    refine V_aload_n dX7_readInto_78 rfl (xm 1 rfl) ?_
    refine V_getI (kI := 0) dX7_readInto_79 fl_X7_62 hw1 rfl rfl ?_
    exact V_ireti dX7_readInto_82 rfl (q_wI h)
  · refine V_iconst dX7_readInto_68 ?_
    exact V_ireti dX7_readInto_69 rfl (q_wI h)
def fX11_text (M : xM) (v1 : Int) : Option (Int × xM) := (if (fX11_within v1 0 3) = true then (xix 4 v1 (xb2 (fX7_readInto M (28 + 2 * (wr v1).toNat)) fun r3 M4 => (if wr r3 = wr ((-1)) then some (r3, M4) else (xb (fX10_forget M4) fun M6 => some (r3, M6))))) else (xb (fX7_leaveUnread M) fun M8 => some ((-1), M8)))
set_option maxRecDepth 20000 in
set_option maxHeartbeats 1000000 in
theorem fX11_text_c {S : xS} {kp : Option Nat} (hS : xSk kp 94 S) {M : xM} {v1 : Int} {E : Int × xM} (h : fX11_text M v1 = some E) :
    V Y_X11_text 46 0 0 0 (xarg 0 [vR (some 0), vI v1]) [] S M (xqR S E.2 (some (vI E.1))) := by
  unfold fX11_text at h
  show V Y_X11_text 46 0 0 0 [(0, vR (some 0)), (1, vI v1)] [] S M _
  refine V_iload_n dX11_text_0 rfl (xm 1 rfl) ?_
  refine V_iconst dX11_text_1 ?_
  refine V_iconst dX11_text_2 ?_
  refine T_callSI (host := "") dX11_text_3 ok_X11_within lk_X11_60.1 lk_X11_60.2 (hV := ((fX11_within_c (hS.le (by decide)) rfl).mono (by decide) (Nat.le_refl _) (Nat.le_refl _))) rfl (Nat.le_of_ble_eq_true rfl) rfl (Nat.le_of_ble_eq_true rfl) ?_
  refine V_if_neB (tgt := 18) dX11_text_6 (by decide) h (fun _ h => ?_) (fun _ h => ?_)
  · refine V_aload_n dX11_text_18 rfl (xm 0 rfl) ?_
    refine V_getR dX11_text_19 fl_X11_23 (sk_0 hS (by decide)) rfl ?_
    refine V_aload_n dX11_text_22 rfl (xm 0 rfl) ?_
    refine V_getR dX11_text_23 fl_X11_12 (sk_0 hS (by decide)) rfl ?_
    refine V_getR dX11_text_26 fl_X11_131 (sk_1 hS (by decide)) rfl ?_
    refine V_iload_n dX11_text_29 rfl (xm 1 rfl) ?_
    obtain ⟨c1, h⟩ := xixE h
    refine V_aald (r := 28 + 2 * (wr v1).toNat) dX11_text_30 (sk_27 hS (by decide)) (by decide) c1 (rw_27 c1) ?_
    refine xb2E h (fun r3 M4 h2 h => ?_)
    refine T_callVI dX11_text_31 ok_X7_readInto (by exact ⟨by decide, rfl⟩) lk_X11_135.1 lk_X11_135.2 (sk_36 hS (by decide)) (hV := ((fX7_readInto_c (hS.le (by decide)) (rs_27 hS (by decide) c1) (rc_27 hS (by decide) c1) h2).mono (by decide) (Nat.le_refl _) (Nat.le_refl _))) rfl (Nat.le_of_ble_eq_true rfl) rfl (Nat.le_of_ble_eq_true rfl) ?_
    refine V_istore_n (ls' := [(2, vI r3), (0, vR (some 0)), (1, vI v1)]) dX11_text_34 rfl (by decide) rfl ?_
    refine V_iload_n dX11_text_35 rfl (xm 0 rfl) ?_
    refine V_iconst dX11_text_36 ?_
    refine V_icmp_eq (tgt := 47) dX11_text_37 (by decide) h (fun _ h => ?_) (fun _ h => ?_)
    · refine V_iload_n dX11_text_47 rfl (xm 0 rfl) ?_
      exact V_ireti dX11_text_48 rfl (q_wI h)
    · refine V_aload_n dX11_text_40 rfl (xm 1 rfl) ?_
      refine V_getR dX11_text_41 fl_X11_30 (sk_0 hS (by decide)) rfl ?_
      refine xbE h (fun M6 h5 h => ?_)
      refine T_callVv dX11_text_44 ok_X10_forget (by exact ⟨by decide, rfl⟩) lk_X11_64.1 lk_X11_64.2 (sk_43 hS (by decide)) (hV := ((fX10_forget_c (hS.le (by decide)) h5).mono (by decide) (Nat.le_refl _) (Nat.le_refl _))) rfl (Nat.le_of_ble_eq_true rfl) rfl (Nat.le_of_ble_eq_true rfl) ?_
      refine V_iload_n dX11_text_47 rfl (xm 0 rfl) ?_
      exact V_ireti dX11_text_48 rfl (q_wI h)
  · refine V_aload_n dX11_text_9 rfl (xm 0 rfl) ?_
    refine V_getR dX11_text_10 fl_X11_23 (sk_0 hS (by decide)) rfl ?_
    refine xbE h (fun M8 h7 h => ?_)
    refine T_callVv dX11_text_13 ok_X7_leaveUnread (by exact ⟨by decide, rfl⟩) lk_X11_128.1 lk_X11_128.2 (sk_36 hS (by decide)) (hV := ((fX7_leaveUnread_c (hS.le (by decide)) h7).mono (by decide) (Nat.le_refl _) (Nat.le_refl _))) rfl (Nat.le_of_ble_eq_true rfl) rfl (Nat.le_of_ble_eq_true rfl) ?_
    refine V_iconst dX11_text_16 ?_
    exact V_ireti dX11_text_17 rfl (q_wI h)
def fX11_fault (M : xM) (v1 : Int) : Int := (if wr v1 = 0 then M 36 1 else (if wr v1 = wr 1 then M 36 2 else (-1)))
set_option maxRecDepth 20000 in
set_option maxHeartbeats 1000000 in
theorem fX11_fault_c {S : xS} {kp : Option Nat} (hS : xSk kp 94 S) {M : xM} {v1 : Int} {E : Int} (h : fX11_fault M v1 = E) :
    V Y_X11_fault 0 0 0 0 (xarg 0 [vR (some 0), vI v1]) [] S M (xqR S M (some (vI E))) := by
  unfold fX11_fault at h
  show V Y_X11_fault 0 0 0 0 [(0, vR (some 0)), (1, vI v1)] [] S M _
  refine V_iload_n dX11_fault_0 rfl (xm 1 rfl) ?_
  refine V_if_ne (tgt := 12) dX11_fault_1 (by decide) h (fun _ h => ?_) (fun _ h => ?_)
  · refine V_aload_n dX11_fault_4 rfl (xm 0 rfl) ?_
    refine V_getR dX11_fault_5 fl_X11_23 (sk_0 hS (by decide)) rfl ?_
    refine V_getI (kI := 1) dX11_fault_8 fl_X11_139 (sk_36 hS (by decide)) rfl rfl ?_
    exact V_ireti dX11_fault_11 rfl (q_tI h)
  · refine V_iload_n dX11_fault_12 rfl (xm 1 rfl) ?_
    refine V_iconst dX11_fault_13 ?_
    refine V_icmp_ne (tgt := 27) dX11_fault_14 (by decide) h (fun _ h => ?_) (fun _ h => ?_)
    · refine V_aload_n dX11_fault_17 rfl (xm 0 rfl) ?_
      refine V_getR dX11_fault_18 fl_X11_23 (sk_0 hS (by decide)) rfl ?_
      refine V_getI (kI := 2) dX11_fault_21 fl_X11_142 (sk_36 hS (by decide)) rfl rfl ?_
      refine V_goto (tgt := 28) dX11_fault_24 (by decide) ?_
      exact V_ireti dX11_fault_28 rfl (q_tI h)
    · refine V_iconst dX11_fault_27 ?_
      exact V_ireti dX11_fault_28 rfl (q_tI h)
def fX4_has (M : xM) (v1 : Int) : Bool := (fX11_within v1 0 ((M 5 0) - 1))
set_option maxRecDepth 20000 in
set_option maxHeartbeats 1000000 in
theorem fX4_has_c {S : xS} {kp : Option Nat} (hS : xSk kp 6 S) {M : xM} {v1 : Int} {E : Bool} (h : fX4_has M v1 = E) :
    V Y_X4_has 1 0 0 0 (xarg 0 [vR (some 5), vI v1]) [] S M (xqR S M (some (vI (b2i E)))) := by
  unfold fX4_has at h
  show V Y_X4_has 1 0 0 0 [(0, vR (some 5)), (1, vI v1)] [] S M _
  refine V_iload_n dX4_has_0 rfl (xm 1 rfl) ?_
  refine V_iconst dX4_has_1 ?_
  refine V_aload_n dX4_has_2 rfl (xm 0 rfl) ?_
  refine V_getI (kI := 0) dX4_has_3 fl_X4_30 (sk_5 hS (by decide)) rfl rfl ?_
  refine V_iconst dX4_has_6 ?_
  refine V_isub dX4_has_7 ?_
  refine T_callSNI (host := "TurnedIsland") dX4_has_8 ok_X11_within lk_X4_40.1 lk_X4_40.2 (hV := ((fX11_within_c (hS.le (by decide)) rfl).mono (by decide) (Nat.le_refl _) (Nat.le_refl _))) rfl (Nat.le_of_ble_eq_true rfl) rfl (Nat.le_of_ble_eq_true rfl) ?_
  exact V_iretb (b := (fX11_within v1 0 ((M 5 0) - 1))) dX4_has_11 rfl rfl (q_tB h)
def fX11_isTurn (v0 : Int) : Bool := (fX11_within v0 ((-1)) 1)
set_option maxRecDepth 20000 in
set_option maxHeartbeats 1000000 in
theorem fX11_isTurn_c {S : xS} {kp : Option Nat} (hS : xSk kp 0 S) {M : xM} {v0 : Int} {E : Bool} (h : fX11_isTurn v0 = E) :
    V Y_X11_isTurn 1 0 0 0 (xarg 0 [vI v0]) [] S M (xqR S M (some (vI (b2i E)))) := by
  unfold fX11_isTurn at h
  show V Y_X11_isTurn 1 0 0 0 [(0, vI v0)] [] S M _
  refine V_iload_n dX11_isTurn_0 rfl (xm 0 rfl) ?_
  refine V_iconst dX11_isTurn_1 ?_
  refine V_iconst dX11_isTurn_2 ?_
  refine T_callSI (host := "") dX11_isTurn_3 ok_X11_within lk_X11_60.1 lk_X11_60.2 (hV := ((fX11_within_c (hS.le (by decide)) rfl).mono (by decide) (Nat.le_refl _) (Nat.le_refl _))) rfl (Nat.le_of_ble_eq_true rfl) rfl (Nat.le_of_ble_eq_true rfl) ?_
  exact V_iretb (b := (fX11_within v0 ((-1)) 1)) dX11_isTurn_6 rfl rfl (q_tB h)
def fJ9_floorMod_7cf53 (v0 : Int) (v1 : Int) : Option Int := xnz v1 ((if wr (xxor v0 v1) < 0 then (if wr (xrem v0 v1) = 0 then some (xrem v0 v1) else some ((xrem v0 v1) + v1)) else some (xrem v0 v1)))
set_option maxRecDepth 20000 in
set_option maxHeartbeats 1000000 in
theorem fJ9_floorMod_7cf53_c {S : xS} {kp : Option Nat} (hS : xSk kp 0 S) {M : xM} {v0 : Int} {v1 : Int} {E : Int} (h : fJ9_floorMod_7cf53 v0 v1 = some E) :
    V Y_J9_floorMod_7cf53 0 0 0 0 (xarg 0 [vI v0, vI v1]) [] S M (xqR S M (some (vI E))) := by
  unfold fJ9_floorMod_7cf53 at h
  show V Y_J9_floorMod_7cf53 0 0 0 0 [(0, vI v0), (1, vI v1)] [] S M _
  refine V_iload_n dJ9_floorMod_7cf53_0 rfl (xm 0 rfl) ?_
  refine V_iload_n dJ9_floorMod_7cf53_1 rfl (xm 1 rfl) ?_
  refine T_irem dJ9_floorMod_7cf53_2 h (fun h => ?_)
  refine V_istore_n (ls' := [(2, vI (xrem v0 v1)), (0, vI v0), (1, vI v1)]) dJ9_floorMod_7cf53_3 rfl (by decide) rfl ?_
  refine V_iload_n dJ9_floorMod_7cf53_4 rfl (xm 1 rfl) ?_
  refine V_iload_n dJ9_floorMod_7cf53_5 rfl (xm 2 rfl) ?_
  refine V_ixor dJ9_floorMod_7cf53_6 ?_
  refine V_if_ge (tgt := 18) dJ9_floorMod_7cf53_7 (by decide) h (fun _ h => ?_) (fun _ h => ?_)
  · refine V_iload_n dJ9_floorMod_7cf53_10 rfl (xm 0 rfl) ?_
    refine V_if_eq (tgt := 18) dJ9_floorMod_7cf53_11 (by decide) h (fun _ h => ?_) (fun _ h => ?_)
    · refine V_iload_n dJ9_floorMod_7cf53_18 rfl (xm 0 rfl) ?_
      exact V_ireti dJ9_floorMod_7cf53_19 rfl (q_pI h)
    · refine V_iload_n dJ9_floorMod_7cf53_14 rfl (xm 0 rfl) ?_
      refine V_iload_n dJ9_floorMod_7cf53_15 rfl (xm 2 rfl) ?_
      refine V_iadd dJ9_floorMod_7cf53_16 ?_
      exact V_ireti dJ9_floorMod_7cf53_17 rfl (q_pI h)
  · refine V_iload_n dJ9_floorMod_7cf53_18 rfl (xm 0 rfl) ?_
    exact V_ireti dJ9_floorMod_7cf53_19 rfl (q_pI h)
def fX11_wrap (v0 : Int) (v1 : Int) : Option Int := (if 0 < wr v1 then (xb (fJ9_floorMod_7cf53 v0 v1) fun r2 => some r2) else some 0)
set_option maxRecDepth 20000 in
set_option maxHeartbeats 1000000 in
theorem fX11_wrap_c {S : xS} {kp : Option Nat} (hS : xSk kp 0 S) {M : xM} {v0 : Int} {v1 : Int} {E : Int} (h : fX11_wrap v0 v1 = some E) :
    V Y_X11_wrap 1 0 0 0 (xarg 0 [vI v0, vI v1]) [] S M (xqR S M (some (vI E))) := by
  unfold fX11_wrap at h
  show V Y_X11_wrap 1 0 0 0 [(0, vI v0), (1, vI v1)] [] S M _
  refine V_iload_n dX11_wrap_0 rfl (xm 1 rfl) ?_
  refine V_if_le (tgt := 12) dX11_wrap_1 (by decide) h (fun _ h => ?_) (fun _ h => ?_)
  · refine V_iload_n dX11_wrap_4 rfl (xm 0 rfl) ?_
    refine V_iload_n dX11_wrap_5 rfl (xm 1 rfl) ?_
    refine xbE h (fun r2 h1 h => ?_)
    refine T_callSI (host := "") dX11_wrap_6 ok_J9_floorMod_7cf53 lk_X11_339.1 lk_X11_339.2 (hV := ((fJ9_floorMod_7cf53_c (hS.le (by decide)) h1).mono (by decide) (Nat.le_refl _) (Nat.le_refl _))) rfl (Nat.le_of_ble_eq_true rfl) rfl (Nat.le_of_ble_eq_true rfl) ?_
    refine V_goto (tgt := 13) dX11_wrap_9 (by decide) ?_
    exact V_ireti dX11_wrap_13 rfl (q_pI h)
  · refine V_iconst dX11_wrap_12 ?_
    exact V_ireti dX11_wrap_13 rfl (q_pI h)
def fX1_angleOf (M : xM) (v1 : Int) (v2 : Int) : Option Int := xrd M 6 10 v1 fun r1 => xb (fX11_wrap (r1 + v2) (M 1 0)) fun r3 => some r3
set_option maxRecDepth 20000 in
set_option maxHeartbeats 1000000 in
theorem fX1_angleOf_c {S : xS} {kp : Option Nat} (hS : xSk kp 7 S) {M : xM} {v1 : Int} {v2 : Int} {E : Int} (h : fX1_angleOf M v1 v2 = some E) :
    V Y_X1_angleOf 2 0 0 0 (xarg 0 [vR (some 1), vI v1, vI v2]) [] S M (xqR S M (some (vI E))) := by
  unfold fX1_angleOf at h
  show V Y_X1_angleOf 2 0 0 0 [(0, vR (some 1)), (1, vI v1), (2, vI v2)] [] S M _
  refine V_aload_n dX1_angleOf_0 rfl (xm 0 rfl) ?_
  refine V_getR dX1_angleOf_1 fl_X1_26 (sk_1 hS (by decide)) rfl ?_
  refine V_getR dX1_angleOf_4 fl_X1_124 (sk_5 hS (by decide)) rfl ?_
  refine V_iload_n dX1_angleOf_7 rfl (xm 1 rfl) ?_
  refine T_iald dX1_angleOf_8 (sk_6 hS (by decide)) rfl h (fun r1 h => ?_)
  refine V_iload_n dX1_angleOf_9 rfl (xm 2 rfl) ?_
  refine V_iadd dX1_angleOf_10 ?_
  refine V_aload_n dX1_angleOf_11 rfl (xm 0 rfl) ?_
  refine V_getI (kI := 0) dX1_angleOf_12 fl_X1_64 (sk_1 hS (by decide)) rfl rfl ?_
  refine xbE h (fun r3 h2 h => ?_)
  refine T_callSNI (host := "TurnedIsland") dX1_angleOf_15 ok_X11_wrap lk_X1_127.1 lk_X1_127.2 (hV := ((fX11_wrap_c (hS.le (by decide)) h2).mono (by decide) (Nat.le_refl _) (Nat.le_refl _))) rfl (Nat.le_of_ble_eq_true rfl) rfl (Nat.le_of_ble_eq_true rfl) ?_
  exact V_ireti dX1_angleOf_18 rfl (q_pI h)
def fX10_gatherFacts_L19 (n : Nat) (M : xM) (v2 : Int) (v3 : Int) (v4 : Int) (v5 : Int) (v6 : Int) : Option (xM) := match n with
  | 0 => none
  | n + 1 => (if wr v6 < wr 3 then (xrd M 2 864 (fX1_skyCell v6 v5 v2) fun r2 => xwt M 48 7 (1 + v6) r2 fun M3 => fX10_gatherFacts_L19 n M3 v2 v3 v4 v5 (v6 + 1)) else some M)
set_option maxRecDepth 20000 in
set_option maxHeartbeats 1000000 in
theorem fX10_gatherFacts_L19_c {S : xS} {kp : Option Nat} (hS : xSk kp 49 S) {Q : Option xV → xS → xM → Prop} :
    ∀ (n : Nat) (M : xM) (v2 : Int) (v3 : Int) (v4 : Int) (v5 : Int) (v6 : Int) {Mz : xM}, fX10_gatherFacts_L19 n M v2 v3 v4 v5 v6 = some Mz → V Y_X10_gatherFacts 1 0 0 53 [(0, vR (some 43)), (3, vI v3), (4, vI v4), (5, vI v5)] [] S Mz Q → V Y_X10_gatherFacts 1 0 0 19 [(0, vR (some 43)), (1, vR (some 1)), (2, vI v2), (3, vI v3), (4, vI v4), (5, vI v5), (6, vI v6)] [] S M Q := by
  intro n
  induction n with
  | zero =>
    intro M v2 v3 v4 v5 v6 Mz h k
    cases h
  | succ n ih =>
    intro M v2 v3 v4 v5 v6 Mz h k
    rw [fX10_gatherFacts_L19] at h
    refine V_iload dX10_gatherFacts_19 (xm 6 rfl) ?_
    refine V_iconst dX10_gatherFacts_21 ?_
    refine V_icmp_ge (tgt := 53) dX10_gatherFacts_22 (by decide) h (fun _ h => ?_) (fun _ h => ?_)
    · refine V_aload_n dX10_gatherFacts_25 rfl (xm 0 rfl) ?_
      refine V_getR dX10_gatherFacts_26 fl_X10_26 (sk_43 hS (by decide)) rfl ?_
      refine V_iconst dX10_gatherFacts_29 ?_
      refine V_iload dX10_gatherFacts_30 (xm 6 rfl) ?_
      refine V_iadd dX10_gatherFacts_32 ?_
      refine V_aload_n dX10_gatherFacts_33 rfl (xm 1 rfl) ?_
      refine V_getR dX10_gatherFacts_34 fl_X10_79 (sk_1 hS (by decide)) rfl ?_
      refine V_iload dX10_gatherFacts_37 (xm 6 rfl) ?_
      refine V_iload dX10_gatherFacts_39 (xm 5 rfl) ?_
      refine V_iload_n dX10_gatherFacts_41 rfl (xm 2 rfl) ?_
      refine T_callSI (host := "") dX10_gatherFacts_42 ok_X1_skyCell lk_X10_82.1 lk_X10_82.2 (hV := ((fX1_skyCell_c (hS.le (by decide)) rfl).mono (by decide) (Nat.le_refl _) (Nat.le_refl _))) rfl (Nat.le_of_ble_eq_true rfl) rfl (Nat.le_of_ble_eq_true rfl) ?_
      refine T_iald dX10_gatherFacts_45 (sk_2 hS (by decide)) rfl h (fun r2 h => ?_)
      refine T_iast dX10_gatherFacts_46 (sk_48 hS (by decide)) rfl h (fun M3 h => ?_)
      refine V_iinc (ls' := [(6, vI (v6 + 1)), (0, vR (some 43)), (1, vR (some 1)), (2, vI v2), (3, vI v3), (4, vI v4), (5, vI v5)]) dX10_gatherFacts_47 (xm 6 rfl) (by decide) rfl ?_
      refine V_goto (tgt := 19) dX10_gatherFacts_50 (by decide) ?_
      refine V.pick [1, 2, 3, 4, 5, 6, 0] rfl ?_
      exact ih M3 v2 v3 v4 v5 (v6 + 1) h k
    · cases h
      refine V.pick [0, 3, 4, 5] rfl ?_
      exact k
theorem fX10_gatherFacts_L19_ci {S : xS} {kp : Option Nat} (hS : xSk kp 49 S) {Q : Option xV → xS → xM → Prop} {n : Nat} {M : xM} {v2 : Int} {v3 : Int} {v4 : Int} {v5 : Int} {v6 : Int} {Mz : xM} (hl : fX10_gatherFacts_L19 n M v2 v3 v4 v5 v6 = some Mz) (k : V Y_X10_gatherFacts 1 0 0 53 [(0, vR (some 43)), (3, vI v3), (4, vI v4), (5, vI v5)] [] S Mz Q) : V Y_X10_gatherFacts 1 0 0 19 [(0, vR (some 43)), (1, vR (some 1)), (2, vI v2), (3, vI v3), (4, vI v4), (5, vI v5), (6, vI v6)] [] S M Q := fX10_gatherFacts_L19_c hS _ _ _ _ _ _ _ hl k
def fX10_gatherFacts (M : xM) (v2 : Int) (v3 : Int) (v4 : Int) : Option xM := xlet (xup M 48 0 v2) fun M1 => xb (fX10_gatherFacts_L19 xfuel M1 v2 v3 v4 (xrem (xdiv v3 30) 12) 0) fun M4 => xlet (xup M4 48 4 (xrem (xdiv v3 30) 12)) fun M6 => xlet (xup M6 48 5 v3) fun M7 => xlet (xup M7 48 6 v4) fun M8 => some M8
set_option maxRecDepth 20000 in
set_option maxHeartbeats 1000000 in
theorem fX10_gatherFacts_c {S : xS} {kp : Option Nat} (hS : xSk kp 49 S) {M : xM} {v2 : Int} {v3 : Int} {v4 : Int} {E : xM} (h : fX10_gatherFacts M v2 v3 v4 = some E) :
    V Y_X10_gatherFacts 1 0 0 0 (xarg 0 [vR (some 43), vR (some 1), vI v2, vI v3, vI v4]) [] S M (xqR S E none) := by
  unfold fX10_gatherFacts at h
  show V Y_X10_gatherFacts 1 0 0 0 [(0, vR (some 43)), (1, vR (some 1)), (2, vI v2), (3, vI v3), (4, vI v4)] [] S M _
  refine V_iload_n dX10_gatherFacts_0 rfl (xm 3 rfl) ?_
  refine V_bipush dX10_gatherFacts_1 (by decide) ?_
  refine V_idivK dX10_gatherFacts_3 (by decide) ?_
  refine V_bipush dX10_gatherFacts_4 (by decide) ?_
  refine V_iremK dX10_gatherFacts_6 (by decide) ?_
  refine V_istore (ls' := [(5, vI (xrem (xdiv v3 30) 12)), (0, vR (some 43)), (1, vR (some 1)), (2, vI v2), (3, vI v3), (4, vI v4)]) dX10_gatherFacts_7 (by decide) rfl ?_
  refine V_aload_n dX10_gatherFacts_9 rfl (xm 1 rfl) ?_
  refine V_getR dX10_gatherFacts_10 fl_X10_26 (sk_43 hS (by decide)) rfl ?_
  refine V_iconst dX10_gatherFacts_13 ?_
  refine V_iload_n dX10_gatherFacts_14 rfl (xm 3 rfl) ?_
  refine xletE h (fun M1 eM1 h => ?_)
  refine V_iastK (j := 0) dX10_gatherFacts_15 (sk_48 hS (by decide)) (by decide) (by decide) ?_
  rw [← eM1]
  refine V_iconst dX10_gatherFacts_16 ?_
  refine V_istore (ls' := [(6, vI 0), (5, vI (xrem (xdiv v3 30) 12)), (0, vR (some 43)), (1, vR (some 1)), (2, vI v2), (3, vI v3), (4, vI v4)]) dX10_gatherFacts_17 (by decide) rfl ?_
  refine xbE h (fun M4 h5 h => ?_)
  refine V.pick [2, 3, 4, 5, 6, 1, 0] rfl ?_
  refine fX10_gatherFacts_L19_ci (hS.le (by decide)) h5 ?_
  refine V_aload_n dX10_gatherFacts_53 rfl (xm 0 rfl) ?_
  refine V_getR dX10_gatherFacts_54 fl_X10_26 (sk_43 hS (by decide)) rfl ?_
  refine V_iconst dX10_gatherFacts_57 ?_
  refine V_iload dX10_gatherFacts_58 (xm 3 rfl) ?_
  refine xletE h (fun M6 eM6 h => ?_)
  refine V_iastK (j := 4) dX10_gatherFacts_60 (sk_48 hS (by decide)) (by decide) (by decide) ?_
  rw [← eM6]
  refine V_aload_n dX10_gatherFacts_61 rfl (xm 0 rfl) ?_
  refine V_getR dX10_gatherFacts_62 fl_X10_26 (sk_43 hS (by decide)) rfl ?_
  refine V_iconst dX10_gatherFacts_65 ?_
  refine V_iload_n dX10_gatherFacts_66 rfl (xm 1 rfl) ?_
  refine xletE h (fun M7 eM7 h => ?_)
  refine V_iastK (j := 5) dX10_gatherFacts_67 (sk_48 hS (by decide)) (by decide) (by decide) ?_
  rw [← eM7]
  refine V_aload_n dX10_gatherFacts_68 rfl (xm 0 rfl) ?_
  refine V_getR dX10_gatherFacts_69 fl_X10_26 (sk_43 hS (by decide)) rfl ?_
  refine V_bipush dX10_gatherFacts_72 (by decide) ?_
  refine V_iload dX10_gatherFacts_74 (xm 2 rfl) ?_
  refine xletE h (fun M8 eM8 h => ?_)
  refine V_iastK (j := 6) dX10_gatherFacts_76 (sk_48 hS (by decide)) (by decide) (by decide) ?_
  rw [← eM8]
  exact V_ret dX10_gatherFacts_77 rfl (q_v h)
def fX9_joined (v0 : Int) (v1 : Int) (v2 : Int) : Option Int := (if wr v0 = 10 then some (xand v1 v2) else (if wr v0 = 11 then some (xor_ v1 v2) else (if wr v0 = 12 then some (xor_ v1 v2) else (if wr v0 = 13 then some (xor_ v1 v2) else (if wr v0 = 14 then some (v1 + v2) else (if wr v0 = 15 then some (v1 - v2) else (if wr v0 = 16 then some (v1 * v2) else (if wr v0 = 17 then (if wr v2 = 0 then some 0 else xnz v2 (some (xdiv v1 v2))) else (if wr v0 = 18 then some (xor_ v1 v2) else (if wr v0 = 19 then some (xor_ v1 v2) else (if wr v0 = 20 then (if wr v1 < wr v2 then some 1 else some 0) else (if wr v0 = 21 then (if wr v1 = wr v2 then some 1 else some 0) else (if wr v0 = 22 then (if wr v2 < wr v1 then some 1 else some 0) else some (xor_ v1 v2))))))))))))))
set_option maxRecDepth 20000 in
set_option maxHeartbeats 1000000 in
theorem fX9_joined_c {S : xS} {kp : Option Nat} (hS : xSk kp 0 S) {M : xM} {v0 : Int} {v1 : Int} {v2 : Int} {E : Int} (h : fX9_joined v0 v1 v2 = some E) :
    V Y_X9_joined 0 0 0 0 (xarg 0 [vI v0, vI v1, vI v2]) [] S M (xqR S M (some (vI E))) := by
  unfold fX9_joined at h
  show V Y_X9_joined 0 0 0 0 [(0, vI v0), (1, vI v1), (2, vI v2)] [] S M _
  refine V_iload_n dX9_joined_0 rfl (xm 0 rfl) ?_
  refine xif h (fun c h => ?_) (fun c10 h => ?_)
  · refine V_tabIn (tgt := 125) dX9_joined_1 c (by decide) (by decide) rfl (by decide) ?_
    refine V_iload_n dX9_joined_125 rfl (xm 1 rfl) ?_
    refine V_iload_n dX9_joined_126 rfl (xm 2 rfl) ?_
    refine V_iand dX9_joined_127 ?_
    exact V_ireti dX9_joined_128 rfl (q_pI h)
  · refine xif h (fun c h => ?_) (fun c11 h => ?_)
    · refine V_tabIn (tgt := 129) dX9_joined_1 c (by decide) (by decide) rfl (by decide) ?_
      refine V_iload_n dX9_joined_129 rfl (xm 1 rfl) ?_
      refine V_iload_n dX9_joined_130 rfl (xm 2 rfl) ?_
      refine V_ior dX9_joined_131 ?_
      exact V_ireti dX9_joined_132 rfl (q_pI h)
    · refine xif h (fun c h => ?_) (fun c12 h => ?_)
      · refine V_tabIn (tgt := 129) dX9_joined_1 c (by decide) (by decide) rfl (by decide) ?_
        refine V_iload_n dX9_joined_129 rfl (xm 1 rfl) ?_
        refine V_iload_n dX9_joined_130 rfl (xm 2 rfl) ?_
        refine V_ior dX9_joined_131 ?_
        exact V_ireti dX9_joined_132 rfl (q_pI h)
      · refine xif h (fun c h => ?_) (fun c13 h => ?_)
        · refine V_tabIn (tgt := 129) dX9_joined_1 c (by decide) (by decide) rfl (by decide) ?_
          refine V_iload_n dX9_joined_129 rfl (xm 1 rfl) ?_
          refine V_iload_n dX9_joined_130 rfl (xm 2 rfl) ?_
          refine V_ior dX9_joined_131 ?_
          exact V_ireti dX9_joined_132 rfl (q_pI h)
        · refine xif h (fun c h => ?_) (fun c14 h => ?_)
          · refine V_tabIn (tgt := 68) dX9_joined_1 c (by decide) (by decide) rfl (by decide) ?_
            refine V_iload_n dX9_joined_68 rfl (xm 1 rfl) ?_
            refine V_iload_n dX9_joined_69 rfl (xm 2 rfl) ?_
            refine V_iadd dX9_joined_70 ?_
            exact V_ireti dX9_joined_71 rfl (q_pI h)
          · refine xif h (fun c h => ?_) (fun c15 h => ?_)
            · refine V_tabIn (tgt := 72) dX9_joined_1 c (by decide) (by decide) rfl (by decide) ?_
              refine V_iload_n dX9_joined_72 rfl (xm 1 rfl) ?_
              refine V_iload_n dX9_joined_73 rfl (xm 2 rfl) ?_
              refine V_isub dX9_joined_74 ?_
              exact V_ireti dX9_joined_75 rfl (q_pI h)
            · refine xif h (fun c h => ?_) (fun c16 h => ?_)
              · refine V_tabIn (tgt := 76) dX9_joined_1 c (by decide) (by decide) rfl (by decide) ?_
                refine V_iload_n dX9_joined_76 rfl (xm 1 rfl) ?_
                refine V_iload_n dX9_joined_77 rfl (xm 2 rfl) ?_
                refine V_imul dX9_joined_78 ?_
                exact V_ireti dX9_joined_79 rfl (q_pI h)
              · refine xif h (fun c h => ?_) (fun c17 h => ?_)
                · refine V_tabIn (tgt := 80) dX9_joined_1 c (by decide) (by decide) rfl (by decide) ?_
                  refine V_iload_n dX9_joined_80 rfl (xm 2 rfl) ?_
                  refine V_if_eq (tgt := 90) dX9_joined_81 (by decide) h (fun _ h => ?_) (fun _ h => ?_)
                  · refine V_iconst dX9_joined_90 ?_
                    exact V_ireti dX9_joined_91 rfl (q_pI h)
                  · refine V_iload_n dX9_joined_84 rfl (xm 1 rfl) ?_
                    refine V_iload_n dX9_joined_85 rfl (xm 2 rfl) ?_
                    refine T_idiv dX9_joined_86 h (fun h => ?_)
                    refine V_goto (tgt := 91) dX9_joined_87 (by decide) ?_
                    exact V_ireti dX9_joined_91 rfl (q_pI h)
                · refine xif h (fun c h => ?_) (fun c18 h => ?_)
                  · refine V_tabIn (tgt := 129) dX9_joined_1 c (by decide) (by decide) rfl (by decide) ?_
                    refine V_iload_n dX9_joined_129 rfl (xm 1 rfl) ?_
                    refine V_iload_n dX9_joined_130 rfl (xm 2 rfl) ?_
                    refine V_ior dX9_joined_131 ?_
                    exact V_ireti dX9_joined_132 rfl (q_pI h)
                  · refine xif h (fun c h => ?_) (fun c19 h => ?_)
                    · refine V_tabIn (tgt := 129) dX9_joined_1 c (by decide) (by decide) rfl (by decide) ?_
                      refine V_iload_n dX9_joined_129 rfl (xm 1 rfl) ?_
                      refine V_iload_n dX9_joined_130 rfl (xm 2 rfl) ?_
                      refine V_ior dX9_joined_131 ?_
                      exact V_ireti dX9_joined_132 rfl (q_pI h)
                    · refine xif h (fun c h => ?_) (fun c20 h => ?_)
                      · refine V_tabIn (tgt := 92) dX9_joined_1 c (by decide) (by decide) rfl (by decide) ?_
                        refine V_iload_n dX9_joined_92 rfl (xm 1 rfl) ?_
                        refine V_iload_n dX9_joined_93 rfl (xm 2 rfl) ?_
                        refine V_icmp_ge (tgt := 101) dX9_joined_94 (by decide) h (fun _ h => ?_) (fun _ h => ?_)
                        · refine V_iconst dX9_joined_97 ?_
                          refine V_goto (tgt := 102) dX9_joined_98 (by decide) ?_
                          exact V_ireti dX9_joined_102 rfl (q_pI h)
                        · refine V_iconst dX9_joined_101 ?_
                          exact V_ireti dX9_joined_102 rfl (q_pI h)
                      · refine xif h (fun c h => ?_) (fun c21 h => ?_)
                        · refine V_tabIn (tgt := 103) dX9_joined_1 c (by decide) (by decide) rfl (by decide) ?_
                          refine V_iload_n dX9_joined_103 rfl (xm 1 rfl) ?_
                          refine V_iload_n dX9_joined_104 rfl (xm 2 rfl) ?_
                          refine V_icmp_ne (tgt := 112) dX9_joined_105 (by decide) h (fun _ h => ?_) (fun _ h => ?_)
                          · refine V_iconst dX9_joined_108 ?_
                            refine V_goto (tgt := 113) dX9_joined_109 (by decide) ?_
                            exact V_ireti dX9_joined_113 rfl (q_pI h)
                          · refine V_iconst dX9_joined_112 ?_
                            exact V_ireti dX9_joined_113 rfl (q_pI h)
                        · refine xif h (fun c h => ?_) (fun c22 h => ?_)
                          · refine V_tabIn (tgt := 114) dX9_joined_1 c (by decide) (by decide) rfl (by decide) ?_
                            refine V_iload_n dX9_joined_114 rfl (xm 1 rfl) ?_
                            refine V_iload_n dX9_joined_115 rfl (xm 2 rfl) ?_
                            refine V_icmp_le (tgt := 123) dX9_joined_116 (by decide) h (fun _ h => ?_) (fun _ h => ?_)
                            · refine V_iconst dX9_joined_119 ?_
                              refine V_goto (tgt := 124) dX9_joined_120 (by decide) ?_
                              exact V_ireti dX9_joined_124 rfl (q_pI h)
                            · refine V_iconst dX9_joined_123 ?_
                              exact V_ireti dX9_joined_124 rfl (q_pI h)
                          · refine V_tabOut (tgt := 129) dX9_joined_1 (by omega) (by decide) ?_
                            refine V_iload_n dX9_joined_129 rfl (xm 1 rfl) ?_
                            refine V_iload_n dX9_joined_130 rfl (xm 2 rfl) ?_
                            refine V_ior dX9_joined_131 ?_
                            exact V_ireti dX9_joined_132 rfl (q_pI h)
def fX9_valueOf_L8 (n : Nat) (M : xM) (o0 : Nat) (v3 : Int) (v5 : Int) (v6 : Int) : Option (Int × xM) := match n with
  | 0 => none
  | n + 1 => (if wr v6 < wr (M o0 1) then (xrd M (o0 + 1) 400 v6 fun r1 => (if wr (xxor r1 ((-1))) < wr 7 then (if wr v5 < wr 40 then (xj (fun (s2 : Int) => xwt M 49 40 v5 s2 fun M4 => fX9_valueOf_L8 n M4 o0 v3 (v5 + 1) (v6 + 1)) fun j3 => (if wr (xxor r1 ((-1))) < 0 then (xrd M (o0 + 1) 400 v6 fun r5 => j3 r5) else (xrd M 48 7 (xxor r1 ((-1))) fun r6 => j3 r6))) else some (v3, M)) else (xj (fun (_ : Unit) => xj (fun (_ : Unit) => xj (fun (_ : Unit) => (if wr v5 < wr 2 then fX9_valueOf_L8 n M o0 v3 v5 (v6 + 1) else (xrd M 49 40 ((v5 + (-1)) - 1) fun r10 => xrd M 49 40 (v5 + (-1)) fun r11 => xb (fX9_joined (xxor r1 ((-1))) r10 r11) fun r13 => xwt M 49 40 ((v5 + (-1)) - 1) r13 fun M14 => fX9_valueOf_L8 n M14 o0 v3 (v5 + (-1)) (v6 + 1)))) fun j9 => (if wr (xxor r1 ((-1))) = wr 8 then (if wr v5 < wr 2 then j9 () else (xrd M 49 40 ((v5 + (-2)) + 1) fun r15 => (if wr r15 = 0 then fX9_valueOf_L8 n M o0 (v3 + 0) (v5 + (-2)) (v6 + 1) else (xrd M 49 40 (v5 + (-2)) fun r16 => fX9_valueOf_L8 n M o0 (v3 + (wr r16)) (v5 + (-2)) (v6 + 1))))) else j9 ())) fun j8 => (if wr (xxor r1 ((-1))) = wr 13 then (if wr v5 < wr 1 then j8 () else (xrd M 49 40 (v5 + (-1)) fun r17 => fX9_valueOf_L8 n M o0 (v3 + (wr r17)) (v5 + (-1)) (v6 + 1))) else j8 ())) fun j7 => (if wr (xxor r1 ((-1))) = wr 11 then (if wr v5 < wr 1 then j7 () else (xrd M 49 40 (v5 - 1) fun r18 => xwt M 49 40 (v5 - 1) (1 - r18) fun M19 => fX9_valueOf_L8 n M19 o0 v3 v5 (v6 + 1))) else j7 ())))) else some (v3, M))
set_option maxRecDepth 20000 in
set_option maxHeartbeats 1000000 in
theorem fX9_valueOf_L8_c {S : xS} {kp : Option Nat} (hS : xSk kp 50 S) {Q : Option xV → xS → xM → Prop} :
    ∀ (n : Nat) (M : xM) (o0 : Nat) (v3 : Int) (v5 : Int) (v6 : Int) {x3 : Int} {Mz : xM}, S[o0]? = some (9, 4, [none, none, none, some (some (o0 + 1))]) → S[o0 + 1]? = some (100, 400, []) → fX9_valueOf_L8 n M o0 v3 v5 v6 = some (x3, Mz) → V Y_X9_valueOf 1 0 0 207 [(3, vL x3)] [] S Mz Q → V Y_X9_valueOf 1 0 0 8 [(0, vR (some o0)), (1, vR (some 48)), (2, vR (some 49)), (3, vL v3), (5, vI v5), (6, vI v6)] [] S M Q := by
  intro n
  induction n with
  | zero =>
    intro M o0 v3 v5 v6 x3 Mz hw0 hc0 h k
    cases h
  | succ n ih =>
    intro M o0 v3 v5 v6 x3 Mz hw0 hc0 h k
    rw [fX9_valueOf_L8] at h
    refine V_iload dX9_valueOf_8 (xm 5 rfl) ?_
    refine V_aload_n dX9_valueOf_10 rfl (xm 0 rfl) ?_
    refine V_getI (kI := 1) dX9_valueOf_11 fl_X9_19 hw0 rfl rfl ?_
    refine V_icmp_ge (tgt := 207) dX9_valueOf_14 (by decide) h (fun _ h => ?_) (fun _ h => ?_)
    · refine V_aload_n dX9_valueOf_17 rfl (xm 0 rfl) ?_
      refine V_getR dX9_valueOf_18 fl_X9_9 hw0 rfl ?_
      refine V_iload dX9_valueOf_21 (xm 5 rfl) ?_
      refine T_iald dX9_valueOf_23 hc0 rfl h (fun r1 h => ?_)
      refine V_iconst dX9_valueOf_24 ?_
      refine V_ixor dX9_valueOf_25 ?_
      refine V_istore (ls' := [(7, vI (xxor r1 ((-1)))), (0, vR (some o0)), (1, vR (some 48)), (2, vR (some 49)), (3, vL v3), (5, vI v5), (6, vI v6)]) dX9_valueOf_26 (by decide) rfl ?_
      refine V_iload dX9_valueOf_28 (xm 0 rfl) ?_
      refine V_bipush dX9_valueOf_30 (by decide) ?_
      refine V_icmp_ge (tgt := 74) dX9_valueOf_32 (by decide) h (fun _ h => ?_) (fun _ h => ?_)
      · refine V_iload dX9_valueOf_35 (xm 5 rfl) ?_
        refine V_aload_n dX9_valueOf_37 rfl (xm 3 rfl) ?_
        refine V_alen (x := 40) dX9_valueOf_38 (sk_49 hS (by decide)) (by decide) rfl ?_
        refine V_icmp_lt (tgt := 45) dX9_valueOf_39 (by decide) h (fun _ h => ?_) (fun _ h => ?_)
        · refine V_aload_n dX9_valueOf_45 rfl (xm 3 rfl) ?_
          refine V_iload dX9_valueOf_46 (xm 5 rfl) ?_
          refine V_iload dX9_valueOf_48 (xm 0 rfl) ?_
          refine xjE h (fun j3 hj3 h => ?_)
          have kj3 : ∀ (s2 : Int), j3 s2 = some (x3, Mz) → V Y_X9_valueOf 1 0 0 67 [(0, vR (some o0)), (1, vR (some 48)), (2, vR (some 49)), (3, vL v3), (5, vI v5), (6, vI v6)] [vI s2, vI v5, vR (some 49)] S M Q := by
            intro s2 h
            rw [hj3] at h
            refine T_iast dX9_valueOf_67 (sk_49 hS (by decide)) rfl h (fun M4 h => ?_)
            refine V_iinc (ls' := [(5, vI (v5 + 1)), (0, vR (some o0)), (1, vR (some 48)), (2, vR (some 49)), (3, vL v3), (6, vI v6)]) dX9_valueOf_68 (xm 4 rfl) (by decide) rfl ?_
            refine V_goto (tgt := 201) dX9_valueOf_71 (by decide) ?_
            refine V_iinc (ls' := [(6, vI (v6 + 1)), (5, vI (v5 + 1)), (0, vR (some o0)), (1, vR (some 48)), (2, vR (some 49)), (3, vL v3)]) dX9_valueOf_201 (xm 5 rfl) (by decide) rfl ?_
            refine V_goto (tgt := 8) dX9_valueOf_204 (by decide) ?_
            refine V.pick [2, 3, 4, 5, 1, 0] rfl ?_
            exact ih M4 o0 v3 (v5 + 1) (v6 + 1) hw0 hc0 h k
          refine V_if_ge (tgt := 63) dX9_valueOf_50 (by decide) h (fun _ h => ?_) (fun _ h => ?_)
          · refine V_aload_n dX9_valueOf_53 rfl (xm 1 rfl) ?_
            refine V_getR dX9_valueOf_54 fl_X9_9 hw0 rfl ?_
            refine V_iload dX9_valueOf_57 (xm 6 rfl) ?_
            refine T_iald dX9_valueOf_59 hc0 rfl h (fun r5 h => ?_)
            refine V_goto (tgt := 67) dX9_valueOf_60 (by decide) ?_
            refine V.pick [1, 2, 3, 4, 5, 6] rfl ?_
            exact kj3 r5 h
          · refine V_aload_n dX9_valueOf_63 rfl (xm 2 rfl) ?_
            refine V_iload dX9_valueOf_64 (xm 0 rfl) ?_
            refine T_iald dX9_valueOf_66 (sk_48 hS (by decide)) rfl h (fun r6 h => ?_)
            refine V.pick [1, 2, 3, 4, 5, 6] rfl ?_
            exact kj3 r6 h
        · refine V_goto (tgt := 207) dX9_valueOf_42 (by decide) ?_
          cases h
          refine V.pick [4] rfl ?_
          exact k
      · refine V_iload dX9_valueOf_74 (xm 0 rfl) ?_
        refine V_bipush dX9_valueOf_76 (by decide) ?_
        refine xjE h (fun j7 hj7 h => ?_)
        have kj7 : ∀ (u : Unit), j7 u = some (x3, Mz) → V Y_X9_valueOf 1 0 0 104 [(0, vR (some o0)), (1, vR (some 48)), (2, vR (some 49)), (3, vL v3), (5, vI v5), (6, vI v6), (7, vI (xxor r1 ((-1))))] [] S M Q := by
          intro u h
          rw [hj7] at h
          refine V_iload dX9_valueOf_104 (xm 6 rfl) ?_
          refine V_bipush dX9_valueOf_106 (by decide) ?_
          refine xjE h (fun j8 hj8 h => ?_)
          have kj8 : ∀ (u : Unit), j8 u = some (x3, Mz) → V Y_X9_valueOf 1 0 0 131 [(0, vR (some o0)), (1, vR (some 48)), (2, vR (some 49)), (3, vL v3), (5, vI v5), (6, vI v6), (7, vI (xxor r1 ((-1))))] [] S M Q := by
            intro u h
            rw [hj8] at h
            refine V_iload dX9_valueOf_131 (xm 6 rfl) ?_
            refine V_bipush dX9_valueOf_133 (by decide) ?_
            refine xjE h (fun j9 hj9 h => ?_)
            have kj9 : ∀ (u : Unit), j9 u = some (x3, Mz) → V Y_X9_valueOf 1 0 0 171 [(0, vR (some o0)), (1, vR (some 48)), (2, vR (some 49)), (3, vL v3), (5, vI v5), (6, vI v6), (7, vI (xxor r1 ((-1))))] [] S M Q := by
              intro u h
              rw [hj9] at h
              refine V_iload dX9_valueOf_171 (xm 4 rfl) ?_
              refine V_iconst dX9_valueOf_173 ?_
              refine V_icmp_lt (tgt := 201) dX9_valueOf_174 (by decide) h (fun _ h => ?_) (fun _ h => ?_)
              · refine V_iinc (ls' := [(6, vI (v6 + 1)), (0, vR (some o0)), (1, vR (some 48)), (2, vR (some 49)), (3, vL v3), (5, vI v5), (7, vI (xxor r1 ((-1))))]) dX9_valueOf_201 (xm 5 rfl) (by decide) rfl ?_
                refine V_goto (tgt := 8) dX9_valueOf_204 (by decide) ?_
                refine V.pick [1, 2, 3, 4, 5, 0] rfl ?_
                exact ih M o0 v3 v5 (v6 + 1) hw0 hc0 h k
              · refine V_iinc (ls' := [(5, vI (v5 + (-1))), (0, vR (some o0)), (1, vR (some 48)), (2, vR (some 49)), (3, vL v3), (6, vI v6), (7, vI (xxor r1 ((-1))))]) dX9_valueOf_177 (xm 4 rfl) (by decide) rfl ?_
                refine V_aload_n dX9_valueOf_180 rfl (xm 3 rfl) ?_
                refine V_iload dX9_valueOf_181 (xm 0 rfl) ?_
                refine V_iconst dX9_valueOf_183 ?_
                refine V_isub dX9_valueOf_184 ?_
                refine V_iload dX9_valueOf_185 (xm 6 rfl) ?_
                refine V_aload_n dX9_valueOf_187 rfl (xm 3 rfl) ?_
                refine V_iload dX9_valueOf_188 (xm 0 rfl) ?_
                refine V_iconst dX9_valueOf_190 ?_
                refine V_isub dX9_valueOf_191 ?_
                refine T_iald dX9_valueOf_192 (sk_49 hS (by decide)) rfl h (fun r10 h => ?_)
                refine V_aload_n dX9_valueOf_193 rfl (xm 3 rfl) ?_
                refine V_iload dX9_valueOf_194 (xm 0 rfl) ?_
                refine T_iald dX9_valueOf_196 (sk_49 hS (by decide)) rfl h (fun r11 h => ?_)
                refine xbE h (fun r13 h12 h => ?_)
                refine T_callSI (host := "") dX9_valueOf_197 ok_X9_joined lk_X9_32.1 lk_X9_32.2 (hV := ((fX9_joined_c (hS.le (by decide)) h12).mono (by decide) (Nat.le_refl _) (Nat.le_refl _))) rfl (Nat.le_of_ble_eq_true rfl) rfl (Nat.le_of_ble_eq_true rfl) ?_
                refine T_iast dX9_valueOf_200 (sk_49 hS (by decide)) rfl h (fun M14 h => ?_)
                refine V_iinc (ls' := [(6, vI (v6 + 1)), (5, vI (v5 + (-1))), (0, vR (some o0)), (1, vR (some 48)), (2, vR (some 49)), (3, vL v3), (7, vI (xxor r1 ((-1))))]) dX9_valueOf_201 (xm 5 rfl) (by decide) rfl ?_
                refine V_goto (tgt := 8) dX9_valueOf_204 (by decide) ?_
                refine V.pick [2, 3, 4, 5, 1, 0] rfl ?_
                exact ih M14 o0 v3 (v5 + (-1)) (v6 + 1) hw0 hc0 h k
            refine V_icmp_ne (tgt := 171) dX9_valueOf_135 (by decide) h (fun _ h => ?_) (fun _ h => ?_)
            · refine V_iload dX9_valueOf_138 (xm 4 rfl) ?_
              refine V_iconst dX9_valueOf_140 ?_
              refine V_icmp_lt (tgt := 171) dX9_valueOf_141 (by decide) h (fun _ h => ?_) (fun _ h => ?_)
              · refine V.pick [0, 1, 2, 3, 4, 5, 6] rfl ?_
                exact kj9 () h
              · refine V_iinc (ls' := [(5, vI (v5 + (-2))), (0, vR (some o0)), (1, vR (some 48)), (2, vR (some 49)), (3, vL v3), (6, vI v6), (7, vI (xxor r1 ((-1))))]) dX9_valueOf_144 (xm 4 rfl) (by decide) rfl ?_
                refine V_lload_n dX9_valueOf_147 rfl (xm 4 rfl) ?_
                refine V_aload_n dX9_valueOf_148 rfl (xm 3 rfl) ?_
                refine V_iload dX9_valueOf_149 (xm 0 rfl) ?_
                refine V_iconst dX9_valueOf_151 ?_
                refine V_iadd dX9_valueOf_152 ?_
                refine T_iald dX9_valueOf_153 (sk_49 hS (by decide)) rfl h (fun r15 h => ?_)
                refine V_if_eq (tgt := 165) dX9_valueOf_154 (by decide) h (fun _ h => ?_) (fun _ h => ?_)
                · refine V_lconst (x := 0) dX9_valueOf_165 (by decide) ?_
                  refine V_ladd dX9_valueOf_166 ?_
                  refine V_lstore_n (ls' := [(3, vL (v3 + 0)), (5, vI (v5 + (-2))), (0, vR (some o0)), (1, vR (some 48)), (2, vR (some 49)), (6, vI v6), (7, vI (xxor r1 ((-1))))]) dX9_valueOf_167 rfl (by decide) rfl ?_
                  refine V_goto (tgt := 201) dX9_valueOf_168 (by decide) ?_
                  refine V_iinc (ls' := [(6, vI (v6 + 1)), (3, vL (v3 + 0)), (5, vI (v5 + (-2))), (0, vR (some o0)), (1, vR (some 48)), (2, vR (some 49)), (7, vI (xxor r1 ((-1))))]) dX9_valueOf_201 (xm 5 rfl) (by decide) rfl ?_
                  refine V_goto (tgt := 8) dX9_valueOf_204 (by decide) ?_
                  refine V.pick [3, 4, 5, 1, 2, 0] rfl ?_
                  exact ih M o0 (v3 + 0) (v5 + (-2)) (v6 + 1) hw0 hc0 h k
                · refine V_aload_n dX9_valueOf_157 rfl (xm 3 rfl) ?_
                  refine V_iload dX9_valueOf_158 (xm 0 rfl) ?_
                  refine T_iald dX9_valueOf_160 (sk_49 hS (by decide)) rfl h (fun r16 h => ?_)
                  refine V_i2l dX9_valueOf_161 ?_
                  refine V_goto (tgt := 166) dX9_valueOf_162 (by decide) ?_
                  refine V_ladd dX9_valueOf_166 ?_
                  refine V_lstore_n (ls' := [(3, vL (v3 + (wr r16))), (5, vI (v5 + (-2))), (0, vR (some o0)), (1, vR (some 48)), (2, vR (some 49)), (6, vI v6), (7, vI (xxor r1 ((-1))))]) dX9_valueOf_167 rfl (by decide) rfl ?_
                  refine V_goto (tgt := 201) dX9_valueOf_168 (by decide) ?_
                  refine V_iinc (ls' := [(6, vI (v6 + 1)), (3, vL (v3 + (wr r16))), (5, vI (v5 + (-2))), (0, vR (some o0)), (1, vR (some 48)), (2, vR (some 49)), (7, vI (xxor r1 ((-1))))]) dX9_valueOf_201 (xm 5 rfl) (by decide) rfl ?_
                  refine V_goto (tgt := 8) dX9_valueOf_204 (by decide) ?_
                  refine V.pick [3, 4, 5, 1, 2, 0] rfl ?_
                  exact ih M o0 (v3 + (wr r16)) (v5 + (-2)) (v6 + 1) hw0 hc0 h k
            · refine V.pick [0, 1, 2, 3, 4, 5, 6] rfl ?_
              exact kj9 () h
          refine V_icmp_ne (tgt := 131) dX9_valueOf_108 (by decide) h (fun _ h => ?_) (fun _ h => ?_)
          · refine V_iload dX9_valueOf_111 (xm 4 rfl) ?_
            refine V_iconst dX9_valueOf_113 ?_
            refine V_icmp_lt (tgt := 131) dX9_valueOf_114 (by decide) h (fun _ h => ?_) (fun _ h => ?_)
            · refine V.pick [0, 1, 2, 3, 4, 5, 6] rfl ?_
              exact kj8 () h
            · refine V_iinc (ls' := [(5, vI (v5 + (-1))), (0, vR (some o0)), (1, vR (some 48)), (2, vR (some 49)), (3, vL v3), (6, vI v6), (7, vI (xxor r1 ((-1))))]) dX9_valueOf_117 (xm 4 rfl) (by decide) rfl ?_
              refine V_lload_n dX9_valueOf_120 rfl (xm 4 rfl) ?_
              refine V_aload_n dX9_valueOf_121 rfl (xm 3 rfl) ?_
              refine V_iload dX9_valueOf_122 (xm 0 rfl) ?_
              refine T_iald dX9_valueOf_124 (sk_49 hS (by decide)) rfl h (fun r17 h => ?_)
              refine V_i2l dX9_valueOf_125 ?_
              refine V_ladd dX9_valueOf_126 ?_
              refine V_lstore_n (ls' := [(3, vL (v3 + (wr r17))), (5, vI (v5 + (-1))), (0, vR (some o0)), (1, vR (some 48)), (2, vR (some 49)), (6, vI v6), (7, vI (xxor r1 ((-1))))]) dX9_valueOf_127 rfl (by decide) rfl ?_
              refine V_goto (tgt := 201) dX9_valueOf_128 (by decide) ?_
              refine V_iinc (ls' := [(6, vI (v6 + 1)), (3, vL (v3 + (wr r17))), (5, vI (v5 + (-1))), (0, vR (some o0)), (1, vR (some 48)), (2, vR (some 49)), (7, vI (xxor r1 ((-1))))]) dX9_valueOf_201 (xm 5 rfl) (by decide) rfl ?_
              refine V_goto (tgt := 8) dX9_valueOf_204 (by decide) ?_
              refine V.pick [3, 4, 5, 1, 2, 0] rfl ?_
              exact ih M o0 (v3 + (wr r17)) (v5 + (-1)) (v6 + 1) hw0 hc0 h k
          · refine V.pick [0, 1, 2, 3, 4, 5, 6] rfl ?_
            exact kj8 () h
        refine V_icmp_ne (tgt := 104) dX9_valueOf_78 (by decide) h (fun _ h => ?_) (fun _ h => ?_)
        · refine V_iload dX9_valueOf_81 (xm 5 rfl) ?_
          refine V_iconst dX9_valueOf_83 ?_
          refine V_icmp_lt (tgt := 104) dX9_valueOf_84 (by decide) h (fun _ h => ?_) (fun _ h => ?_)
          · refine V.pick [1, 2, 3, 4, 5, 6, 0] rfl ?_
            exact kj7 () h
          · refine V_aload_n dX9_valueOf_87 rfl (xm 3 rfl) ?_
            refine V_iload dX9_valueOf_88 (xm 5 rfl) ?_
            refine V_iconst dX9_valueOf_90 ?_
            refine V_isub dX9_valueOf_91 ?_
            refine V_iconst dX9_valueOf_92 ?_
            refine V_aload_n dX9_valueOf_93 rfl (xm 3 rfl) ?_
            refine V_iload dX9_valueOf_94 (xm 5 rfl) ?_
            refine V_iconst dX9_valueOf_96 ?_
            refine V_isub dX9_valueOf_97 ?_
            refine T_iald dX9_valueOf_98 (sk_49 hS (by decide)) rfl h (fun r18 h => ?_)
            refine V_isub dX9_valueOf_99 ?_
            refine T_iast dX9_valueOf_100 (sk_49 hS (by decide)) rfl h (fun M19 h => ?_)
            refine V_goto (tgt := 201) dX9_valueOf_101 (by decide) ?_
            refine V_iinc (ls' := [(6, vI (v6 + 1)), (7, vI (xxor r1 ((-1)))), (0, vR (some o0)), (1, vR (some 48)), (2, vR (some 49)), (3, vL v3), (5, vI v5)]) dX9_valueOf_201 (xm 6 rfl) (by decide) rfl ?_
            refine V_goto (tgt := 8) dX9_valueOf_204 (by decide) ?_
            refine V.pick [2, 3, 4, 5, 6, 0] rfl ?_
            exact ih M19 o0 v3 v5 (v6 + 1) hw0 hc0 h k
        · refine V.pick [1, 2, 3, 4, 5, 6, 0] rfl ?_
          exact kj7 () h
    · cases h
      refine V.pick [3] rfl ?_
      exact k
theorem fX9_valueOf_L8_ci {S : xS} {kp : Option Nat} (hS : xSk kp 50 S) {Q : Option xV → xS → xM → Prop} {n : Nat} {M : xM} {o0 : Nat} {v3 : Int} {v5 : Int} {v6 : Int} {x3 : Int} {Mz : xM} (hw0 : S[o0]? = some (9, 4, [none, none, none, some (some (o0 + 1))])) (hc0 : S[o0 + 1]? = some (100, 400, [])) (hl : fX9_valueOf_L8 n M o0 v3 v5 v6 = some (x3, Mz)) (k : V Y_X9_valueOf 1 0 0 207 [(3, vL x3)] [] S Mz Q) : V Y_X9_valueOf 1 0 0 8 [(0, vR (some o0)), (1, vR (some 48)), (2, vR (some 49)), (3, vL v3), (5, vI v5), (6, vI v6)] [] S M Q := fX9_valueOf_L8_c hS _ _ _ _ _ _ hw0 hc0 hl k
