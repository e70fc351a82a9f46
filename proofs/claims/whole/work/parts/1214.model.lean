def fX7_addToken (M : xM) (v1 : Int) (v2 : Int) (v3 : Int) : Option xM := (if wr (M 36 7) < wr 401 then (xwt M 38 401 (M 36 7) v1 fun M1 => xwt M1 39 401 (M1 36 7) v2 fun M2 => xwt M2 40 401 (M2 36 7) v3 fun M3 => xlet (xup M3 36 7 ((M3 36 7) + 1)) fun M4 => some M4) else some M)
set_option maxRecDepth 20000 in
set_option maxHeartbeats 1000000 in
theorem fX7_addToken_c {S : xS} {kp : Option Nat} (hS : xSk kp 41 S) {M : xM} {v1 : Int} {v2 : Int} {v3 : Int} {E : xM} (h : fX7_addToken M v1 v2 v3 = some E) :
    V Y_X7_addToken 0 0 0 0 (xarg 0 [vR (some 36), vI v1, vI v2, vI v3]) [] S M (xqR S E none) := by
  unfold fX7_addToken at h
  show V Y_X7_addToken 0 0 0 0 [(0, vR (some 36)), (1, vI v1), (2, vI v2), (3, vI v3)] [] S M _
  refine V_aload_n dX7_addToken_0 rfl (xm 0 rfl) ?_
  refine V_getI (kI := 7) dX7_addToken_1 fl_X7_95 (sk_36 hS (by decide)) rfl rfl ?_
  refine V_aload_n dX7_addToken_4 rfl (xm 0 rfl) ?_
  refine V_getR dX7_addToken_5 fl_X7_19 (sk_36 hS (by decide)) rfl ?_
  refine V_alen (x := 401) dX7_addToken_8 (sk_38 hS (by decide)) (by decide) rfl ?_
  refine V_icmp_ge (tgt := 52) dX7_addToken_9 (by decide) h (fun _ h => ?_) (fun _ h => ?_)
  · refine V_aload_n dX7_addToken_12 rfl (xm 0 rfl) ?_
    refine V_getR dX7_addToken_13 fl_X7_19 (sk_36 hS (by decide)) rfl ?_
    refine V_aload_n dX7_addToken_16 rfl (xm 0 rfl) ?_
    refine V_getI (kI := 7) dX7_addToken_17 fl_X7_95 (sk_36 hS (by decide)) rfl rfl ?_
    refine V_iload_n dX7_addToken_20 rfl (xm 1 rfl) ?_
    refine T_iast dX7_addToken_21 (sk_38 hS (by decide)) rfl h (fun M1 h => ?_)
    refine V_aload_n dX7_addToken_22 rfl (xm 0 rfl) ?_
    refine V_getR dX7_addToken_23 fl_X7_23 (sk_36 hS (by decide)) rfl ?_
    refine V_aload_n dX7_addToken_26 rfl (xm 0 rfl) ?_
    refine V_getI (kI := 7) dX7_addToken_27 fl_X7_95 (sk_36 hS (by decide)) rfl rfl ?_
    refine V_iload_n dX7_addToken_30 rfl (xm 2 rfl) ?_
    refine T_iast dX7_addToken_31 (sk_39 hS (by decide)) rfl h (fun M2 h => ?_)
    refine V_aload_n dX7_addToken_32 rfl (xm 0 rfl) ?_
    refine V_getR dX7_addToken_33 fl_X7_26 (sk_36 hS (by decide)) rfl ?_
    refine V_aload_n dX7_addToken_36 rfl (xm 0 rfl) ?_
    refine V_getI (kI := 7) dX7_addToken_37 fl_X7_95 (sk_36 hS (by decide)) rfl rfl ?_
    refine V_iload_n dX7_addToken_40 rfl (xm 3 rfl) ?_
    refine T_iast dX7_addToken_41 (sk_40 hS (by decide)) rfl h (fun M3 h => ?_)
    refine V_aload_n dX7_addToken_42 rfl (xm 0 rfl) ?_
    refine V_dup dX7_addToken_43 rfl ?_
    refine V_getI (kI := 7) dX7_addToken_44 fl_X7_95 (sk_36 hS (by decide)) rfl rfl ?_
    refine V_iconst dX7_addToken_47 ?_
    refine V_iadd dX7_addToken_48 ?_
    refine T_putI (kI := 7) dX7_addToken_49 fp_X7_95 (sk_36 hS (by decide)) rfl rfl h (fun M4 h => ?_)
    exact V_ret dX7_addToken_52 rfl (q_v h)
  · exact V_ret dX7_addToken_52 rfl (q_v h)
def fX7_splitWord (M : xM) (v1 : Int) : Option (Int × xM) := xb (fX7_splitWord_L2 xfuel M v1 v1) fun y2 => xb (fX7_keywordOf M v1 y2) fun r5 => xb (fX7_addToken M r5 v1 0) fun M7 => some (y2, M7)
set_option maxRecDepth 20000 in
set_option maxHeartbeats 1000000 in
theorem fX7_splitWord_c {S : xS} {kp : Option Nat} (hS : xSk kp 41 S) {M : xM} {v1 : Int} {E : Int × xM} (h : fX7_splitWord M v1 = some E) :
    V Y_X7_splitWord 6 0 0 0 (xarg 0 [vR (some 36), vI v1]) [] S M (xqR S E.2 (some (vI E.1))) := by
  unfold fX7_splitWord at h
  show V Y_X7_splitWord 6 0 0 0 [(0, vR (some 36)), (1, vI v1)] [] S M _
  refine V_iload_n dX7_splitWord_0 rfl (xm 1 rfl) ?_
  refine V_istore_n (ls' := [(2, vI v1), (0, vR (some 36)), (1, vI v1)]) dX7_splitWord_1 rfl (by decide) rfl ?_
  refine xbE h (fun y2 h3 h => ?_)
  refine V.pick [1, 2, 0] rfl ?_
  refine fX7_splitWord_L2_ci (hS.le (by decide)) h3 ?_
  refine V_aload_n dX7_splitWord_28 rfl (xm 0 rfl) ?_
  refine V_aload_n dX7_splitWord_29 rfl (xm 0 rfl) ?_
  refine V_iload_n dX7_splitWord_30 rfl (xm 1 rfl) ?_
  refine V_iload_n dX7_splitWord_31 rfl (xm 2 rfl) ?_
  refine xbE h (fun r5 h4 h => ?_)
  refine T_callVI dX7_splitWord_32 ok_X7_keywordOf (by exact ⟨by decide, rfl⟩) lk_X7_123.1 lk_X7_123.2 (sk_36 hS (by decide)) (hV := ((fX7_keywordOf_c (hS.le (by decide)) h4).mono (by decide) (Nat.le_refl _) (Nat.le_refl _))) rfl (Nat.le_of_ble_eq_true rfl) rfl (Nat.le_of_ble_eq_true rfl) ?_
  refine V_iload_n dX7_splitWord_35 rfl (xm 1 rfl) ?_
  refine V_iconst dX7_splitWord_36 ?_
  refine xbE h (fun M7 h6 h => ?_)
  refine T_callVv dX7_splitWord_37 ok_X7_addToken (by exact ⟨by decide, rfl⟩) lk_X7_119.1 lk_X7_119.2 (sk_36 hS (by decide)) (hV := ((fX7_addToken_c (hS.le (by decide)) h6).mono (by decide) (Nat.le_refl _) (Nat.le_refl _))) rfl (Nat.le_of_ble_eq_true rfl) rfl (Nat.le_of_ble_eq_true rfl) ?_
  refine V_iload_n dX7_splitWord_40 rfl (xm 2 rfl) ?_
  exact V_ireti dX7_splitWord_41 rfl (q_wI h)
def fX7_isDigit (v0 : Int) : Bool := (if wr v0 < wr 48 then false else (if wr 57 < wr v0 then false else true))
set_option maxRecDepth 20000 in
set_option maxHeartbeats 1000000 in
theorem fX7_isDigit_c {S : xS} {kp : Option Nat} (hS : xSk kp 0 S) {M : xM} {v0 : Int} {E : Bool} (h : fX7_isDigit v0 = E) :
    V Y_X7_isDigit 0 0 0 0 (xarg 0 [vI v0]) [] S M (xqR S M (some (vI (b2i E)))) := by
  unfold fX7_isDigit at h
  show V Y_X7_isDigit 0 0 0 0 [(0, vI v0)] [] S M _
  refine V_iload_n dX7_isDigit_0 rfl (xm 0 rfl) ?_
  refine V_bipush dX7_isDigit_1 (by decide) ?_
  refine V_icmp_lt (tgt := 16) dX7_isDigit_3 (by decide) h (fun _ h => ?_) (fun _ h => ?_)
  · refine V_iconst dX7_isDigit_16 ?_
    exact V_iretb (b := false) dX7_isDigit_17 rfl (by decide) (q_tB h)
  · refine V_iload_n dX7_isDigit_6 rfl (xm 0 rfl) ?_
    refine V_bipush dX7_isDigit_7 (by decide) ?_
    refine V_icmp_gt (tgt := 16) dX7_isDigit_9 (by decide) h (fun _ h => ?_) (fun _ h => ?_)
    · refine V_iconst dX7_isDigit_16 ?_
      exact V_iretb (b := false) dX7_isDigit_17 rfl (by decide) (q_tB h)
    · refine V_iconst dX7_isDigit_12 ?_
      refine V_goto (tgt := 17) dX7_isDigit_13 (by decide) ?_
      exact V_iretb (b := true) dX7_isDigit_17 rfl (by decide) (q_tB h)
def fX7_splitNumber_L4 (n : Nat) (M : xM) (v1 : Int) (v2 : Int) (v3 : Int) : Option (Int × Int) := match n with
  | 0 => none
  | n + 1 => (if wr v2 < wr (M 36 0) then (xrd M 37 400 v2 fun r1 => (if (fX7_isDigit r1) = true then (if wr (v2 - v1) < wr 4 then (xrd M 37 400 v2 fun r2 => fX7_splitNumber_L4 n M v1 (v2 + 1) ((v3 * 10) + (r2 - 48))) else fX7_splitNumber_L4 n M v1 (v2 + 1) v3) else some (v2, v3))) else some (v2, v3))
set_option maxRecDepth 20000 in
set_option maxHeartbeats 1000000 in
theorem fX7_splitNumber_L4_c {S : xS} {kp : Option Nat} (hS : xSk kp 38 S) {Q : Option xV → xS → xM → Prop} :
    ∀ (n : Nat) (M : xM) (v1 : Int) (v2 : Int) (v3 : Int) {x2 : Int} {x3 : Int}, fX7_splitNumber_L4 n M v1 v2 v3 = some (x2, x3) → V Y_X7_splitNumber 1 0 0 52 [(0, vR (some 36)), (1, vI v1), (2, vI x2), (3, vI x3)] [] S M Q → V Y_X7_splitNumber 1 0 0 4 [(0, vR (some 36)), (1, vI v1), (2, vI v2), (3, vI v3)] [] S M Q := by
  intro n
  induction n with
  | zero =>
    intro M v1 v2 v3 x2 x3 h k
    cases h
  | succ n ih =>
    intro M v1 v2 v3 x2 x3 h k
    rw [fX7_splitNumber_L4] at h
    refine V_iload_n dX7_splitNumber_4 rfl (xm 2 rfl) ?_
    refine V_aload_n dX7_splitNumber_5 rfl (xm 0 rfl) ?_
    refine V_getI (kI := 0) dX7_splitNumber_6 fl_X7_36 (sk_36 hS (by decide)) rfl rfl ?_
    refine V_icmp_ge (tgt := 52) dX7_splitNumber_9 (by decide) h (fun _ h => ?_) (fun _ h => ?_)
    · refine V_aload_n dX7_splitNumber_12 rfl (xm 0 rfl) ?_
      refine V_getR dX7_splitNumber_13 fl_X7_15 (sk_36 hS (by decide)) rfl ?_
      refine V_iload_n dX7_splitNumber_16 rfl (xm 2 rfl) ?_
      refine T_cald dX7_splitNumber_17 (sk_37 hS (by decide)) rfl h (fun r1 h => ?_)
      refine T_callSI (host := "") dX7_splitNumber_18 ok_X7_isDigit lk_X7_106.1 lk_X7_106.2 (hV := ((fX7_isDigit_c (hS.le (by decide)) rfl).mono (by decide) (Nat.le_refl _) (Nat.le_refl _))) rfl (Nat.le_of_ble_eq_true rfl) rfl (Nat.le_of_ble_eq_true rfl) ?_
      refine V_if_eqB (tgt := 52) dX7_splitNumber_21 (by decide) h (fun _ h => ?_) (fun _ h => ?_)
      · refine V_iload_n dX7_splitNumber_24 rfl (xm 2 rfl) ?_
        refine V_iload_n dX7_splitNumber_25 rfl (xm 1 rfl) ?_
        refine V_isub dX7_splitNumber_26 ?_
        refine V_iconst dX7_splitNumber_27 ?_
        refine V_icmp_ge (tgt := 46) dX7_splitNumber_28 (by decide) h (fun _ h => ?_) (fun _ h => ?_)
        · refine V_iload_n dX7_splitNumber_31 rfl (xm 3 rfl) ?_
          refine V_bipush dX7_splitNumber_32 (by decide) ?_
          refine V_imul dX7_splitNumber_34 ?_
          refine V_aload_n dX7_splitNumber_35 rfl (xm 0 rfl) ?_
          refine V_getR dX7_splitNumber_36 fl_X7_15 (sk_36 hS (by decide)) rfl ?_
          refine V_iload_n dX7_splitNumber_39 rfl (xm 2 rfl) ?_
          refine T_cald dX7_splitNumber_40 (sk_37 hS (by decide)) rfl h (fun r2 h => ?_)
          refine V_bipush dX7_splitNumber_41 (by decide) ?_
          refine V_isub dX7_splitNumber_43 ?_
          refine V_iadd dX7_splitNumber_44 ?_
          refine V_istore_n (ls' := [(3, vI ((v3 * 10) + (r2 - 48))), (0, vR (some 36)), (1, vI v1), (2, vI v2)]) dX7_splitNumber_45 rfl (by decide) rfl ?_
          refine V_iinc (ls' := [(2, vI (v2 + 1)), (3, vI ((v3 * 10) + (r2 - 48))), (0, vR (some 36)), (1, vI v1)]) dX7_splitNumber_46 (xm 3 rfl) (by decide) rfl ?_
          refine V_goto (tgt := 4) dX7_splitNumber_49 (by decide) ?_
          refine V.pick [2, 3, 0, 1] rfl ?_
          exact ih M v1 (v2 + 1) ((v3 * 10) + (r2 - 48)) h k
        · refine V_iinc (ls' := [(2, vI (v2 + 1)), (0, vR (some 36)), (1, vI v1), (3, vI v3)]) dX7_splitNumber_46 (xm 2 rfl) (by decide) rfl ?_
          refine V_goto (tgt := 4) dX7_splitNumber_49 (by decide) ?_
          refine V.pick [1, 2, 0, 3] rfl ?_
          exact ih M v1 (v2 + 1) v3 h k
      · cases h
        refine V.pick [0, 1, 2, 3] rfl ?_
        exact k
    · cases h
      refine V.pick [0, 1, 2, 3] rfl ?_
      exact k
theorem fX7_splitNumber_L4_ci {S : xS} {kp : Option Nat} (hS : xSk kp 38 S) {Q : Option xV → xS → xM → Prop} {n : Nat} {M : xM} {v1 : Int} {v2 : Int} {v3 : Int} {x2 : Int} {x3 : Int} (hl : fX7_splitNumber_L4 n M v1 v2 v3 = some (x2, x3)) (k : V Y_X7_splitNumber 1 0 0 52 [(0, vR (some 36)), (1, vI v1), (2, vI x2), (3, vI x3)] [] S M Q) : V Y_X7_splitNumber 1 0 0 4 [(0, vR (some 36)), (1, vI v1), (2, vI v2), (3, vI v3)] [] S M Q := fX7_splitNumber_L4_c hS _ _ _ _ _ hl k
def fX7_splitNumber (M : xM) (v1 : Int) : Option (Int × xM) := xb2 (fX7_splitNumber_L4 xfuel M v1 v1 0) fun y3 y4 => xj (fun (s6 : Int) => xb (fX7_addToken M s6 v1 y4) fun M9 => some (y3, M9)) fun j7 => (if wr 4 < wr (y3 - v1) then j7 24 else j7 12)
set_option maxRecDepth 20000 in
set_option maxHeartbeats 1000000 in
theorem fX7_splitNumber_c {S : xS} {kp : Option Nat} (hS : xSk kp 41 S) {M : xM} {v1 : Int} {E : Int × xM} (h : fX7_splitNumber M v1 = some E) :
    V Y_X7_splitNumber 1 0 0 0 (xarg 0 [vR (some 36), vI v1]) [] S M (xqR S E.2 (some (vI E.1))) := by
  unfold fX7_splitNumber at h
  show V Y_X7_splitNumber 1 0 0 0 [(0, vR (some 36)), (1, vI v1)] [] S M _
  refine V_iload_n dX7_splitNumber_0 rfl (xm 1 rfl) ?_
  refine V_istore_n (ls' := [(2, vI v1), (0, vR (some 36)), (1, vI v1)]) dX7_splitNumber_1 rfl (by decide) rfl ?_
  refine V_iconst dX7_splitNumber_2 ?_
  refine V_istore_n (ls' := [(3, vI 0), (2, vI v1), (0, vR (some 36)), (1, vI v1)]) dX7_splitNumber_3 rfl (by decide) rfl ?_
  refine xb2E h (fun y3 y4 h5 h => ?_)
  refine V.pick [2, 3, 1, 0] rfl ?_
  refine fX7_splitNumber_L4_ci (hS.le (by decide)) h5 ?_
  refine V_aload_n dX7_splitNumber_52 rfl (xm 0 rfl) ?_
  refine V_iload_n dX7_splitNumber_53 rfl (xm 2 rfl) ?_
  refine V_iload_n dX7_splitNumber_54 rfl (xm 1 rfl) ?_
  refine V_isub dX7_splitNumber_55 ?_
  refine V_iconst dX7_splitNumber_56 ?_
  refine xjE h (fun j7 hj7 h => ?_)
  have kj7 : ∀ (s6 : Int), j7 s6 = some E → V Y_X7_splitNumber 1 0 0 67 [(1, vI v1), (2, vI y3), (3, vI y4)] [vI s6, vR (some 36)] S M (xqR S E.2 (some (vI E.1))) := by
    intro s6 h
    rw [hj7] at h
    refine V_iload_n dX7_splitNumber_67 rfl (xm 0 rfl) ?_
    refine V_iload_n dX7_splitNumber_68 rfl (xm 2 rfl) ?_
    refine xbE h (fun M9 h8 h => ?_)
    refine T_callVv dX7_splitNumber_69 ok_X7_addToken (by exact ⟨by decide, rfl⟩) lk_X7_119.1 lk_X7_119.2 (sk_36 hS (by decide)) (hV := ((fX7_addToken_c (hS.le (by decide)) h8).mono (by decide) (Nat.le_refl _) (Nat.le_refl _))) rfl (Nat.le_of_ble_eq_true rfl) rfl (Nat.le_of_ble_eq_true rfl) ?_
    refine V_iload_n dX7_splitNumber_72 rfl (xm 1 rfl) ?_
    exact V_ireti dX7_splitNumber_73 rfl (q_wI h)
  refine V_icmp_gt (tgt := 65) dX7_splitNumber_57 (by decide) h (fun _ h => ?_) (fun _ h => ?_)
  · refine V_bipush dX7_splitNumber_65 (by decide) ?_
    refine V.pick [1, 2, 3] rfl ?_
    exact kj7 24 h
  · refine V_bipush dX7_splitNumber_60 (by decide) ?_
    refine V_goto (tgt := 67) dX7_splitNumber_62 (by decide) ?_
    refine V.pick [1, 2, 3] rfl ?_
    exact kj7 12 h
def fJ1_canEncode_9a6ad (v0 : Int) : Bool := (if wr v0 < 0 then false else (if wr 255 < wr v0 then false else true))
set_option maxRecDepth 20000 in
set_option maxHeartbeats 1000000 in
theorem fJ1_canEncode_9a6ad_c {S : xS} {kp : Option Nat} (hS : xSk kp 0 S) {M : xM} {v0 : Int} {E : Bool} (h : fJ1_canEncode_9a6ad v0 = E) :
    V Y_J1_canEncode_9a6ad 0 0 0 0 (xarg 0 [vI v0]) [] S M (xqR S M (some (vI (b2i E)))) := by
  unfold fJ1_canEncode_9a6ad at h
  show V Y_J1_canEncode_9a6ad 0 0 0 0 [(0, vI v0)] [] S M _
  refine V_iload_n dJ1_canEncode_9a6ad_0 rfl (xm 0 rfl) ?_
  refine V_if_lt (tgt := 15) dJ1_canEncode_9a6ad_1 (by decide) h (fun _ h => ?_) (fun _ h => ?_)
  · refine V_iconst dJ1_canEncode_9a6ad_15 ?_
    exact V_iretb (b := false) dJ1_canEncode_9a6ad_16 rfl (by decide) (q_tB h)
  · refine V_iload_n dJ1_canEncode_9a6ad_4 rfl (xm 0 rfl) ?_
    refine V_sipush dJ1_canEncode_9a6ad_5 (by decide) ?_
    refine V_icmp_gt (tgt := 15) dJ1_canEncode_9a6ad_8 (by decide) h (fun _ h => ?_) (fun _ h => ?_)
    · refine V_iconst dJ1_canEncode_9a6ad_15 ?_
      exact V_iretb (b := false) dJ1_canEncode_9a6ad_16 rfl (by decide) (q_tB h)
    · refine V_iconst dJ1_canEncode_9a6ad_11 ?_
      refine V_goto (tgt := 16) dJ1_canEncode_9a6ad_12 (by decide) ?_
      exact V_iretb (b := true) dJ1_canEncode_9a6ad_16 rfl (by decide) (q_tB h)
def fJ1_indexOfChar_4cfef_L7 (n : Nat) (M : xM) (k0 : Nat) (v3 : Int) (v4 : Int) (v5 : Int) : Option ((Unit) ⊕ (Int)) := match n with
  | 0 => none
  | n + 1 => (if wr v5 < wr v3 then (xby k0 v5 fun r1 => (if wr r1 = wr v4 then some (.inr v5) else fJ1_indexOfChar_4cfef_L7 n M k0 v3 v4 (v5 + 1))) else some (.inl ()))
set_option maxRecDepth 20000 in
set_option maxHeartbeats 1000000 in
theorem fJ1_indexOfChar_4cfef_L7_c {S : xS} {kp : Option Nat} (hS : xSk kp 0 S) {Q : Option xV → xS → xM → Prop} :
    ∀ (n : Nat) (M : xM) (k0 : Nat) (v3 : Int) (v4 : Int) (v5 : Int) {E : (Unit) ⊕ (Int)}, k0 < 14 → fJ1_indexOfChar_4cfef_L7 n M k0 v3 v4 v5 = some E → (E = .inl () → V Y_J1_indexOfChar_4cfef 0 0 0 31 [] [] S M Q) → (∀ (w : Int), E = .inr w → Q (some (vI w)) S M) → V Y_J1_indexOfChar_4cfef 0 0 0 7 [(0, vS (30 + k0)), (3, vI v3), (4, vI v4), (5, vI v5)] [] S M Q := by
  intro n
  induction n with
  | zero =>
    intro M k0 v3 v4 v5 E hk0 h k kr
    cases h
  | succ n ih =>
    intro M k0 v3 v4 v5 E hk0 h k kr
    rw [fJ1_indexOfChar_4cfef_L7] at h
    refine V_iload dJ1_indexOfChar_4cfef_7 (xm 3 rfl) ?_
    refine V_iload_n dJ1_indexOfChar_4cfef_9 rfl (xm 1 rfl) ?_
    refine V_icmp_ge (tgt := 31) dJ1_indexOfChar_4cfef_10 (by decide) h (fun _ h => ?_) (fun _ h => ?_)
    · refine V_aload_nS dJ1_indexOfChar_4cfef_13 rfl (xm 0 rfl) ?_
      refine V_iload dJ1_indexOfChar_4cfef_14 (xm 3 rfl) ?_
      refine T_bald (k := k0) dJ1_indexOfChar_4cfef_16 hk0 h (fun r1 h => ?_)
      refine V_iload dJ1_indexOfChar_4cfef_17 (xm 2 rfl) ?_
      refine V_icmp_ne (tgt := 25) dJ1_indexOfChar_4cfef_19 (by decide) h (fun _ h => ?_) (fun _ h => ?_)
      · refine V_iload dJ1_indexOfChar_4cfef_22 (xm 3 rfl) ?_
        exact V_ireti dJ1_indexOfChar_4cfef_24 rfl (kr v5 (Option.some.inj h).symm)
      · refine V_iinc (ls' := [(5, vI (v5 + 1)), (0, vS (30 + k0)), (3, vI v3), (4, vI v4)]) dJ1_indexOfChar_4cfef_25 (xm 3 rfl) (by decide) rfl ?_
        refine V_goto (tgt := 7) dJ1_indexOfChar_4cfef_28 (by decide) ?_
        refine V.pick [1, 2, 3, 0] rfl ?_
        exact ih M k0 v3 v4 (v5 + 1) hk0 h k kr
    · refine V.pick [] rfl ?_
      exact k  (Option.some.inj h).symm
theorem fJ1_indexOfChar_4cfef_L7_ci {S : xS} {kp : Option Nat} (hS : xSk kp 0 S) {Q : Option xV → xS → xM → Prop} {n : Nat} {M : xM} {k0 : Nat} {v3 : Int} {v4 : Int} {v5 : Int} (hk0 : k0 < 14) (hl : fJ1_indexOfChar_4cfef_L7 n M k0 v3 v4 v5 = some (.inl ())) (k : V Y_J1_indexOfChar_4cfef 0 0 0 31 [] [] S M Q) : V Y_J1_indexOfChar_4cfef 0 0 0 7 [(0, vS (30 + k0)), (3, vI v3), (4, vI v4), (5, vI v5)] [] S M Q := fJ1_indexOfChar_4cfef_L7_c hS _ _ _ _ _ _ hk0 hl (fun  e => by cases e; exact k) (fun _ e => by cases e)
theorem fJ1_indexOfChar_4cfef_L7_cr {S : xS} {kp : Option Nat} (hS : xSk kp 0 S) {Q : Option xV → xS → xM → Prop} {n : Nat} {M : xM} {k0 : Nat} {v3 : Int} {v4 : Int} {v5 : Int} {w : Int} (hk0 : k0 < 14) (hl : fJ1_indexOfChar_4cfef_L7 n M k0 v3 v4 v5 = some (.inr w)) (k : Q (some (vI w)) S M) : V Y_J1_indexOfChar_4cfef 0 0 0 7 [(0, vS (30 + k0)), (3, vI v3), (4, vI v4), (5, vI v5)] [] S M Q := fJ1_indexOfChar_4cfef_L7_c hS _ _ _ _ _ _ hk0 hl (fun  e => by cases e) (fun _ e => by cases e; exact k)
def fJ1_indexOfChar_4cfef (M : xM) (k0 : Nat) (v1 : Int) (v2 : Int) (v3 : Int) : Option Int := xs0 (fJ1_indexOfChar_4cfef_L7 xfuel M k0 v3 (xi2b v1) v2) (some ((-1))) (fun r => some r)
set_option maxRecDepth 20000 in
set_option maxHeartbeats 1000000 in
theorem fJ1_indexOfChar_4cfef_c {S : xS} {kp : Option Nat} (hS : xSk kp 0 S) {M : xM} {k0 : Nat} {v1 : Int} {v2 : Int} {v3 : Int} (hk0 : k0 < 14) {E : Int} (h : fJ1_indexOfChar_4cfef M k0 v1 v2 v3 = some E) :
    V Y_J1_indexOfChar_4cfef 0 0 0 0 (xarg 0 [vS (30 + k0), vI v1, vI v2, vI v3]) [] S M (xqR S M (some (vI E))) := by
  unfold fJ1_indexOfChar_4cfef at h
  show V Y_J1_indexOfChar_4cfef 0 0 0 0 [(0, vS (30 + k0)), (1, vI v1), (2, vI v2), (3, vI v3)] [] S M _
  refine V_iload_n dJ1_indexOfChar_4cfef_0 rfl (xm 1 rfl) ?_
  refine V_i2b dJ1_indexOfChar_4cfef_1 ?_
  refine V_istore (ls' := [(4, vI (xi2b v1)), (0, vS (30 + k0)), (1, vI v1), (2, vI v2), (3, vI v3)]) dJ1_indexOfChar_4cfef_2 (by decide) rfl ?_
  refine V_iload_n dJ1_indexOfChar_4cfef_4 rfl (xm 3 rfl) ?_
  refine V_istore (ls' := [(5, vI v2), (4, vI (xi2b v1)), (0, vS (30 + k0)), (1, vI v1), (2, vI v2), (3, vI v3)]) dJ1_indexOfChar_4cfef_5 (by decide) rfl ?_
  refine xs0E h (fun  h2 h => ?_) (fun r h2 h => ?_)
  · refine V.pick [2, 5, 1, 0] rfl ?_
    refine fJ1_indexOfChar_4cfef_L7_ci (hS.le (by decide)) hk0 h2 ?_
    refine V_iconst dJ1_indexOfChar_4cfef_31 ?_
    exact V_ireti dJ1_indexOfChar_4cfef_32 rfl (q_pI h)
  · refine V.pick [2, 5, 1, 0] rfl ?_
    refine fJ1_indexOfChar_4cfef_L7_cr (hS.le (by decide)) hk0 h2 ?_
    exact q_pI h
def fJ1_indexOf_4cfef (M : xM) (k0 : Nat) (v1 : Int) (v2 : Int) (v3 : Int) : Option Int := (if (fJ1_canEncode_9a6ad v1) = true then (if wr (xmax v2 0) < wr (xmin v3 (xln k0)) then (xb (fJ1_indexOfChar_4cfef M k0 v1 (xmax v2 0) (xmin v3 (xln k0))) fun r2 => some r2) else some ((-1))) else some ((-1)))
set_option maxRecDepth 20000 in
set_option maxHeartbeats 1000000 in
theorem fJ1_indexOf_4cfef_c {S : xS} {kp : Option Nat} (hS : xSk kp 0 S) {M : xM} {k0 : Nat} {v1 : Int} {v2 : Int} {v3 : Int} (hk0 : k0 < 14) {E : Int} (h : fJ1_indexOf_4cfef M k0 v1 v2 v3 = some E) :
    V Y_J1_indexOf_4cfef 1 0 0 0 (xarg 0 [vS (30 + k0), vI v1, vI v2, vI v3]) [] S M (xqR S M (some (vI E))) := by
  unfold fJ1_indexOf_4cfef at h
  show V Y_J1_indexOf_4cfef 1 0 0 0 [(0, vS (30 + k0)), (1, vI v1), (2, vI v2), (3, vI v3)] [] S M _
  refine V_iload_n dJ1_indexOf_4cfef_0 rfl (xm 1 rfl) ?_
  refine T_callSI (host := "") dJ1_indexOf_4cfef_1 ok_J1_canEncode_9a6ad lk_J1_88.1 lk_J1_88.2 (hV := ((fJ1_canEncode_9a6ad_c (hS.le (by decide)) rfl).mono (by decide) (Nat.le_refl _) (Nat.le_refl _))) rfl (Nat.le_of_ble_eq_true rfl) rfl (Nat.le_of_ble_eq_true rfl) ?_
  refine V_if_neB (tgt := 9) dJ1_indexOf_4cfef_4 (by decide) h (fun _ h => ?_) (fun _ h => ?_)
  · refine V_iload_n dJ1_indexOf_4cfef_9 rfl (xm 2 rfl) ?_
    refine V_iconst dJ1_indexOf_4cfef_10 ?_
    refine V_mmax dJ1_indexOf_4cfef_11 mt_J1_92 (by decide) (Nat.le_of_ble_eq_true rfl) ?_
    refine V_istore_n (ls' := [(2, vI (xmax v2 0)), (0, vS (30 + k0)), (1, vI v1), (3, vI v3)]) dJ1_indexOf_4cfef_14 rfl (by decide) rfl ?_
    refine V_iload_n dJ1_indexOf_4cfef_15 rfl (xm 3 rfl) ?_
    refine V_aload_nS dJ1_indexOf_4cfef_16 rfl (xm 1 rfl) ?_
    refine V_blen (k := k0) dJ1_indexOf_4cfef_17 hk0 ?_
    refine V_mmin dJ1_indexOf_4cfef_18 mt_J1_38 (by decide) (Nat.le_of_ble_eq_true rfl) ?_
    refine V_istore_n (ls' := [(3, vI (xmin v3 (xln k0))), (2, vI (xmax v2 0)), (0, vS (30 + k0)), (1, vI v1)]) dJ1_indexOf_4cfef_21 rfl (by decide) rfl ?_
    refine V_iload_n dJ1_indexOf_4cfef_22 rfl (xm 1 rfl) ?_
    refine V_iload_n dJ1_indexOf_4cfef_23 rfl (xm 0 rfl) ?_
    refine V_icmp_lt (tgt := 29) dJ1_indexOf_4cfef_24 (by decide) h (fun _ h => ?_) (fun _ h => ?_)
    · refine V_aload_nS dJ1_indexOf_4cfef_29 rfl (xm 2 rfl) ?_
      refine V_iload_n dJ1_indexOf_4cfef_30 rfl (xm 3 rfl) ?_
      refine V_iload_n dJ1_indexOf_4cfef_31 rfl (xm 1 rfl) ?_
      refine V_iload_n dJ1_indexOf_4cfef_32 rfl (xm 0 rfl) ?_
      refine xbE h (fun r2 h1 h => ?_)
      refine T_callSI (host := "") dJ1_indexOf_4cfef_33 ok_J1_indexOfChar_4cfef lk_J1_95.1 lk_J1_95.2 (hV := ((fJ1_indexOfChar_4cfef_c (hS.le (by decide)) hk0 h1).mono (by decide) (Nat.le_refl _) (Nat.le_refl _))) rfl (Nat.le_of_ble_eq_true rfl) rfl (Nat.le_of_ble_eq_true rfl) ?_
      exact V_ireti dJ1_indexOf_4cfef_36 rfl (q_pI h)
    · refine V_iconst dJ1_indexOf_4cfef_27 ?_
      exact V_ireti dJ1_indexOf_4cfef_28 rfl (q_pI h)
  · refine V_iconst dJ1_indexOf_4cfef_7 ?_
    exact V_ireti dJ1_indexOf_4cfef_8 rfl (q_pI h)
def fJ0_indexOf_7cf53 (M : xM) (k0 : Nat) (v1 : Int) (v2 : Int) : Option Int := (if (fJ0_isLatin1_aae02 k0) = true then (xb (fJ1_indexOf_4cfef M k0 v1 v2 (fJ0_length_8abf5 k0)) fun r2 => some r2) else none)
set_option maxRecDepth 20000 in
set_option maxHeartbeats 1000000 in
theorem fJ0_indexOf_7cf53_c {S : xS} {kp : Option Nat} (hS : xSk kp 0 S) {M : xM} {k0 : Nat} {v1 : Int} {v2 : Int} (hk0 : k0 < 14) {E : Int} (h : fJ0_indexOf_7cf53 M k0 v1 v2 = some E) :
    V Y_J0_indexOf_7cf53 2 0 0 0 (xarg 0 [vS (10 + k0), vI v1, vI v2]) [] S M (xqR S M (some (vI E))) := by
  unfold fJ0_indexOf_7cf53 at h
  show V Y_J0_indexOf_7cf53 2 0 0 0 [(0, vS (10 + k0)), (1, vI v1), (2, vI v2)] [] S M _
  refine V_aload_nS dJ0_indexOf_7cf53_0 rfl (xm 0 rfl) ?_
  refine T_callVSI (k := k0) dJ0_indexOf_7cf53_1 ok_J0_isLatin1_aae02 lk_J0_492.1 lk_J0_492.2 hk0 (hV := ((fJ0_isLatin1_aae02_c (hS.le (by decide)) hk0 rfl).mono (by decide) (Nat.le_refl _) (Nat.le_refl _))) rfl rfl (Nat.le_of_ble_eq_true rfl) rfl (Nat.le_of_ble_eq_true rfl) ?_
  refine V_if_eqB (tgt := 23) dJ0_indexOf_7cf53_4 (by decide) h (fun _ h => ?_) (fun _ h => ?_)
  · refine V_aload_nS dJ0_indexOf_7cf53_7 rfl (xm 0 rfl) ?_
    refine V_sgetV (k := k0) dJ0_indexOf_7cf53_8 hk0 (xsg7 161 rfl rfl) ?_
    refine V_iload_n dJ0_indexOf_7cf53_11 rfl (xm 1 rfl) ?_
    refine V_iload_n dJ0_indexOf_7cf53_12 rfl (xm 2 rfl) ?_
    refine V_aload_nS dJ0_indexOf_7cf53_13 rfl (xm 0 rfl) ?_
    refine T_callVSI (k := k0) dJ0_indexOf_7cf53_14 ok_J0_length_8abf5 lk_J0_505.1 lk_J0_505.2 hk0 (hV := ((fJ0_length_8abf5_c (hS.le (by decide)) hk0 rfl).mono (by decide) (Nat.le_refl _) (Nat.le_refl _))) rfl rfl (Nat.le_of_ble_eq_true rfl) rfl (Nat.le_of_ble_eq_true rfl) ?_
    refine xbE h (fun r2 h1 h => ?_)
    refine T_callSI (host := "") dJ0_indexOf_7cf53_17 ok_J1_indexOf_4cfef lk_J0_637.1 lk_J0_637.2 (hV := ((fJ1_indexOf_4cfef_c (hS.le (by decide)) hk0 h1).mono (by decide) (Nat.le_refl _) (Nat.le_refl _))) rfl (Nat.le_of_ble_eq_true rfl) rfl (Nat.le_of_ble_eq_true rfl) ?_
    refine V_goto (tgt := 36) dJ0_indexOf_7cf53_20 (by decide) ?_
    exact V_ireti dJ0_indexOf_7cf53_36 rfl (q_pI h)
  · refine V_aload_nS dJ0_indexOf_7cf53_23 rfl (xm 0 rfl) ?_
    refine V_sgetV (k := k0) dJ0_indexOf_7cf53_24 hk0 (xsg7 161 rfl rfl) ?_
    refine V_iload_n dJ0_indexOf_7cf53_27 rfl (xm 1 rfl) ?_
    refine V_iload_n dJ0_indexOf_7cf53_28 rfl (xm 2 rfl) ?_
    refine V_aload_nS dJ0_indexOf_7cf53_29 rfl (xm 0 rfl) ?_
    refine T_callVSI (k := k0) dJ0_indexOf_7cf53_30 ok_J0_length_8abf5 lk_J0_505.1 lk_J0_505.2 hk0 (hV := ((fJ0_length_8abf5_c (hS.le (by decide)) hk0 rfl).mono (by decide) (Nat.le_refl _) (Nat.le_refl _))) rfl rfl (Nat.le_of_ble_eq_true rfl) rfl (Nat.le_of_ble_eq_true rfl) ?_
    cases h
def fJ0_indexOf_0f7a4 (M : xM) (k0 : Nat) (v1 : Int) : Option Int := xb (fJ0_indexOf_7cf53 M k0 v1 0) fun r2 => some r2
set_option maxRecDepth 20000 in
set_option maxHeartbeats 1000000 in
theorem fJ0_indexOf_0f7a4_c {S : xS} {kp : Option Nat} (hS : xSk kp 0 S) {M : xM} {k0 : Nat} {v1 : Int} (hk0 : k0 < 14) {E : Int} (h : fJ0_indexOf_0f7a4 M k0 v1 = some E) :
    V Y_J0_indexOf_0f7a4 3 0 0 0 (xarg 0 [vS (10 + k0), vI v1]) [] S M (xqR S M (some (vI E))) := by
  unfold fJ0_indexOf_0f7a4 at h
  show V Y_J0_indexOf_0f7a4 3 0 0 0 [(0, vS (10 + k0)), (1, vI v1)] [] S M _
  refine V_aload_nS dJ0_indexOf_0f7a4_0 rfl (xm 0 rfl) ?_
  refine V_iload_n dJ0_indexOf_0f7a4_1 rfl (xm 1 rfl) ?_
  refine V_iconst dJ0_indexOf_0f7a4_2 ?_
  refine xbE h (fun r2 h1 h => ?_)
  refine T_callVSI (k := k0) dJ0_indexOf_0f7a4_3 ok_J0_indexOf_7cf53 lk_J0_633.1 lk_J0_633.2 hk0 (hV := ((fJ0_indexOf_7cf53_c (hS.le (by decide)) hk0 h1).mono (by decide) (Nat.le_refl _) (Nat.le_refl _))) rfl rfl (Nat.le_of_ble_eq_true rfl) rfl (Nat.le_of_ble_eq_true rfl) ?_
  exact V_ireti dJ0_indexOf_0f7a4_6 rfl (q_pI h)
def fX7_splitTokens_L9 (n : Nat) (M : xM) (v1 : Int) (v2 : Int) : Option (xM) := match n with
  | 0 => none
  | n + 1 => (if wr v2 < wr 400 then (if wr v1 < wr (M 36 0) then (xrd M 37 400 v1 fun r2 => (if wr r2 = wr 32 then fX7_splitTokens_L9 n M (v1 + 1) (v2 + 1) else (if wr r2 = wr 10 then fX7_splitTokens_L9 n M (v1 + 1) (v2 + 1) else (if (fX7_isLetter r2) = true then (xb2 (fX7_splitWord M v1) fun r4 M5 => fX7_splitTokens_L9 n M5 r4 (v2 + 1)) else (if (fX7_isDigit r2) = true then (xb2 (fX7_splitNumber M v1) fun r7 M8 => fX7_splitTokens_L9 n M8 r7 (v2 + 1)) else (xb (fJ0_indexOf_0f7a4 M 1 r2) fun r10 => xj (fun (s11 : Int) => xb (fX7_addToken M s11 v1 0) fun M14 => fX7_splitTokens_L9 n M14 (v1 + 1) (v2 + 1)) fun j12 => (if wr r10 < 0 then j12 24 else j12 (13 + r10)))))))) else some M) else some M)
set_option maxRecDepth 20000 in
set_option maxHeartbeats 1000000 in
theorem fX7_splitTokens_L9_c {S : xS} {kp : Option Nat} (hS : xSk kp 41 S) {Q : Option xV → xS → xM → Prop} :
    ∀ (n : Nat) (M : xM) (v1 : Int) (v2 : Int) {Mz : xM}, fX7_splitTokens_L9 n M v1 v2 = some Mz → V Y_X7_splitTokens 7 0 0 119 [(0, vR (some 36))] [] S Mz Q → V Y_X7_splitTokens 7 0 0 9 [(0, vR (some 36)), (1, vI v1), (2, vI v2)] [] S M Q := by
  intro n
  induction n with
  | zero =>
    intro M v1 v2 Mz h k
    cases h
  | succ n ih =>
    intro M v1 v2 Mz h k
    rw [fX7_splitTokens_L9] at h
    refine V_iload_n dX7_splitTokens_9 rfl (xm 2 rfl) ?_
    refine V_sipush dX7_splitTokens_10 (by decide) ?_
    refine V_icmp_ge (tgt := 119) dX7_splitTokens_13 (by decide) h (fun _ h => ?_) (fun _ h => ?_)
    · refine V_iload_n dX7_splitTokens_16 rfl (xm 1 rfl) ?_
      refine V_aload_n dX7_splitTokens_17 rfl (xm 0 rfl) ?_
      refine V_getI (kI := 0) dX7_splitTokens_18 fl_X7_36 (sk_36 hS (by decide)) rfl rfl ?_
      refine V_icmp_ge (tgt := 119) dX7_splitTokens_21 (by decide) h (fun _ h => ?_) (fun _ h => ?_)
      · refine V_aload_n dX7_splitTokens_24 rfl (xm 0 rfl) ?_
        refine V_getR dX7_splitTokens_25 fl_X7_15 (sk_36 hS (by decide)) rfl ?_
        refine V_iload_n dX7_splitTokens_28 rfl (xm 1 rfl) ?_
        refine T_cald dX7_splitTokens_29 (sk_37 hS (by decide)) rfl h (fun r2 h => ?_)
        refine V_istore_n (ls' := [(3, vI r2), (0, vR (some 36)), (1, vI v1), (2, vI v2)]) dX7_splitTokens_30 rfl (by decide) rfl ?_
        refine V_iload_n dX7_splitTokens_31 rfl (xm 0 rfl) ?_
        refine V_bipush dX7_splitTokens_32 (by decide) ?_
        refine V_icmp_eq (tgt := 43) dX7_splitTokens_34 (by decide) h (fun _ h => ?_) (fun _ h => ?_)
        · refine V_iinc (ls' := [(1, vI (v1 + 1)), (3, vI r2), (0, vR (some 36)), (2, vI v2)]) dX7_splitTokens_43 (xm 2 rfl) (by decide) rfl ?_
          refine V_goto (tgt := 113) dX7_splitTokens_46 (by decide) ?_
          refine V_iinc (ls' := [(2, vI (v2 + 1)), (1, vI (v1 + 1)), (3, vI r2), (0, vR (some 36))]) dX7_splitTokens_113 (xm 3 rfl) (by decide) rfl ?_
          refine V_goto (tgt := 9) dX7_splitTokens_116 (by decide) ?_
          refine V.pick [3, 1, 0] rfl ?_
          exact ih M (v1 + 1) (v2 + 1) h k
        · refine V_iload_n dX7_splitTokens_37 rfl (xm 0 rfl) ?_
          refine V_bipush dX7_splitTokens_38 (by decide) ?_
          refine V_icmp_ne (tgt := 49) dX7_splitTokens_40 (by decide) h (fun _ h => ?_) (fun _ h => ?_)
          · refine V_iinc (ls' := [(1, vI (v1 + 1)), (3, vI r2), (0, vR (some 36)), (2, vI v2)]) dX7_splitTokens_43 (xm 2 rfl) (by decide) rfl ?_
            refine V_goto (tgt := 113) dX7_splitTokens_46 (by decide) ?_
            refine V_iinc (ls' := [(2, vI (v2 + 1)), (1, vI (v1 + 1)), (3, vI r2), (0, vR (some 36))]) dX7_splitTokens_113 (xm 3 rfl) (by decide) rfl ?_
            refine V_goto (tgt := 9) dX7_splitTokens_116 (by decide) ?_
            refine V.pick [3, 1, 0] rfl ?_
            exact ih M (v1 + 1) (v2 + 1) h k
          · refine V_iload_n dX7_splitTokens_49 rfl (xm 0 rfl) ?_
            refine T_callSI (host := "") dX7_splitTokens_50 ok_X7_isLetter lk_X7_98.1 lk_X7_98.2 (hV := ((fX7_isLetter_c (hS.le (by decide)) rfl).mono (by decide) (Nat.le_refl _) (Nat.le_refl _))) rfl (Nat.le_of_ble_eq_true rfl) rfl (Nat.le_of_ble_eq_true rfl) ?_
            refine V_if_eqB (tgt := 65) dX7_splitTokens_53 (by decide) h (fun _ h => ?_) (fun _ h => ?_)
            · refine V_aload_n dX7_splitTokens_56 rfl (xm 1 rfl) ?_
              refine V_iload_n dX7_splitTokens_57 rfl (xm 2 rfl) ?_
              refine xb2E h (fun r4 M5 h3 h => ?_)
              refine T_callVI dX7_splitTokens_58 ok_X7_splitWord (by exact ⟨by decide, rfl⟩) lk_X7_102.1 lk_X7_102.2 (sk_36 hS (by decide)) (hV := ((fX7_splitWord_c (hS.le (by decide)) h3).mono (by decide) (Nat.le_refl _) (Nat.le_refl _))) rfl (Nat.le_of_ble_eq_true rfl) rfl (Nat.le_of_ble_eq_true rfl) ?_
              refine V_istore_n (ls' := [(1, vI r4), (3, vI r2), (0, vR (some 36)), (2, vI v2)]) dX7_splitTokens_61 rfl (by decide) rfl ?_
              refine V_goto (tgt := 113) dX7_splitTokens_62 (by decide) ?_
              refine V_iinc (ls' := [(2, vI (v2 + 1)), (1, vI r4), (3, vI r2), (0, vR (some 36))]) dX7_splitTokens_113 (xm 3 rfl) (by decide) rfl ?_
              refine V_goto (tgt := 9) dX7_splitTokens_116 (by decide) ?_
              refine V.pick [3, 1, 0] rfl ?_
              exact ih M5 r4 (v2 + 1) h k
            · refine V_iload_n dX7_splitTokens_65 rfl (xm 0 rfl) ?_
              refine T_callSI (host := "") dX7_splitTokens_66 ok_X7_isDigit lk_X7_106.1 lk_X7_106.2 (hV := ((fX7_isDigit_c (hS.le (by decide)) rfl).mono (by decide) (Nat.le_refl _) (Nat.le_refl _))) rfl (Nat.le_of_ble_eq_true rfl) rfl (Nat.le_of_ble_eq_true rfl) ?_
              refine V_if_eqB (tgt := 81) dX7_splitTokens_69 (by decide) h (fun _ h => ?_) (fun _ h => ?_)
              · refine V_aload_n dX7_splitTokens_72 rfl (xm 1 rfl) ?_
                refine V_iload_n dX7_splitTokens_73 rfl (xm 2 rfl) ?_
                refine xb2E h (fun r7 M8 h6 h => ?_)
                refine T_callVI dX7_splitTokens_74 ok_X7_splitNumber (by exact ⟨by decide, rfl⟩) lk_X7_109.1 lk_X7_109.2 (sk_36 hS (by decide)) (hV := ((fX7_splitNumber_c (hS.le (by decide)) h6).mono (by decide) (Nat.le_refl _) (Nat.le_refl _))) rfl (Nat.le_of_ble_eq_true rfl) rfl (Nat.le_of_ble_eq_true rfl) ?_
                refine V_istore_n (ls' := [(1, vI r7), (3, vI r2), (0, vR (some 36)), (2, vI v2)]) dX7_splitTokens_77 rfl (by decide) rfl ?_
                refine V_goto (tgt := 113) dX7_splitTokens_78 (by decide) ?_
                refine V_iinc (ls' := [(2, vI (v2 + 1)), (1, vI r7), (3, vI r2), (0, vR (some 36))]) dX7_splitTokens_113 (xm 3 rfl) (by decide) rfl ?_
                refine V_goto (tgt := 9) dX7_splitTokens_116 (by decide) ?_
                refine V.pick [3, 1, 0] rfl ?_
                exact ih M8 r7 (v2 + 1) h k
              · refine V_ldcS (tx := ";+-*/()<=>") (k := 1) dX7_splitTokens_81 (by decide +kernel) ?_
                refine V_iload_n dX7_splitTokens_83 rfl (xm 0 rfl) ?_
                refine xbE h (fun r10 h9 h => ?_)
                refine T_callVSI (k := 1) dX7_splitTokens_84 ok_J0_indexOf_0f7a4 lk_X7_114.1 lk_X7_114.2 (by decide) (hV := ((fJ0_indexOf_0f7a4_c (hS.le (by decide)) (by decide) h9).mono (by decide) (Nat.le_refl _) (Nat.le_refl _))) rfl rfl (Nat.le_of_ble_eq_true rfl) rfl (Nat.le_of_ble_eq_true rfl) ?_
                refine V_istore (ls' := [(4, vI r10), (3, vI r2), (0, vR (some 36)), (1, vI v1), (2, vI v2)]) dX7_splitTokens_87 (by decide) rfl ?_
                refine V_aload_n dX7_splitTokens_89 rfl (xm 2 rfl) ?_
                refine V_iload dX7_splitTokens_90 (xm 0 rfl) ?_
                refine xjE h (fun j12 hj12 h => ?_)
                have kj12 : ∀ (s11 : Int), j12 s11 = some Mz → V Y_X7_splitTokens 7 0 0 105 [(0, vR (some 36)), (1, vI v1), (2, vI v2)] [vI s11, vR (some 36)] S M Q := by
                  intro s11 h
                  rw [hj12] at h
                  refine V_iload_n dX7_splitTokens_105 rfl (xm 1 rfl) ?_
                  refine V_iconst dX7_splitTokens_106 ?_
                  refine xbE h (fun M14 h13 h => ?_)
                  refine T_callVv dX7_splitTokens_107 ok_X7_addToken (by exact ⟨by decide, rfl⟩) lk_X7_119.1 lk_X7_119.2 (sk_36 hS (by decide)) (hV := ((fX7_addToken_c (hS.le (by decide)) h13).mono (by decide) (Nat.le_refl _) (Nat.le_refl _))) rfl (Nat.le_of_ble_eq_true rfl) rfl (Nat.le_of_ble_eq_true rfl) ?_
                  refine V_iinc (ls' := [(1, vI (v1 + 1)), (0, vR (some 36)), (2, vI v2)]) dX7_splitTokens_110 (xm 1 rfl) (by decide) rfl ?_
                  refine V_iinc (ls' := [(2, vI (v2 + 1)), (1, vI (v1 + 1)), (0, vR (some 36))]) dX7_splitTokens_113 (xm 2 rfl) (by decide) rfl ?_
                  refine V_goto (tgt := 9) dX7_splitTokens_116 (by decide) ?_
                  refine V.pick [2, 1, 0] rfl ?_
                  exact ih M14 (v1 + 1) (v2 + 1) h k
                refine V_if_lt (tgt := 103) dX7_splitTokens_92 (by decide) h (fun _ h => ?_) (fun _ h => ?_)
                · refine V_bipush dX7_splitTokens_103 (by decide) ?_
                  refine V.pick [2, 3, 4] rfl ?_
                  exact kj12 24 h
                · refine V_bipush dX7_splitTokens_95 (by decide) ?_
                  refine V_iload dX7_splitTokens_97 (xm 0 rfl) ?_
                  refine V_iadd dX7_splitTokens_99 ?_
                  refine V_goto (tgt := 105) dX7_splitTokens_100 (by decide) ?_
                  refine V.pick [2, 3, 4] rfl ?_
                  exact kj12 (13 + r10) h
      · cases h
        refine V.pick [0] rfl ?_
        exact k
    · cases h
      refine V.pick [0] rfl ?_
      exact k
theorem fX7_splitTokens_L9_ci {S : xS} {kp : Option Nat} (hS : xSk kp 41 S) {Q : Option xV → xS → xM → Prop} {n : Nat} {M : xM} {v1 : Int} {v2 : Int} {Mz : xM} (hl : fX7_splitTokens_L9 n M v1 v2 = some Mz) (k : V Y_X7_splitTokens 7 0 0 119 [(0, vR (some 36))] [] S Mz Q) : V Y_X7_splitTokens 7 0 0 9 [(0, vR (some 36)), (1, vI v1), (2, vI v2)] [] S M Q := fX7_splitTokens_L9_c hS _ _ _ _ hl k
def fX7_splitTokens (M : xM)  : Option xM := xlet (xup M 36 7 0) fun M1 => xb (fX7_splitTokens_L9 xfuel M1 0 0) fun M15 => xb (fX7_addToken M15 23 (M15 36 0) 0) fun M18 => some M18
set_option maxRecDepth 20000 in
set_option maxHeartbeats 1000000 in
theorem fX7_splitTokens_c {S : xS} {kp : Option Nat} (hS : xSk kp 41 S) {M : xM} {E : xM} (h : fX7_splitTokens M = some E) :
    V Y_X7_splitTokens 7 0 0 0 (xarg 0 [vR (some 36)]) [] S M (xqR S E none) := by
  unfold fX7_splitTokens at h
  show V Y_X7_splitTokens 7 0 0 0 [(0, vR (some 36))] [] S M _
  refine V_aload_n dX7_splitTokens_0 rfl (xm 0 rfl) ?_
  refine V_iconst dX7_splitTokens_1 ?_
  refine T_putI (kI := 7) dX7_splitTokens_2 fp_X7_95 (sk_36 hS (by decide)) rfl rfl h (fun M1 h => ?_)
  refine V_iconst dX7_splitTokens_5 ?_
  refine V_istore_n (ls' := [(1, vI 0), (0, vR (some 36))]) dX7_splitTokens_6 rfl (by decide) rfl ?_
  refine V_iconst dX7_splitTokens_7 ?_
  refine V_istore_n (ls' := [(2, vI 0), (1, vI 0), (0, vR (some 36))]) dX7_splitTokens_8 rfl (by decide) rfl ?_
  refine xbE h (fun M15 h16 h => ?_)
  refine V.pick [2, 1, 0] rfl ?_
  refine fX7_splitTokens_L9_ci (hS.le (by decide)) h16 ?_
  refine V_aload_n dX7_splitTokens_119 rfl (xm 0 rfl) ?_
  refine V_bipush dX7_splitTokens_120 (by decide) ?_
  refine V_aload_n dX7_splitTokens_122 rfl (xm 0 rfl) ?_
  refine V_getI (kI := 0) dX7_splitTokens_123 fl_X7_36 (sk_36 hS (by decide)) rfl rfl ?_
  refine V_iconst dX7_splitTokens_126 ?_
  refine xbE h (fun M18 h17 h => ?_)
  refine T_callVv dX7_splitTokens_127 ok_X7_addToken (by exact ⟨by decide, rfl⟩) lk_X7_119.1 lk_X7_119.2 (sk_36 hS (by decide)) (hV := ((fX7_addToken_c (hS.le (by decide)) h17).mono (by decide) (Nat.le_refl _) (Nat.le_refl _))) rfl (Nat.le_of_ble_eq_true rfl) rfl (Nat.le_of_ble_eq_true rfl) ?_
  exact V_ret dX7_splitTokens_130 rfl (q_v h)
def fX7_leaveUnread (M : xM)  : Option xM := xlet (xup M 36 1 0) fun M1 => xlet (xup M1 36 2 ((-1))) fun M2 => xlet (xup M2 36 0 0) fun M3 => some M3
set_option maxRecDepth 20000 in
set_option maxHeartbeats 1000000 in
theorem fX7_leaveUnread_c {S : xS} {kp : Option Nat} (hS : xSk kp 37 S) {M : xM} {E : xM} (h : fX7_leaveUnread M = some E) :
    V Y_X7_leaveUnread 0 0 0 0 (xarg 0 [vR (some 36)]) [] S M (xqR S E none) := by
  unfold fX7_leaveUnread at h
  show V Y_X7_leaveUnread 0 0 0 0 [(0, vR (some 36))] [] S M _
  refine V_aload_n dX7_leaveUnread_0 rfl (xm 0 rfl) ?_
  refine V_iconst dX7_leaveUnread_1 ?_
  refine T_putI (kI := 1) dX7_leaveUnread_2 fp_X7_39 (sk_36 hS (by decide)) rfl rfl h (fun M1 h => ?_)
  refine V_aload_n dX7_leaveUnread_5 rfl (xm 0 rfl) ?_
  refine V_iconst dX7_leaveUnread_6 ?_
  refine T_putI (kI := 2) dX7_leaveUnread_7 fp_X7_9 (sk_36 hS (by decide)) rfl rfl h (fun M2 h => ?_)
  refine V_aload_n dX7_leaveUnread_10 rfl (xm 0 rfl) ?_
  refine V_iconst dX7_leaveUnread_11 ?_
  refine T_putI (kI := 0) dX7_leaveUnread_12 fp_X7_36 (sk_36 hS (by decide)) rfl rfl h (fun M3 h => ?_)
  exact V_ret dX7_leaveUnread_15 rfl (q_v h)
def fX9_clear_i2 (M : xM)  : Option xM := xlet (xup M 41 0 0) fun M1 => xlet (xup M1 41 1 0) fun M2 => xlet (xup M2 41 2 0) fun M3 => some M3
set_option maxRecDepth 20000 in
set_option maxHeartbeats 1000000 in
theorem fX9_clear_i2_c {S : xS} {kp : Option Nat} (hS : xSk kp 42 S) {M : xM} {E : xM} (h : fX9_clear_i2 M = some E) :
    V Y_X9_clear 0 0 0 0 (xarg 0 [vR (some 41)]) [] S M (xqR S E none) := by
  unfold fX9_clear_i2 at h
  show V Y_X9_clear 0 0 0 0 [(0, vR (some 41))] [] S M _
  refine V_aload_n dX9_clear_0 rfl (xm 0 rfl) ?_
  refine V_iconst dX9_clear_1 ?_
  refine T_putI (kI := 0) dX9_clear_2 fp_X9_15 (sk_41 hS (by decide)) rfl rfl h (fun M1 h => ?_)
  refine V_aload_n dX9_clear_5 rfl (xm 0 rfl) ?_
  refine V_iconst dX9_clear_6 ?_
  refine T_putI (kI := 1) dX9_clear_7 fp_X9_19 (sk_41 hS (by decide)) rfl rfl h (fun M2 h => ?_)
  refine V_aload_n dX9_clear_10 rfl (xm 0 rfl) ?_
  refine V_iconst dX9_clear_11 ?_
  refine T_putZ (kI := 2) (b := false) dX9_clear_12 fp_X9_22 (sk_41 hS (by decide)) rfl rfl (by decide) h (fun M3 h => ?_)
  exact V_ret dX9_clear_15 rfl (q_v h)
def fX7_fail (M : xM) (v1 : Int) : Option (Bool × xM) := xlet (xup M 36 1 v1) fun M1 => xrd M1 39 401 (M1 36 8) fun r2 => xlet (xup M1 36 2 r2) fun M3 => some (false, M3)
set_option maxRecDepth 20000 in
set_option maxHeartbeats 1000000 in
theorem fX7_fail_c {S : xS} {kp : Option Nat} (hS : xSk kp 40 S) {M : xM} {v1 : Int} {E : Bool × xM} (h : fX7_fail M v1 = some E) :
    V Y_X7_fail 0 0 0 0 (xarg 0 [vR (some 36), vI v1]) [] S M (xqR S E.2 (some (vI (b2i E.1)))) := by
  unfold fX7_fail at h
  show V Y_X7_fail 0 0 0 0 [(0, vR (some 36)), (1, vI v1)] [] S M _
  refine V_aload_n dX7_fail_0 rfl (xm 0 rfl) ?_
  refine V_iload_n dX7_fail_1 rfl (xm 1 rfl) ?_
  refine T_putI (kI := 1) dX7_fail_2 fp_X7_39 (sk_36 hS (by decide)) rfl rfl h (fun M1 h => ?_)
  refine V_aload_n dX7_fail_5 rfl (xm 0 rfl) ?_
  refine V_aload_n dX7_fail_6 rfl (xm 0 rfl) ?_
  refine V_getR dX7_fail_7 fl_X7_23 (sk_36 hS (by decide)) rfl ?_
  refine V_aload_n dX7_fail_10 rfl (xm 0 rfl) ?_
  refine V_getI (kI := 8) dX7_fail_11 fl_X7_51 (sk_36 hS (by decide)) rfl rfl ?_
  refine T_iald dX7_fail_14 (sk_39 hS (by decide)) rfl h (fun r2 h => ?_)
  refine T_putI (kI := 2) dX7_fail_15 fp_X7_9 (sk_36 hS (by decide)) rfl rfl h (fun M3 h => ?_)
  refine V_iconst dX7_fail_18 ?_
  exact V_iretb (b := false) dX7_fail_19 rfl (by decide) (q_wB h)
def fX7_expect (M : xM) (v1 : Int) : Option (Bool × xM) := xrd M 38 401 (M 36 8) fun r1 => (if wr r1 = wr v1 then (xlet (xup M 36 8 ((M 36 8) + 1)) fun M2 => some (true, M2)) else (xb2 (fX7_fail M 1) fun r4 M5 => some (r4, M5)))
set_option maxRecDepth 20000 in
set_option maxHeartbeats 1000000 in
theorem fX7_expect_c {S : xS} {kp : Option Nat} (hS : xSk kp 40 S) {M : xM} {v1 : Int} {E : Bool × xM} (h : fX7_expect M v1 = some E) :
    V Y_X7_expect 1 0 0 0 (xarg 0 [vR (some 36), vI v1]) [] S M (xqR S E.2 (some (vI (b2i E.1)))) := by
  unfold fX7_expect at h
  show V Y_X7_expect 1 0 0 0 [(0, vR (some 36)), (1, vI v1)] [] S M _
  refine V_aload_n dX7_expect_0 rfl (xm 0 rfl) ?_
  refine V_getR dX7_expect_1 fl_X7_19 (sk_36 hS (by decide)) rfl ?_
  refine V_aload_n dX7_expect_4 rfl (xm 0 rfl) ?_
  refine V_getI (kI := 8) dX7_expect_5 fl_X7_51 (sk_36 hS (by decide)) rfl rfl ?_
  refine T_iald dX7_expect_8 (sk_38 hS (by decide)) rfl h (fun r1 h => ?_)
  refine V_iload_n dX7_expect_9 rfl (xm 1 rfl) ?_
  refine V_icmp_eq (tgt := 19) dX7_expect_10 (by decide) h (fun _ h => ?_) (fun _ h => ?_)
  · refine V_aload_n dX7_expect_19 rfl (xm 0 rfl) ?_
    refine V_dup dX7_expect_20 rfl ?_
    refine V_getI (kI := 8) dX7_expect_21 fl_X7_51 (sk_36 hS (by decide)) rfl rfl ?_
    refine V_iconst dX7_expect_24 ?_
    refine V_iadd dX7_expect_25 ?_
    refine T_putI (kI := 8) dX7_expect_26 fp_X7_51 (sk_36 hS (by decide)) rfl rfl h (fun M2 h => ?_)
    refine V_iconst dX7_expect_29 ?_
    exact V_iretb (b := true) dX7_expect_30 rfl (by decide) (q_wB h)
  · refine V_aload_n dX7_expect_13 rfl (xm 0 rfl) ?_
    refine V_iconst dX7_expect_14 ?_
    refine xb2E h (fun r4 M5 h3 h => ?_)
    refine T_callVI dX7_expect_15 ok_X7_fail (by exact ⟨by decide, rfl⟩) lk_X7_65.1 lk_X7_65.2 (sk_36 hS (by decide)) (hV := ((fX7_fail_c (hS.le (by decide)) h3).mono (by decide) (Nat.le_refl _) (Nat.le_refl _))) rfl (Nat.le_of_ble_eq_true rfl) rfl (Nat.le_of_ble_eq_true rfl) ?_
    exact V_iretb (b := r4) dX7_expect_18 rfl rfl (q_wB h)
def fX9_add (M : xM) (v1 : Int) : Option xM := (if wr (M 41 1) < wr 400 then (xwt M 42 400 (M 41 1) v1 fun M1 => xlet (xup M1 41 1 ((M1 41 1) + 1)) fun M2 => some M2) else some M)
set_option maxRecDepth 20000 in
set_option maxHeartbeats 1000000 in
theorem fX9_add_c {S : xS} {kp : Option Nat} (hS : xSk kp 43 S) {M : xM} {v1 : Int} {E : xM} (h : fX9_add M v1 = some E) :
    V Y_X9_add 0 0 0 0 (xarg 0 [vR (some 41), vI v1]) [] S M (xqR S E none) := by
  unfold fX9_add at h
  show V Y_X9_add 0 0 0 0 [(0, vR (some 41)), (1, vI v1)] [] S M _
  refine V_aload_n dX9_add_0 rfl (xm 0 rfl) ?_
  refine V_getI (kI := 1) dX9_add_1 fl_X9_19 (sk_41 hS (by decide)) rfl rfl ?_
  refine V_aload_n dX9_add_4 rfl (xm 0 rfl) ?_
  refine V_getR dX9_add_5 fl_X9_9 (sk_41 hS (by decide)) rfl ?_
  refine V_alen (x := 400) dX9_add_8 (sk_42 hS (by decide)) (by decide) rfl ?_
  refine V_icmp_ge (tgt := 32) dX9_add_9 (by decide) h (fun _ h => ?_) (fun _ h => ?_)
  · refine V_aload_n dX9_add_12 rfl (xm 0 rfl) ?_
    refine V_getR dX9_add_13 fl_X9_9 (sk_41 hS (by decide)) rfl ?_
    refine V_aload_n dX9_add_16 rfl (xm 0 rfl) ?_
    refine V_getI (kI := 1) dX9_add_17 fl_X9_19 (sk_41 hS (by decide)) rfl rfl ?_
    refine V_iload_n dX9_add_20 rfl (xm 1 rfl) ?_
    refine T_iast dX9_add_21 (sk_42 hS (by decide)) rfl h (fun M1 h => ?_)
    refine V_aload_n dX9_add_22 rfl (xm 0 rfl) ?_
    refine V_dup dX9_add_23 rfl ?_
    refine V_getI (kI := 1) dX9_add_24 fl_X9_19 (sk_41 hS (by decide)) rfl rfl ?_
    refine V_iconst dX9_add_27 ?_
    refine V_iadd dX9_add_28 ?_
    refine T_putI (kI := 1) dX9_add_29 fp_X9_19 (sk_41 hS (by decide)) rfl rfl h (fun M2 h => ?_)
    exact V_ret dX9_add_32 rfl (q_v h)
  · exact V_ret dX9_add_32 rfl (q_v h)
