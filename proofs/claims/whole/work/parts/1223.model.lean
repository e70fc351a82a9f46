def fX3_shareOut_L2 (n : Nat) (M : xM) (v2 : Int) : Option (xM) := match n with
  | 0 => none
  | n + 1 => (if wr v2 < wr (M 5 0) then (xrd M 10 10 v2 fun r1 => xwt M 74 10 v2 r1 fun M2 => xb (fX3_shareOut_L27 xfuel M2 v2 0 0) fun M9 => fX3_shareOut_L2 n M9 (v2 + 1)) else some M)
set_option maxRecDepth 20000 in
set_option maxHeartbeats 1000000 in
theorem fX3_shareOut_L2_c {S : xS} {kp : Option Nat} (hS : xSk kp 75 S) {Q : Option xV → xS → xM → Prop} :
    ∀ (n : Nat) (M : xM) (v2 : Int) {Mz : xM}, fX3_shareOut_L2 n M v2 = some Mz → V Y_X3_shareOut 1 0 0 88 [] [] S Mz Q → V Y_X3_shareOut 1 0 0 2 [(0, vR (some 50)), (1, vR (some 5)), (2, vI v2)] [] S M Q := by
  intro n
  induction n with
  | zero =>
    intro M v2 Mz h k
    cases h
  | succ n ih =>
    intro M v2 Mz h k
    rw [fX3_shareOut_L2] at h
    refine V_iload_n dX3_shareOut_2 rfl (xm 2 rfl) ?_
    refine V_aload_n dX3_shareOut_3 rfl (xm 1 rfl) ?_
    refine V_getI (kI := 0) dX3_shareOut_4 fl_X3_59 (sk_5 hS (by decide)) rfl rfl ?_
    refine V_icmp_ge (tgt := 88) dX3_shareOut_7 (by decide) h (fun _ h => ?_) (fun _ h => ?_)
    · refine V_aload_n dX3_shareOut_10 rfl (xm 0 rfl) ?_
      refine V_getR dX3_shareOut_11 fl_X3_32 (sk_50 hS (by decide)) rfl ?_
      refine V_iload_n dX3_shareOut_14 rfl (xm 2 rfl) ?_
      refine V_aload_n dX3_shareOut_15 rfl (xm 1 rfl) ?_
      refine V_getR dX3_shareOut_16 fl_X3_175 (sk_5 hS (by decide)) rfl ?_
      refine V_iload_n dX3_shareOut_19 rfl (xm 2 rfl) ?_
      refine T_iald dX3_shareOut_20 (sk_10 hS (by decide)) rfl h (fun r1 h => ?_)
      refine T_iast dX3_shareOut_21 (sk_74 hS (by decide)) rfl h (fun M2 h => ?_)
      refine V_iconst dX3_shareOut_22 ?_
      refine V_istore_n (ls' := [(3, vI 0), (0, vR (some 50)), (1, vR (some 5)), (2, vI v2)]) dX3_shareOut_23 rfl (by decide) rfl ?_
      refine V_iconst dX3_shareOut_24 ?_
      refine V_istore (ls' := [(4, vI 0), (3, vI 0), (0, vR (some 50)), (1, vR (some 5)), (2, vI v2)]) dX3_shareOut_25 (by decide) rfl ?_
      refine xbE h (fun M9 h10 h => ?_)
      refine V.pick [2, 3, 4, 1, 0] rfl ?_
      refine fX3_shareOut_L27_ci (hS.le (by decide)) h10 ?_
      refine V_iinc (ls' := [(2, vI (v2 + 1)), (0, vR (some 50)), (1, vR (some 5))]) dX3_shareOut_82 (xm 2 rfl) (by decide) rfl ?_
      refine V_goto (tgt := 2) dX3_shareOut_85 (by decide) ?_
      refine V.pick [1, 2, 0] rfl ?_
      exact ih M9 (v2 + 1) h k
    · cases h
      refine V.pick [] rfl ?_
      exact k
theorem fX3_shareOut_L2_ci {S : xS} {kp : Option Nat} (hS : xSk kp 75 S) {Q : Option xV → xS → xM → Prop} {n : Nat} {M : xM} {v2 : Int} {Mz : xM} (hl : fX3_shareOut_L2 n M v2 = some Mz) (k : V Y_X3_shareOut 1 0 0 88 [] [] S Mz Q) : V Y_X3_shareOut 1 0 0 2 [(0, vR (some 50)), (1, vR (some 5)), (2, vI v2)] [] S M Q := fX3_shareOut_L2_c hS _ _ _ hl k
def fX3_shareOut (M : xM)  : Option xM := xb (fX3_shareOut_L2 xfuel M 0) fun M11 => some M11
set_option maxRecDepth 20000 in
set_option maxHeartbeats 1000000 in
theorem fX3_shareOut_c {S : xS} {kp : Option Nat} (hS : xSk kp 75 S) {M : xM} {E : xM} (h : fX3_shareOut M = some E) :
    V Y_X3_shareOut 1 0 0 0 (xarg 0 [vR (some 50), vR (some 5)]) [] S M (xqR S E none) := by
  unfold fX3_shareOut at h
  show V Y_X3_shareOut 1 0 0 0 [(0, vR (some 50)), (1, vR (some 5))] [] S M _
  refine V_iconst dX3_shareOut_0 ?_
  refine V_istore_n (ls' := [(2, vI 0), (0, vR (some 50)), (1, vR (some 5))]) dX3_shareOut_1 rfl (by decide) rfl ?_
  refine xbE h (fun M11 h12 h => ?_)
  refine V.pick [1, 2, 0] rfl ?_
  refine fX3_shareOut_L2_ci (hS.le (by decide)) h12 ?_
  exact V_ret dX3_shareOut_88 rfl (q_v h)
def fJ7_fill_53178_i5_L5 (n : Nat) (M : xM) (v1 : Int) (v2 : Int) (v3 : Int) : Option (xM) := match n with
  | 0 => none
  | n + 1 => (if wr v2 < wr v3 then (xwt M 51 3660 v2 v1 fun M1 => fJ7_fill_53178_i5_L5 n M1 v1 (v2 + 1) v3) else some M)
set_option maxRecDepth 20000 in
set_option maxHeartbeats 1000000 in
theorem fJ7_fill_53178_i5_L5_c {S : xS} {kp : Option Nat} (hS : xSk kp 52 S) {Q : Option xV → xS → xM → Prop} :
    ∀ (n : Nat) (M : xM) (v1 : Int) (v2 : Int) (v3 : Int) {Mz : xM}, fJ7_fill_53178_i5_L5 n M v1 v2 v3 = some Mz → V Y_J7_fill_53178 0 0 0 20 [] [] S Mz Q → V Y_J7_fill_53178 0 0 0 5 [(0, vR (some 51)), (1, vI v1), (2, vI v2), (3, vI v3)] [] S M Q := by
  intro n
  induction n with
  | zero =>
    intro M v1 v2 v3 Mz h k
    cases h
  | succ n ih =>
    intro M v1 v2 v3 Mz h k
    rw [fJ7_fill_53178_i5_L5] at h
    refine V_iload_n dJ7_fill_53178_5 rfl (xm 2 rfl) ?_
    refine V_iload_n dJ7_fill_53178_6 rfl (xm 3 rfl) ?_
    refine V_icmp_ge (tgt := 20) dJ7_fill_53178_7 (by decide) h (fun _ h => ?_) (fun _ h => ?_)
    · refine V_aload_n dJ7_fill_53178_10 rfl (xm 0 rfl) ?_
      refine V_iload_n dJ7_fill_53178_11 rfl (xm 2 rfl) ?_
      refine V_iload_n dJ7_fill_53178_12 rfl (xm 1 rfl) ?_
      refine T_iast dJ7_fill_53178_13 (sk_51 hS (by decide)) rfl h (fun M1 h => ?_)
      refine V_iinc (ls' := [(2, vI (v2 + 1)), (0, vR (some 51)), (1, vI v1), (3, vI v3)]) dJ7_fill_53178_14 (xm 2 rfl) (by decide) rfl ?_
      refine V_goto (tgt := 5) dJ7_fill_53178_17 (by decide) ?_
      refine V.pick [1, 2, 0, 3] rfl ?_
      exact ih M1 v1 (v2 + 1) v3 h k
    · cases h
      refine V.pick [] rfl ?_
      exact k
theorem fJ7_fill_53178_i5_L5_ci {S : xS} {kp : Option Nat} (hS : xSk kp 52 S) {Q : Option xV → xS → xM → Prop} {n : Nat} {M : xM} {v1 : Int} {v2 : Int} {v3 : Int} {Mz : xM} (hl : fJ7_fill_53178_i5_L5 n M v1 v2 v3 = some Mz) (k : V Y_J7_fill_53178 0 0 0 20 [] [] S Mz Q) : V Y_J7_fill_53178 0 0 0 5 [(0, vR (some 51)), (1, vI v1), (2, vI v2), (3, vI v3)] [] S M Q := fJ7_fill_53178_i5_L5_c hS _ _ _ _ _ hl k
def fJ7_fill_53178_i5 (M : xM) (v1 : Int) : Option xM := xb (fJ7_fill_53178_i5_L5 xfuel M v1 0 3660) fun M2 => some M2
set_option maxRecDepth 20000 in
set_option maxHeartbeats 1000000 in
theorem fJ7_fill_53178_i5_c {S : xS} {kp : Option Nat} (hS : xSk kp 52 S) {M : xM} {v1 : Int} {E : xM} (h : fJ7_fill_53178_i5 M v1 = some E) :
    V Y_J7_fill_53178 0 0 0 0 (xarg 0 [vR (some 51), vI v1]) [] S M (xqR S E none) := by
  unfold fJ7_fill_53178_i5 at h
  show V Y_J7_fill_53178 0 0 0 0 [(0, vR (some 51)), (1, vI v1)] [] S M _
  refine V_iconst dJ7_fill_53178_0 ?_
  refine V_istore_n (ls' := [(2, vI 0), (0, vR (some 51)), (1, vI v1)]) dJ7_fill_53178_1 rfl (by decide) rfl ?_
  refine V_aload_n dJ7_fill_53178_2 rfl (xm 1 rfl) ?_
  refine V_alen (x := 3660) dJ7_fill_53178_3 (sk_51 hS (by decide)) (by decide) rfl ?_
  refine V_istore_n (ls' := [(3, vI 3660), (2, vI 0), (0, vR (some 51)), (1, vI v1)]) dJ7_fill_53178_4 rfl (by decide) rfl ?_
  refine xbE h (fun M2 h3 h => ?_)
  refine V.pick [2, 3, 1, 0] rfl ?_
  refine fJ7_fill_53178_i5_L5_ci (hS.le (by decide)) h3 ?_
  exact V_ret dJ7_fill_53178_20 rfl (q_v h)
def fJ6_numberOfTrailingZeros_0f7a4 (v0 : Int) : Int := (if 0 < wr (xand (xxor v0 ((-1))) (v0 - 1)) then (xj (fun (u1 : Int) (u2 : Int) => xj (fun (u4 : Int) (u5 : Int) => xj (fun (u7 : Int) (u8 : Int) => (if wr 4 < wr u7 then (u8 + 2) + (xushr (xushr u7 2) 1) else u8 + (xushr u7 1))) fun j9 => (if wr 16 < wr u4 then j9 (xushr u4 4) (u5 + 4) else j9 u4 u5)) fun j6 => (if wr 256 < wr u1 then j6 (xushr u1 8) (u2 + 8) else j6 u1 u2)) fun j3 => (if wr 65536 < wr (xand (xxor v0 ((-1))) (v0 - 1)) then j3 (xushr (xand (xxor v0 ((-1))) (v0 - 1)) 16) (1 + 16) else j3 (xand (xxor v0 ((-1))) (v0 - 1)) 1)) else xand (xand (xxor v0 ((-1))) (v0 - 1)) 32)
set_option maxRecDepth 20000 in
set_option maxHeartbeats 1000000 in
theorem fJ6_numberOfTrailingZeros_0f7a4_c {S : xS} {kp : Option Nat} (hS : xSk kp 0 S) {M : xM} {v0 : Int} {E : Int} (h : fJ6_numberOfTrailingZeros_0f7a4 v0 = E) :
    V Y_J6_numberOfTrailingZeros_0f7a4 0 0 0 0 (xarg 0 [vI v0]) [] S M (xqR S M (some (vI E))) := by
  unfold fJ6_numberOfTrailingZeros_0f7a4 at h
  show V Y_J6_numberOfTrailingZeros_0f7a4 0 0 0 0 [(0, vI v0)] [] S M _
  refine V_iload_n dJ6_numberOfTrailingZeros_0f7a4_0 rfl (xm 0 rfl) ?_
  refine V_iconst dJ6_numberOfTrailingZeros_0f7a4_1 ?_
  refine V_ixor dJ6_numberOfTrailingZeros_0f7a4_2 ?_
  refine V_iload_n dJ6_numberOfTrailingZeros_0f7a4_3 rfl (xm 0 rfl) ?_
  refine V_iconst dJ6_numberOfTrailingZeros_0f7a4_4 ?_
  refine V_isub dJ6_numberOfTrailingZeros_0f7a4_5 ?_
  refine V_iand dJ6_numberOfTrailingZeros_0f7a4_6 ?_
  refine V_istore_n (ls' := [(0, vI (xand (xxor v0 ((-1))) (v0 - 1)))]) dJ6_numberOfTrailingZeros_0f7a4_7 rfl (by decide) rfl ?_
  refine V_iload_n dJ6_numberOfTrailingZeros_0f7a4_8 rfl (xm 0 rfl) ?_
  refine V_if_gt (tgt := 17) dJ6_numberOfTrailingZeros_0f7a4_9 (by decide) h (fun _ h => ?_) (fun _ h => ?_)
  · refine V_iconst dJ6_numberOfTrailingZeros_0f7a4_17 ?_
    refine V_istore_n (ls' := [(1, vI 1), (0, vI (xand (xxor v0 ((-1))) (v0 - 1)))]) dJ6_numberOfTrailingZeros_0f7a4_18 rfl (by decide) rfl ?_
    refine V_iload_n dJ6_numberOfTrailingZeros_0f7a4_19 rfl (xm 1 rfl) ?_
    refine V_ldcw (n := 65536) dJ6_numberOfTrailingZeros_0f7a4_20 (xsg5 49 rfl rfl : Cond.constant RJ6 264 65536 ∈ xT) (by decide) ?_
    refine xjE h (fun j3 hj3 h => ?_)
    have kj3 : ∀ (u1 : Int) (u2 : Int), j3 u1 u2 = E → V Y_J6_numberOfTrailingZeros_0f7a4 0 0 0 34 [(0, vI u1), (1, vI u2)] [] S M (xqR S M (some (vI E))) := by
      intro u1 u2 h
      rw [hj3] at h
      refine V_iload_n dJ6_numberOfTrailingZeros_0f7a4_34 rfl (xm 0 rfl) ?_
      refine V_sipush dJ6_numberOfTrailingZeros_0f7a4_35 (by decide) ?_
      refine xjE h (fun j6 hj6 h => ?_)
      have kj6 : ∀ (u4 : Int) (u5 : Int), j6 u4 u5 = E → V Y_J6_numberOfTrailingZeros_0f7a4 0 0 0 49 [(0, vI u4), (1, vI u5)] [] S M (xqR S M (some (vI E))) := by
        intro u4 u5 h
        rw [hj6] at h
        refine V_iload_n dJ6_numberOfTrailingZeros_0f7a4_49 rfl (xm 0 rfl) ?_
        refine V_bipush dJ6_numberOfTrailingZeros_0f7a4_50 (by decide) ?_
        refine xjE h (fun j9 hj9 h => ?_)
        have kj9 : ∀ (u7 : Int) (u8 : Int), j9 u7 u8 = E → V Y_J6_numberOfTrailingZeros_0f7a4 0 0 0 62 [(0, vI u7), (1, vI u8)] [] S M (xqR S M (some (vI E))) := by
          intro u7 u8 h
          rw [hj9] at h
          refine V_iload_n dJ6_numberOfTrailingZeros_0f7a4_62 rfl (xm 0 rfl) ?_
          refine V_iconst dJ6_numberOfTrailingZeros_0f7a4_63 ?_
          refine V_icmp_le (tgt := 74) dJ6_numberOfTrailingZeros_0f7a4_64 (by decide) h (fun _ h => ?_) (fun _ h => ?_)
          · refine V_iinc (ls' := [(1, vI (u8 + 2)), (0, vI u7)]) dJ6_numberOfTrailingZeros_0f7a4_67 (xm 1 rfl) (by decide) rfl ?_
            refine V_iload_n dJ6_numberOfTrailingZeros_0f7a4_70 rfl (xm 1 rfl) ?_
            refine V_iconst dJ6_numberOfTrailingZeros_0f7a4_71 ?_
            refine V_iushr dJ6_numberOfTrailingZeros_0f7a4_72 ?_
            refine V_istore_n (ls' := [(0, vI (xushr u7 2)), (1, vI (u8 + 2))]) dJ6_numberOfTrailingZeros_0f7a4_73 rfl (by decide) rfl ?_
            refine V_iload_n dJ6_numberOfTrailingZeros_0f7a4_74 rfl (xm 1 rfl) ?_
            refine V_iload_n dJ6_numberOfTrailingZeros_0f7a4_75 rfl (xm 0 rfl) ?_
            refine V_iconst dJ6_numberOfTrailingZeros_0f7a4_76 ?_
            refine V_iushr dJ6_numberOfTrailingZeros_0f7a4_77 ?_
            refine V_iadd dJ6_numberOfTrailingZeros_0f7a4_78 ?_
            exact V_ireti dJ6_numberOfTrailingZeros_0f7a4_79 rfl (q_tI h)
          · refine V_iload_n dJ6_numberOfTrailingZeros_0f7a4_74 rfl (xm 1 rfl) ?_
            refine V_iload_n dJ6_numberOfTrailingZeros_0f7a4_75 rfl (xm 0 rfl) ?_
            refine V_iconst dJ6_numberOfTrailingZeros_0f7a4_76 ?_
            refine V_iushr dJ6_numberOfTrailingZeros_0f7a4_77 ?_
            refine V_iadd dJ6_numberOfTrailingZeros_0f7a4_78 ?_
            exact V_ireti dJ6_numberOfTrailingZeros_0f7a4_79 rfl (q_tI h)
        refine V_icmp_le (tgt := 62) dJ6_numberOfTrailingZeros_0f7a4_52 (by decide) h (fun _ h => ?_) (fun _ h => ?_)
        · refine V_iinc (ls' := [(1, vI (u5 + 4)), (0, vI u4)]) dJ6_numberOfTrailingZeros_0f7a4_55 (xm 1 rfl) (by decide) rfl ?_
          refine V_iload_n dJ6_numberOfTrailingZeros_0f7a4_58 rfl (xm 1 rfl) ?_
          refine V_iconst dJ6_numberOfTrailingZeros_0f7a4_59 ?_
          refine V_iushr dJ6_numberOfTrailingZeros_0f7a4_60 ?_
          refine V_istore_n (ls' := [(0, vI (xushr u4 4)), (1, vI (u5 + 4))]) dJ6_numberOfTrailingZeros_0f7a4_61 rfl (by decide) rfl ?_
          refine V.pick [0, 1] rfl ?_
          exact kj9 (xushr u4 4) (u5 + 4) h
        · refine V.pick [0, 1] rfl ?_
          exact kj9 u4 u5 h
      refine V_icmp_le (tgt := 49) dJ6_numberOfTrailingZeros_0f7a4_38 (by decide) h (fun _ h => ?_) (fun _ h => ?_)
      · refine V_iinc (ls' := [(1, vI (u2 + 8)), (0, vI u1)]) dJ6_numberOfTrailingZeros_0f7a4_41 (xm 1 rfl) (by decide) rfl ?_
        refine V_iload_n dJ6_numberOfTrailingZeros_0f7a4_44 rfl (xm 1 rfl) ?_
        refine V_bipush dJ6_numberOfTrailingZeros_0f7a4_45 (by decide) ?_
        refine V_iushr dJ6_numberOfTrailingZeros_0f7a4_47 ?_
        refine V_istore_n (ls' := [(0, vI (xushr u1 8)), (1, vI (u2 + 8))]) dJ6_numberOfTrailingZeros_0f7a4_48 rfl (by decide) rfl ?_
        refine V.pick [0, 1] rfl ?_
        exact kj6 (xushr u1 8) (u2 + 8) h
      · refine V.pick [0, 1] rfl ?_
        exact kj6 u1 u2 h
    refine V_icmp_le (tgt := 34) dJ6_numberOfTrailingZeros_0f7a4_23 (by decide) h (fun _ h => ?_) (fun _ h => ?_)
    · refine V_iinc (ls' := [(1, vI (1 + 16)), (0, vI (xand (xxor v0 ((-1))) (v0 - 1)))]) dJ6_numberOfTrailingZeros_0f7a4_26 (xm 0 rfl) (by decide) rfl ?_
      refine V_iload_n dJ6_numberOfTrailingZeros_0f7a4_29 rfl (xm 1 rfl) ?_
      refine V_bipush dJ6_numberOfTrailingZeros_0f7a4_30 (by decide) ?_
      refine V_iushr dJ6_numberOfTrailingZeros_0f7a4_32 ?_
      refine V_istore_n (ls' := [(0, vI (xushr (xand (xxor v0 ((-1))) (v0 - 1)) 16)), (1, vI (1 + 16))]) dJ6_numberOfTrailingZeros_0f7a4_33 rfl (by decide) rfl ?_
      refine V.pick [0, 1] rfl ?_
      exact kj3 (xushr (xand (xxor v0 ((-1))) (v0 - 1)) 16) (1 + 16) h
    · refine V.pick [1, 0] rfl ?_
      exact kj3 (xand (xxor v0 ((-1))) (v0 - 1)) 1 h
  · refine V_iload_n dJ6_numberOfTrailingZeros_0f7a4_12 rfl (xm 0 rfl) ?_
    refine V_bipush dJ6_numberOfTrailingZeros_0f7a4_13 (by decide) ?_
    refine V_iand dJ6_numberOfTrailingZeros_0f7a4_15 ?_
    exact V_ireti dJ6_numberOfTrailingZeros_0f7a4_16 rfl (q_tI h)
def fX3_addOwn_L32 (n : Nat) (M : xM) (v2 : Int) (o3 : Nat) (v4 : Int) (v5 : Int) : Option (xM) := match n with
  | 0 => none
  | n + 1 => (if wr v5 < wr v4 then (xrd M 51 3660 v5 fun r2 => xrd M o3 156 v5 fun r3 => xwt M 51 3660 v5 (r2 + (v2 * r3)) fun M4 => fX3_addOwn_L32 n M4 v2 o3 v4 (v5 + 1)) else some M)
set_option maxRecDepth 20000 in
set_option maxHeartbeats 1000000 in
theorem fX3_addOwn_L32_c {S : xS} {kp : Option Nat} (hS : xSk kp 52 S) {Q : Option xV → xS → xM → Prop} :
    ∀ (n : Nat) (M : xM) (v2 : Int) (o3 : Nat) (v4 : Int) (v5 : Int) {Mz : xM}, S[o3]? = some (100, 156, []) → fX3_addOwn_L32 n M v2 o3 v4 v5 = some Mz → V Y_X3_addOwn 1 0 0 61 [] [] S Mz Q → V Y_X3_addOwn 1 0 0 32 [(0, vR (some 50)), (2, vI v2), (3, vR (some o3)), (4, vI v4), (5, vI v5)] [] S M Q := by
  intro n
  induction n with
  | zero =>
    intro M v2 o3 v4 v5 Mz ho3 h k
    cases h
  | succ n ih =>
    intro M v2 o3 v4 v5 Mz ho3 h k
    rw [fX3_addOwn_L32] at h
    refine V_iload dX3_addOwn_32 (xm 4 rfl) ?_
    refine V_iload dX3_addOwn_34 (xm 3 rfl) ?_
    refine V_icmp_ge (tgt := 61) dX3_addOwn_36 (by decide) h (fun _ h => ?_) (fun _ h => ?_)
    · refine V_aload_n dX3_addOwn_39 rfl (xm 0 rfl) ?_
      refine V_getR dX3_addOwn_40 fl_X3_11 (sk_50 hS (by decide)) rfl ?_
      refine V_iload dX3_addOwn_43 (xm 4 rfl) ?_
      refine V_dup2 dX3_addOwn_45 rfl rfl ?_
      refine T_iald dX3_addOwn_46 (sk_51 hS (by decide)) rfl h (fun r2 h => ?_)
      refine V_iload_n dX3_addOwn_47 rfl (xm 1 rfl) ?_
      refine V_aload_n dX3_addOwn_48 rfl (xm 2 rfl) ?_
      refine V_iload dX3_addOwn_49 (xm 4 rfl) ?_
      refine T_iald dX3_addOwn_51 ho3 rfl h (fun r3 h => ?_)
      refine V_imul dX3_addOwn_52 ?_
      refine V_iadd dX3_addOwn_53 ?_
      refine T_iast dX3_addOwn_54 (sk_51 hS (by decide)) rfl h (fun M4 h => ?_)
      refine V_iinc (ls' := [(5, vI (v5 + 1)), (0, vR (some 50)), (2, vI v2), (3, vR (some o3)), (4, vI v4)]) dX3_addOwn_55 (xm 4 rfl) (by decide) rfl ?_
      refine V_goto (tgt := 32) dX3_addOwn_58 (by decide) ?_
      refine V.pick [1, 2, 3, 4, 0] rfl ?_
      exact ih M4 v2 o3 v4 (v5 + 1) ho3 h k
    · cases h
      refine V.pick [] rfl ?_
      exact k
theorem fX3_addOwn_L32_ci {S : xS} {kp : Option Nat} (hS : xSk kp 52 S) {Q : Option xV → xS → xM → Prop} {n : Nat} {M : xM} {v2 : Int} {o3 : Nat} {v4 : Int} {v5 : Int} {Mz : xM} (ho3 : S[o3]? = some (100, 156, [])) (hl : fX3_addOwn_L32 n M v2 o3 v4 v5 = some Mz) (k : V Y_X3_addOwn 1 0 0 61 [] [] S Mz Q) : V Y_X3_addOwn 1 0 0 32 [(0, vR (some 50)), (2, vI v2), (3, vR (some o3)), (4, vI v4), (5, vI v5)] [] S M Q := fX3_addOwn_L32_c hS _ _ _ _ _ _ ho3 hl k
def fX3_addOwn (M : xM) (v1 : Int) (v2 : Int) : Option xM := xix 10 v1 (xb (fX3_addOwn_L32 xfuel M v2 (53 + (wr v1).toNat) (xmin 156 (((M 50 1) * ((2 * (M 50 1)) + 1)) * 2)) 0) fun M5 => some M5)
set_option maxRecDepth 20000 in
set_option maxHeartbeats 1000000 in
theorem fX3_addOwn_c {S : xS} {kp : Option Nat} (hS : xSk kp 64 S) {M : xM} {v1 : Int} {v2 : Int} {E : xM} (h : fX3_addOwn M v1 v2 = some E) :
    V Y_X3_addOwn 1 0 0 0 (xarg 0 [vR (some 50), vI v1, vI v2]) [] S M (xqR S E none) := by
  unfold fX3_addOwn at h
  show V Y_X3_addOwn 1 0 0 0 [(0, vR (some 50)), (1, vI v1), (2, vI v2)] [] S M _
  refine V_aload_n dX3_addOwn_0 rfl (xm 0 rfl) ?_
  refine V_getR dX3_addOwn_1 fl_X3_17 (sk_50 hS (by decide)) rfl ?_
  refine V_iload_n dX3_addOwn_4 rfl (xm 1 rfl) ?_
  obtain ⟨c1, h⟩ := xixE h
  refine V_aald (r := 53 + (wr v1).toNat) dX3_addOwn_5 (sk_52 hS (by decide)) (by decide) c1 (rw_52 c1) ?_
  refine V_astore_n (ls' := [(3, vR (some (53 + (wr v1).toNat))), (0, vR (some 50)), (1, vI v1), (2, vI v2)]) dX3_addOwn_6 rfl (by decide) rfl ?_
  refine V_aload_n dX3_addOwn_7 rfl (xm 0 rfl) ?_
  refine V_alen (x := 156) dX3_addOwn_8 (rs_52 hS (by decide) c1) (by decide) rfl ?_
  refine V_aload_n dX3_addOwn_9 rfl (xm 1 rfl) ?_
  refine V_getI (kI := 1) dX3_addOwn_10 fl_X3_39 (sk_50 hS (by decide)) rfl rfl ?_
  refine V_iconst dX3_addOwn_13 ?_
  refine V_aload_n dX3_addOwn_14 rfl (xm 1 rfl) ?_
  refine V_getI (kI := 1) dX3_addOwn_15 fl_X3_39 (sk_50 hS (by decide)) rfl rfl ?_
  refine V_imul dX3_addOwn_18 ?_
  refine V_iconst dX3_addOwn_19 ?_
  refine V_iadd dX3_addOwn_20 ?_
  refine V_imul dX3_addOwn_21 ?_
  refine V_iconst dX3_addOwn_22 ?_
  refine V_imul dX3_addOwn_23 ?_
  refine V_mmin dX3_addOwn_24 mt_X3_92 (by decide) (Nat.le_of_ble_eq_true rfl) ?_
  refine V_istore (ls' := [(4, vI (xmin 156 (((M 50 1) * ((2 * (M 50 1)) + 1)) * 2))), (3, vR (some (53 + (wr v1).toNat))), (0, vR (some 50)), (1, vI v1), (2, vI v2)]) dX3_addOwn_27 (by decide) rfl ?_
  refine V_iconst dX3_addOwn_29 ?_
  refine V_istore (ls' := [(5, vI 0), (4, vI (xmin 156 (((M 50 1) * ((2 * (M 50 1)) + 1)) * 2))), (3, vR (some (53 + (wr v1).toNat))), (0, vR (some 50)), (1, vI v1), (2, vI v2)]) dX3_addOwn_30 (by decide) rfl ?_
  refine xbE h (fun M5 h6 h => ?_)
  refine V.pick [3, 5, 2, 1, 0] rfl ?_
  refine fX3_addOwn_L32_ci (hS.le (by decide)) (rs_52 hS (by decide) c1) h6 ?_
  exact V_ret dX3_addOwn_61 rfl (q_v h)
def fX3_isAhead (v0 : Int) (v1 : Int) : Bool := (if wr v1 = wr ((-1)) then true else (if wr ((fJ6_bitCount_0f7a4 v0) - (fJ6_bitCount_0f7a4 v1)) < 0 then true else (if wr ((fJ6_bitCount_0f7a4 v0) - (fJ6_bitCount_0f7a4 v1)) = 0 then (if wr v0 < wr v1 then true else false) else false)))
set_option maxRecDepth 20000 in
set_option maxHeartbeats 1000000 in
theorem fX3_isAhead_c {S : xS} {kp : Option Nat} (hS : xSk kp 0 S) {M : xM} {v0 : Int} {v1 : Int} {E : Bool} (h : fX3_isAhead v0 v1 = E) :
    V Y_X3_isAhead 1 0 0 0 (xarg 0 [vI v0, vI v1]) [] S M (xqR S M (some (vI (b2i E)))) := by
  unfold fX3_isAhead at h
  show V Y_X3_isAhead 1 0 0 0 [(0, vI v0), (1, vI v1)] [] S M _
  refine V_iload_n dX3_isAhead_0 rfl (xm 1 rfl) ?_
  refine V_iconst dX3_isAhead_1 ?_
  refine V_icmp_ne (tgt := 7) dX3_isAhead_2 (by decide) h (fun _ h => ?_) (fun _ h => ?_)
  · refine V_iconst dX3_isAhead_5 ?_
    exact V_iretb (b := true) dX3_isAhead_6 rfl (by decide) (q_tB h)
  · refine V_iload_n dX3_isAhead_7 rfl (xm 0 rfl) ?_
    refine T_callSI (host := "") dX3_isAhead_8 ok_J6_bitCount_0f7a4 lk_X3_178.1 lk_X3_178.2 (hV := ((fJ6_bitCount_0f7a4_c (hS.le (by decide)) rfl).mono (by decide) (Nat.le_refl _) (Nat.le_refl _))) rfl (Nat.le_of_ble_eq_true rfl) rfl (Nat.le_of_ble_eq_true rfl) ?_
    refine V_iload_n dX3_isAhead_11 rfl (xm 1 rfl) ?_
    refine T_callSI (host := "") dX3_isAhead_12 ok_J6_bitCount_0f7a4 lk_X3_178.1 lk_X3_178.2 (hV := ((fJ6_bitCount_0f7a4_c (hS.le (by decide)) rfl).mono (by decide) (Nat.le_refl _) (Nat.le_refl _))) rfl (Nat.le_of_ble_eq_true rfl) rfl (Nat.le_of_ble_eq_true rfl) ?_
    refine V_isub dX3_isAhead_15 ?_
    refine V_istore_n (ls' := [(2, vI ((fJ6_bitCount_0f7a4 v0) - (fJ6_bitCount_0f7a4 v1))), (0, vI v0), (1, vI v1)]) dX3_isAhead_16 rfl (by decide) rfl ?_
    refine V_iload_n dX3_isAhead_17 rfl (xm 0 rfl) ?_
    refine V_if_lt (tgt := 30) dX3_isAhead_18 (by decide) h (fun _ h => ?_) (fun _ h => ?_)
    · refine V_iconst dX3_isAhead_30 ?_
      refine V_goto (tgt := 35) dX3_isAhead_31 (by decide) ?_
      exact V_iretb (b := true) dX3_isAhead_35 rfl (by decide) (q_tB h)
    · refine V_iload_n dX3_isAhead_21 rfl (xm 0 rfl) ?_
      refine V_if_ne (tgt := 34) dX3_isAhead_22 (by decide) h (fun _ h => ?_) (fun _ h => ?_)
      · refine V_iload_n dX3_isAhead_25 rfl (xm 1 rfl) ?_
        refine V_iload_n dX3_isAhead_26 rfl (xm 2 rfl) ?_
        refine V_icmp_ge (tgt := 34) dX3_isAhead_27 (by decide) h (fun _ h => ?_) (fun _ h => ?_)
        · refine V_iconst dX3_isAhead_30 ?_
          refine V_goto (tgt := 35) dX3_isAhead_31 (by decide) ?_
          exact V_iretb (b := true) dX3_isAhead_35 rfl (by decide) (q_tB h)
        · refine V_iconst dX3_isAhead_34 ?_
          exact V_iretb (b := false) dX3_isAhead_35 rfl (by decide) (q_tB h)
      · refine V_iconst dX3_isAhead_34 ?_
        exact V_iretb (b := false) dX3_isAhead_35 rfl (by decide) (q_tB h)
def fX3_findLeavers_L51 (n : Nat) (M : xM) (v3 : Int) (v4 : Int) (v5 : Int) (v6 : Int) (v7 : Int) (v8 : Int) : Option (Int × xM) := match n with
  | 0 => none
  | n + 1 => (if wr v3 < wr v8 then some (v4, M) else (xj (fun (s10 : Int) => xrd M 74 10 (xmin (fJ6_numberOfTrailingZeros_0f7a4 v8) 9) fun r12 => xrd M 7 10 (xmin (fJ6_numberOfTrailingZeros_0f7a4 v8) 9) fun r13 => xb (fX3_addOwn M (xmin (fJ6_numberOfTrailingZeros_0f7a4 v8) 9) s10) fun M15 => (if (fX3_isAhead (xxor v5 (xshl 1 (xmin (fJ6_numberOfTrailingZeros_0f7a4 v8) 9))) v4) = true then (xb (fX4_isEnough M15 (v7 + (s10 * r13))) fun r17 => xb2 (fX3_reckon M15 (b2i r17)) fun r19 M20 => (if wr (v6 + (s10 * r12)) < wr r19 then fX3_findLeavers_L51 n M20 v3 (xxor v5 (xshl 1 (xmin (fJ6_numberOfTrailingZeros_0f7a4 v8) 9))) (xxor v5 (xshl 1 (xmin (fJ6_numberOfTrailingZeros_0f7a4 v8) 9))) (v6 + (s10 * r12)) (v7 + (s10 * r13)) (v8 + 1) else fX3_findLeavers_L51 n M20 v3 v4 (xxor v5 (xshl 1 (xmin (fJ6_numberOfTrailingZeros_0f7a4 v8) 9))) (v6 + (s10 * r12)) (v7 + (s10 * r13)) (v8 + 1))) else fX3_findLeavers_L51 n M15 v3 v4 (xxor v5 (xshl 1 (xmin (fJ6_numberOfTrailingZeros_0f7a4 v8) 9))) (v6 + (s10 * r12)) (v7 + (s10 * r13)) (v8 + 1))) fun j11 => (if wr (xand (xshr (xxor v5 (xshl 1 (xmin (fJ6_numberOfTrailingZeros_0f7a4 v8) 9))) (xmin (fJ6_numberOfTrailingZeros_0f7a4 v8) 9)) 1) = 0 then j11 ((-1)) else j11 1)))
set_option maxRecDepth 20000 in
set_option maxHeartbeats 1000000 in
theorem fX3_findLeavers_L51_c {S : xS} {kp : Option Nat} (hS : xSk kp 75 S) {Q : Option xV → xS → xM → Prop} :
    ∀ (n : Nat) (M : xM) (v3 : Int) (v4 : Int) (v5 : Int) (v6 : Int) (v7 : Int) (v8 : Int) {x4 : Int} {Mz : xM}, fX3_findLeavers_L51 n M v3 v4 v5 v6 v7 v8 = some (x4, Mz) → V Y_X3_findLeavers 6 0 0 174 [(4, vI x4)] [] S Mz Q → V Y_X3_findLeavers 6 0 0 51 [(0, vR (some 50)), (1, vR (some 1)), (3, vI v3), (4, vI v4), (5, vI v5), (6, vI v6), (7, vI v7), (8, vI v8)] [] S M Q := by
  intro n
  induction n with
  | zero =>
    intro M v3 v4 v5 v6 v7 v8 x4 Mz h k
    cases h
  | succ n ih =>
    intro M v3 v4 v5 v6 v7 v8 x4 Mz h k
    rw [fX3_findLeavers_L51] at h
    refine V_iload dX3_findLeavers_51 (xm 7 rfl) ?_
    refine V_iload_n dX3_findLeavers_53 rfl (xm 2 rfl) ?_
    refine V_icmp_gt (tgt := 174) dX3_findLeavers_54 (by decide) h (fun _ h => ?_) (fun _ h => ?_)
    · cases h
      refine V.pick [3] rfl ?_
      exact k
    · refine V_iload dX3_findLeavers_57 (xm 7 rfl) ?_
      refine T_callSI (host := "") dX3_findLeavers_59 ok_J6_numberOfTrailingZeros_0f7a4 lk_X3_159.1 lk_X3_159.2 (hV := ((fJ6_numberOfTrailingZeros_0f7a4_c (hS.le (by decide)) rfl).mono (by decide) (Nat.le_refl _) (Nat.le_refl _))) rfl (Nat.le_of_ble_eq_true rfl) rfl (Nat.le_of_ble_eq_true rfl) ?_
      refine V_bipush dX3_findLeavers_62 (by decide) ?_
      refine V_mmin dX3_findLeavers_64 mt_X3_92 (by decide) (Nat.le_of_ble_eq_true rfl) ?_
      refine V_istore (ls' := [(9, vI (xmin (fJ6_numberOfTrailingZeros_0f7a4 v8) 9)), (0, vR (some 50)), (1, vR (some 1)), (3, vI v3), (4, vI v4), (5, vI v5), (6, vI v6), (7, vI v7), (8, vI v8)]) dX3_findLeavers_67 (by decide) rfl ?_
      refine V_iload dX3_findLeavers_69 (xm 5 rfl) ?_
      refine V_iconst dX3_findLeavers_71 ?_
      refine V_iload dX3_findLeavers_72 (xm 0 rfl) ?_
      refine V_ishl dX3_findLeavers_74 ?_
      refine V_ixor dX3_findLeavers_75 ?_
      refine V_istore (ls' := [(5, vI (xxor v5 (xshl 1 (xmin (fJ6_numberOfTrailingZeros_0f7a4 v8) 9)))), (9, vI (xmin (fJ6_numberOfTrailingZeros_0f7a4 v8) 9)), (0, vR (some 50)), (1, vR (some 1)), (3, vI v3), (4, vI v4), (6, vI v6), (7, vI v7), (8, vI v8)]) dX3_findLeavers_76 (by decide) rfl ?_
      refine V_iload dX3_findLeavers_78 (xm 0 rfl) ?_
      refine V_iload dX3_findLeavers_80 (xm 1 rfl) ?_
      refine V_ishr dX3_findLeavers_82 ?_
      refine V_iconst dX3_findLeavers_83 ?_
      refine V_iand dX3_findLeavers_84 ?_
      refine xjE h (fun j11 hj11 h => ?_)
      have kj11 : ∀ (s10 : Int), j11 s10 = some (x4, Mz) → V Y_X3_findLeavers 6 0 0 93 [(0, vR (some 50)), (1, vR (some 1)), (3, vI v3), (4, vI v4), (5, vI (xxor v5 (xshl 1 (xmin (fJ6_numberOfTrailingZeros_0f7a4 v8) 9)))), (6, vI v6), (7, vI v7), (8, vI v8), (9, vI (xmin (fJ6_numberOfTrailingZeros_0f7a4 v8) 9))] [vI s10] S M Q := by
        intro s10 h
        rw [hj11] at h
        refine V_istore (ls' := [(10, vI s10), (0, vR (some 50)), (1, vR (some 1)), (3, vI v3), (4, vI v4), (5, vI (xxor v5 (xshl 1 (xmin (fJ6_numberOfTrailingZeros_0f7a4 v8) 9)))), (6, vI v6), (7, vI v7), (8, vI v8), (9, vI (xmin (fJ6_numberOfTrailingZeros_0f7a4 v8) 9))]) dX3_findLeavers_93 (by decide) rfl ?_
        refine V_iload dX3_findLeavers_95 (xm 6 rfl) ?_
        refine V_iload dX3_findLeavers_97 (xm 0 rfl) ?_
        refine V_aload_n dX3_findLeavers_99 rfl (xm 1 rfl) ?_
        refine V_getR dX3_findLeavers_100 fl_X3_32 (sk_50 hS (by decide)) rfl ?_
        refine V_iload dX3_findLeavers_103 (xm 9 rfl) ?_
        refine T_iald dX3_findLeavers_105 (sk_74 hS (by decide)) rfl h (fun r12 h => ?_)
        refine V_imul dX3_findLeavers_106 ?_
        refine V_iadd dX3_findLeavers_107 ?_
        refine V_istore (ls' := [(6, vI (v6 + (s10 * r12))), (10, vI s10), (0, vR (some 50)), (1, vR (some 1)), (3, vI v3), (4, vI v4), (5, vI (xxor v5 (xshl 1 (xmin (fJ6_numberOfTrailingZeros_0f7a4 v8) 9)))), (7, vI v7), (8, vI v8), (9, vI (xmin (fJ6_numberOfTrailingZeros_0f7a4 v8) 9))]) dX3_findLeavers_108 (by decide) rfl ?_
        refine V_iload dX3_findLeavers_110 (xm 7 rfl) ?_
        refine V_iload dX3_findLeavers_112 (xm 1 rfl) ?_
        refine V_aload_n dX3_findLeavers_114 rfl (xm 3 rfl) ?_
        refine V_getR dX3_findLeavers_115 fl_X3_55 (sk_1 hS (by decide)) rfl ?_
        refine V_getR dX3_findLeavers_118 fl_X3_164 (sk_5 hS (by decide)) rfl ?_
        refine V_iload dX3_findLeavers_121 (xm 9 rfl) ?_
        refine T_iald dX3_findLeavers_123 (sk_7 hS (by decide)) rfl h (fun r13 h => ?_)
        refine V_imul dX3_findLeavers_124 ?_
        refine V_iadd dX3_findLeavers_125 ?_
        refine V_istore (ls' := [(7, vI (v7 + (s10 * r13))), (6, vI (v6 + (s10 * r12))), (10, vI s10), (0, vR (some 50)), (1, vR (some 1)), (3, vI v3), (4, vI v4), (5, vI (xxor v5 (xshl 1 (xmin (fJ6_numberOfTrailingZeros_0f7a4 v8) 9)))), (8, vI v8), (9, vI (xmin (fJ6_numberOfTrailingZeros_0f7a4 v8) 9))]) dX3_findLeavers_126 (by decide) rfl ?_
        refine V_aload_n dX3_findLeavers_128 rfl (xm 3 rfl) ?_
        refine V_iload dX3_findLeavers_129 (xm 9 rfl) ?_
        refine V_iload dX3_findLeavers_131 (xm 2 rfl) ?_
        refine xbE h (fun M15 h14 h => ?_)
        refine T_callVv dX3_findLeavers_133 ok_X3_addOwn (by exact ⟨by decide, rfl⟩) lk_X3_167.1 lk_X3_167.2 (sk_50 hS (by decide)) (hV := ((fX3_addOwn_c (hS.le (by decide)) h14).mono (by decide) (Nat.le_refl _) (Nat.le_refl _))) rfl (Nat.le_of_ble_eq_true rfl) rfl (Nat.le_of_ble_eq_true rfl) ?_
        refine V_iload dX3_findLeavers_136 (xm 7 rfl) ?_
        refine V_iload dX3_findLeavers_138 (xm 6 rfl) ?_
        refine T_callSI (host := "") dX3_findLeavers_140 ok_X3_isAhead lk_X3_171.1 lk_X3_171.2 (hV := ((fX3_isAhead_c (hS.le (by decide)) rfl).mono (by decide) (Nat.le_refl _) (Nat.le_refl _))) rfl (Nat.le_of_ble_eq_true rfl) rfl (Nat.le_of_ble_eq_true rfl) ?_
        refine V_if_eqB (tgt := 168) dX3_findLeavers_143 (by decide) h (fun _ h => ?_) (fun _ h => ?_)
        · refine V_iload dX3_findLeavers_146 (xm 1 rfl) ?_
          refine V_aload_n dX3_findLeavers_148 rfl (xm 3 rfl) ?_
          refine V_aload_n dX3_findLeavers_149 rfl (xm 4 rfl) ?_
          refine V_getR dX3_findLeavers_150 fl_X3_55 (sk_1 hS (by decide)) rfl ?_
          refine V_iload dX3_findLeavers_153 (xm 0 rfl) ?_
          refine xbE h (fun r17 h16 h => ?_)
          refine T_callVI dX3_findLeavers_155 ok_X4_isEnough (by exact ⟨by decide, rfl⟩) lk_X3_113.1 lk_X3_113.2 (sk_5 hS (by decide)) (hV := ((fX4_isEnough_c (hS.le (by decide)) h16).mono (by decide) (Nat.le_refl _) (Nat.le_refl _))) rfl (Nat.le_of_ble_eq_true rfl) rfl (Nat.le_of_ble_eq_true rfl) ?_
          refine xb2E h (fun r19 M20 h18 h => ?_)
          refine T_callVI dX3_findLeavers_158 ok_X3_reckon (by exact ⟨by decide, rfl⟩) lk_X3_99.1 lk_X3_99.2 (sk_50 hS (by decide)) (hV := ((fX3_reckon_c (hS.le (by decide)) h18).mono (by decide) (Nat.le_refl _) (Nat.le_refl _))) rfl (Nat.le_of_ble_eq_true rfl) rfl (Nat.le_of_ble_eq_true rfl) ?_
          refine V_icmp_ge (tgt := 168) dX3_findLeavers_161 (by decide) h (fun _ h => ?_) (fun _ h => ?_)
          · refine V_iload dX3_findLeavers_164 (xm 7 rfl) ?_
            refine V_istore (ls' := [(4, vI (xxor v5 (xshl 1 (xmin (fJ6_numberOfTrailingZeros_0f7a4 v8) 9)))), (7, vI (v7 + (s10 * r13))), (6, vI (v6 + (s10 * r12))), (10, vI s10), (0, vR (some 50)), (1, vR (some 1)), (3, vI v3), (5, vI (xxor v5 (xshl 1 (xmin (fJ6_numberOfTrailingZeros_0f7a4 v8) 9)))), (8, vI v8), (9, vI (xmin (fJ6_numberOfTrailingZeros_0f7a4 v8) 9))]) dX3_findLeavers_166 (by decide) rfl ?_
            refine V_iinc (ls' := [(8, vI (v8 + 1)), (4, vI (xxor v5 (xshl 1 (xmin (fJ6_numberOfTrailingZeros_0f7a4 v8) 9)))), (7, vI (v7 + (s10 * r13))), (6, vI (v6 + (s10 * r12))), (10, vI s10), (0, vR (some 50)), (1, vR (some 1)), (3, vI v3), (5, vI (xxor v5 (xshl 1 (xmin (fJ6_numberOfTrailingZeros_0f7a4 v8) 9)))), (9, vI (xmin (fJ6_numberOfTrailingZeros_0f7a4 v8) 9))]) dX3_findLeavers_168 (xm 8 rfl) (by decide) rfl ?_
            refine V_goto (tgt := 51) dX3_findLeavers_171 (by decide) ?_
            refine V.pick [5, 6, 7, 1, 8, 3, 2, 0] rfl ?_
            exact ih M20 v3 (xxor v5 (xshl 1 (xmin (fJ6_numberOfTrailingZeros_0f7a4 v8) 9))) (xxor v5 (xshl 1 (xmin (fJ6_numberOfTrailingZeros_0f7a4 v8) 9))) (v6 + (s10 * r12)) (v7 + (s10 * r13)) (v8 + 1) h k
          · refine V_iinc (ls' := [(8, vI (v8 + 1)), (7, vI (v7 + (s10 * r13))), (6, vI (v6 + (s10 * r12))), (10, vI s10), (0, vR (some 50)), (1, vR (some 1)), (3, vI v3), (4, vI v4), (5, vI (xxor v5 (xshl 1 (xmin (fJ6_numberOfTrailingZeros_0f7a4 v8) 9)))), (9, vI (xmin (fJ6_numberOfTrailingZeros_0f7a4 v8) 9))]) dX3_findLeavers_168 (xm 8 rfl) (by decide) rfl ?_
            refine V_goto (tgt := 51) dX3_findLeavers_171 (by decide) ?_
            refine V.pick [4, 5, 6, 7, 8, 2, 1, 0] rfl ?_
            exact ih M20 v3 v4 (xxor v5 (xshl 1 (xmin (fJ6_numberOfTrailingZeros_0f7a4 v8) 9))) (v6 + (s10 * r12)) (v7 + (s10 * r13)) (v8 + 1) h k
        · refine V_iinc (ls' := [(8, vI (v8 + 1)), (7, vI (v7 + (s10 * r13))), (6, vI (v6 + (s10 * r12))), (10, vI s10), (0, vR (some 50)), (1, vR (some 1)), (3, vI v3), (4, vI v4), (5, vI (xxor v5 (xshl 1 (xmin (fJ6_numberOfTrailingZeros_0f7a4 v8) 9)))), (9, vI (xmin (fJ6_numberOfTrailingZeros_0f7a4 v8) 9))]) dX3_findLeavers_168 (xm 8 rfl) (by decide) rfl ?_
          refine V_goto (tgt := 51) dX3_findLeavers_171 (by decide) ?_
          refine V.pick [4, 5, 6, 7, 8, 2, 1, 0] rfl ?_
          exact ih M15 v3 v4 (xxor v5 (xshl 1 (xmin (fJ6_numberOfTrailingZeros_0f7a4 v8) 9))) (v6 + (s10 * r12)) (v7 + (s10 * r13)) (v8 + 1) h k
      refine V_if_eq (tgt := 92) dX3_findLeavers_85 (by decide) h (fun _ h => ?_) (fun _ h => ?_)
      · refine V_iconst dX3_findLeavers_92 ?_
        refine V.pick [2, 3, 4, 5, 0, 6, 7, 8, 1] rfl ?_
        exact kj11 ((-1)) h
      · refine V_iconst dX3_findLeavers_88 ?_
        refine V_goto (tgt := 93) dX3_findLeavers_89 (by decide) ?_
        refine V.pick [2, 3, 4, 5, 0, 6, 7, 8, 1] rfl ?_
        exact kj11 1 h
theorem fX3_findLeavers_L51_ci {S : xS} {kp : Option Nat} (hS : xSk kp 75 S) {Q : Option xV → xS → xM → Prop} {n : Nat} {M : xM} {v3 : Int} {v4 : Int} {v5 : Int} {v6 : Int} {v7 : Int} {v8 : Int} {x4 : Int} {Mz : xM} (hl : fX3_findLeavers_L51 n M v3 v4 v5 v6 v7 v8 = some (x4, Mz)) (k : V Y_X3_findLeavers 6 0 0 174 [(4, vI x4)] [] S Mz Q) : V Y_X3_findLeavers 6 0 0 51 [(0, vR (some 50)), (1, vR (some 1)), (3, vI v3), (4, vI v4), (5, vI v5), (6, vI v6), (7, vI v7), (8, vI v8)] [] S M Q := fX3_findLeavers_L51_c hS _ _ _ _ _ _ _ _ hl k
def fX3_findLeavers (M : xM) (v2 : Int) : Option (Int × xM) := xb2 (fX3_findBest M v2) fun r2 M3 => xb (fX3_gatherEach M3) fun M5 => xb (fX3_shareOut M5) fun M7 => xb (fJ7_fill_53178_i5 M7 0) fun M9 => xb2 (fX3_findLeavers_L51 xfuel M9 (fX4_all M9) ((-1)) 0 0 0 1) fun y21 M22 => some (y21, M22)
set_option maxRecDepth 20000 in
set_option maxHeartbeats 1000000 in
theorem fX3_findLeavers_c {S : xS} {kp : Option Nat} (hS : xSk kp 75 S) {M : xM} {v2 : Int} {E : Int × xM} (h : fX3_findLeavers M v2 = some E) :
    V Y_X3_findLeavers 6 0 0 0 (xarg 0 [vR (some 50), vR (some 1), vI v2]) [] S M (xqR S E.2 (some (vI E.1))) := by
  unfold fX3_findLeavers at h
  show V Y_X3_findLeavers 6 0 0 0 [(0, vR (some 50)), (1, vR (some 1)), (2, vI v2)] [] S M _
  refine V_aload_n dX3_findLeavers_0 rfl (xm 0 rfl) ?_
  refine V_aload_n dX3_findLeavers_1 rfl (xm 1 rfl) ?_
  refine V_iload_n dX3_findLeavers_2 rfl (xm 2 rfl) ?_
  refine xb2E h (fun r2 M3 h1 h => ?_)
  refine T_callVI dX3_findLeavers_3 ok_X3_findBest (by exact ⟨by decide, rfl⟩) lk_X3_151.1 lk_X3_151.2 (sk_50 hS (by decide)) (hV := ((fX3_findBest_c (hS.le (by decide)) h1).mono (by decide) (Nat.le_refl _) (Nat.le_refl _))) rfl (Nat.le_of_ble_eq_true rfl) rfl (Nat.le_of_ble_eq_true rfl) ?_
  refine V_pop dX3_findLeavers_6 rfl ?_
  refine V_aload_n dX3_findLeavers_7 rfl (xm 0 rfl) ?_
  refine V_aload_n dX3_findLeavers_8 rfl (xm 1 rfl) ?_
  refine xbE h (fun M5 h4 h => ?_)
  refine T_callVv dX3_findLeavers_9 ok_X3_gatherEach (by exact ⟨by decide, rfl⟩) lk_X3_117.1 lk_X3_117.2 (sk_50 hS (by decide)) (hV := ((fX3_gatherEach_c (hS.le (by decide)) h4).mono (by decide) (Nat.le_refl _) (Nat.le_refl _))) rfl (Nat.le_of_ble_eq_true rfl) rfl (Nat.le_of_ble_eq_true rfl) ?_
  refine V_aload_n dX3_findLeavers_12 rfl (xm 0 rfl) ?_
  refine V_aload_n dX3_findLeavers_13 rfl (xm 1 rfl) ?_
  refine V_getR dX3_findLeavers_14 fl_X3_55 (sk_1 hS (by decide)) rfl ?_
  refine xbE h (fun M7 h6 h => ?_)
  refine T_callVv dX3_findLeavers_17 ok_X3_shareOut (by exact ⟨by decide, rfl⟩) lk_X3_155.1 lk_X3_155.2 (sk_50 hS (by decide)) (hV := ((fX3_shareOut_c (hS.le (by decide)) h6).mono (by decide) (Nat.le_refl _) (Nat.le_refl _))) rfl (Nat.le_of_ble_eq_true rfl) rfl (Nat.le_of_ble_eq_true rfl) ?_
  refine V_aload_n dX3_findLeavers_20 rfl (xm 0 rfl) ?_
  refine V_getR dX3_findLeavers_21 fl_X3_11 (sk_50 hS (by decide)) rfl ?_
  refine V_iconst dX3_findLeavers_24 ?_
  refine xbE h (fun M9 h8 h => ?_)
  refine T_callSv (host := "") dX3_findLeavers_25 ok_J7_fill_53178 lk_X3_125.1 lk_X3_125.2 (hV := ((fJ7_fill_53178_i5_c (hS.le (by decide)) h8).mono (by decide) (Nat.le_refl _) (Nat.le_refl _))) rfl (Nat.le_of_ble_eq_true rfl) rfl (Nat.le_of_ble_eq_true rfl) ?_
  refine V_aload_n dX3_findLeavers_28 rfl (xm 1 rfl) ?_
  refine V_getR dX3_findLeavers_29 fl_X3_55 (sk_1 hS (by decide)) rfl ?_
  refine T_callVI dX3_findLeavers_32 ok_X4_all (by exact ⟨by decide, rfl⟩) lk_X3_95.1 lk_X3_95.2 (sk_5 hS (by decide)) (hV := ((fX4_all_c (hS.le (by decide)) rfl).mono (by decide) (Nat.le_refl _) (Nat.le_refl _))) rfl (Nat.le_of_ble_eq_true rfl) rfl (Nat.le_of_ble_eq_true rfl) ?_
  refine V_istore_n (ls' := [(3, vI (fX4_all M9)), (0, vR (some 50)), (1, vR (some 1)), (2, vI v2)]) dX3_findLeavers_35 rfl (by decide) rfl ?_
  refine V_iconst dX3_findLeavers_36 ?_
  refine V_istore (ls' := [(4, vI ((-1))), (3, vI (fX4_all M9)), (0, vR (some 50)), (1, vR (some 1)), (2, vI v2)]) dX3_findLeavers_37 (by decide) rfl ?_
  refine V_iconst dX3_findLeavers_39 ?_
  refine V_istore (ls' := [(5, vI 0), (4, vI ((-1))), (3, vI (fX4_all M9)), (0, vR (some 50)), (1, vR (some 1)), (2, vI v2)]) dX3_findLeavers_40 (by decide) rfl ?_
  refine V_iconst dX3_findLeavers_42 ?_
  refine V_istore (ls' := [(6, vI 0), (5, vI 0), (4, vI ((-1))), (3, vI (fX4_all M9)), (0, vR (some 50)), (1, vR (some 1)), (2, vI v2)]) dX3_findLeavers_43 (by decide) rfl ?_
  refine V_iconst dX3_findLeavers_45 ?_
  refine V_istore (ls' := [(7, vI 0), (6, vI 0), (5, vI 0), (4, vI ((-1))), (3, vI (fX4_all M9)), (0, vR (some 50)), (1, vR (some 1)), (2, vI v2)]) dX3_findLeavers_46 (by decide) rfl ?_
  refine V_iconst dX3_findLeavers_48 ?_
  refine V_istore (ls' := [(8, vI 1), (7, vI 0), (6, vI 0), (5, vI 0), (4, vI ((-1))), (3, vI (fX4_all M9)), (0, vR (some 50)), (1, vR (some 1)), (2, vI v2)]) dX3_findLeavers_49 (by decide) rfl ?_
  refine xb2E h (fun y21 M22 h23 h => ?_)
  refine V.pick [6, 7, 5, 4, 3, 2, 1, 0] rfl ?_
  refine fX3_findLeavers_L51_ci (hS.le (by decide)) h23 ?_
  refine V_iload dX3_findLeavers_174 (xm 0 rfl) ?_
  exact V_ireti dX3_findLeavers_176 rfl (q_wI h)
def fX11_leave (M : xM) (v1 : Int) : Option (Int × xM) := (if (fX11_within v1 1 6) = true then (xb2 (fX3_findLeavers M v1) fun r2 M3 => some (r2, M3)) else some ((-1), M))
set_option maxRecDepth 20000 in
set_option maxHeartbeats 1000000 in
theorem fX11_leave_c {S : xS} {kp : Option Nat} (hS : xSk kp 94 S) {M : xM} {v1 : Int} {E : Int × xM} (h : fX11_leave M v1 = some E) :
    V Y_X11_leave 7 0 0 0 (xarg 0 [vR (some 0), vI v1]) [] S M (xqR S E.2 (some (vI E.1))) := by
  unfold fX11_leave at h
  show V Y_X11_leave 7 0 0 0 [(0, vR (some 0)), (1, vI v1)] [] S M _
  refine V_iload_n dX11_leave_0 rfl (xm 1 rfl) ?_
  refine V_iconst dX11_leave_1 ?_
  refine V_bipush dX11_leave_2 (by decide) ?_
  refine T_callSI (host := "") dX11_leave_4 ok_X11_within lk_X11_60.1 lk_X11_60.2 (hV := ((fX11_within_c (hS.le (by decide)) rfl).mono (by decide) (Nat.le_refl _) (Nat.le_refl _))) rfl (Nat.le_of_ble_eq_true rfl) rfl (Nat.le_of_ble_eq_true rfl) ?_
  refine V_if_eqB (tgt := 25) dX11_leave_7 (by decide) h (fun _ h => ?_) (fun _ h => ?_)
  · refine V_aload_n dX11_leave_10 rfl (xm 0 rfl) ?_
    refine V_getR dX11_leave_11 fl_X11_39 (sk_0 hS (by decide)) rfl ?_
    refine V_aload_n dX11_leave_14 rfl (xm 0 rfl) ?_
    refine V_getR dX11_leave_15 fl_X11_12 (sk_0 hS (by decide)) rfl ?_
    refine V_iload_n dX11_leave_18 rfl (xm 1 rfl) ?_
    refine xb2E h (fun r2 M3 h1 h => ?_)
    refine T_callVI dX11_leave_19 ok_X3_findLeavers (by exact ⟨by decide, rfl⟩) lk_X11_287.1 lk_X11_287.2 (sk_50 hS (by decide)) (hV := ((fX3_findLeavers_c (hS.le (by decide)) h1).mono (by decide) (Nat.le_refl _) (Nat.le_refl _))) rfl (Nat.le_of_ble_eq_true rfl) rfl (Nat.le_of_ble_eq_true rfl) ?_
    refine V_goto (tgt := 26) dX11_leave_22 (by decide) ?_
    exact V_ireti dX11_leave_26 rfl (q_wI h)
  · refine V_iconst dX11_leave_25 ?_
    exact V_ireti dX11_leave_26 rfl (q_wI h)
def fX5_disagree (M : xM) (v1 : Int) (v2 : Int) : Option Bool := (if (fX5_stands M v1) = true then (if (fX5_stands M v2) = true then (xrd M 19 24 v1 fun r1 => xrd M 19 24 v2 fun r2 => (if wr r1 = wr r2 then (xrd M 18 24 v1 fun r3 => xrd M 18 24 v2 fun r4 => (if wr r3 = wr r4 then some false else (xrd M 20 24 v1 fun r5 => xrd M 21 24 v2 fun r6 => (if wr r6 < wr r5 then some false else (xrd M 20 24 v2 fun r7 => xrd M 21 24 v1 fun r8 => (if wr r8 < wr r7 then some false else some true)))))) else some false)) else some false) else some false)
set_option maxRecDepth 20000 in
set_option maxHeartbeats 1000000 in
theorem fX5_disagree_c {S : xS} {kp : Option Nat} (hS : xSk kp 22 S) {M : xM} {v1 : Int} {v2 : Int} {E : Bool} (h : fX5_disagree M v1 v2 = some E) :
    V Y_X5_disagree 2 0 0 0 (xarg 0 [vR (some 17), vI v1, vI v2]) [] S M (xqR S M (some (vI (b2i E)))) := by
  unfold fX5_disagree at h
  show V Y_X5_disagree 2 0 0 0 [(0, vR (some 17)), (1, vI v1), (2, vI v2)] [] S M _
  refine V_aload_n dX5_disagree_0 rfl (xm 0 rfl) ?_
  refine V_iload_n dX5_disagree_1 rfl (xm 1 rfl) ?_
  refine T_callVI dX5_disagree_2 ok_X5_stands (by exact ⟨by decide, rfl⟩) lk_X5_44.1 lk_X5_44.2 (sk_17 hS (by decide)) (hV := ((fX5_stands_c (hS.le (by decide)) rfl).mono (by decide) (Nat.le_refl _) (Nat.le_refl _))) rfl (Nat.le_of_ble_eq_true rfl) rfl (Nat.le_of_ble_eq_true rfl) ?_
  refine V_if_eqB (tgt := 80) dX5_disagree_5 (by decide) h (fun _ h => ?_) (fun _ h => ?_)
  · refine V_aload_n dX5_disagree_8 rfl (xm 0 rfl) ?_
    refine V_iload_n dX5_disagree_9 rfl (xm 2 rfl) ?_
    refine T_callVI dX5_disagree_10 ok_X5_stands (by exact ⟨by decide, rfl⟩) lk_X5_44.1 lk_X5_44.2 (sk_17 hS (by decide)) (hV := ((fX5_stands_c (hS.le (by decide)) rfl).mono (by decide) (Nat.le_refl _) (Nat.le_refl _))) rfl (Nat.le_of_ble_eq_true rfl) rfl (Nat.le_of_ble_eq_true rfl) ?_
    refine V_if_eqB (tgt := 80) dX5_disagree_13 (by decide) h (fun _ h => ?_) (fun _ h => ?_)
    · refine V_aload_n dX5_disagree_16 rfl (xm 0 rfl) ?_
      refine V_getR dX5_disagree_17 fl_X5_15 (sk_17 hS (by decide)) rfl ?_
      refine V_iload_n dX5_disagree_20 rfl (xm 1 rfl) ?_
      refine T_iald dX5_disagree_21 (sk_19 hS (by decide)) rfl h (fun r1 h => ?_)
      refine V_aload_n dX5_disagree_22 rfl (xm 0 rfl) ?_
      refine V_getR dX5_disagree_23 fl_X5_15 (sk_17 hS (by decide)) rfl ?_
      refine V_iload_n dX5_disagree_26 rfl (xm 2 rfl) ?_
      refine T_iald dX5_disagree_27 (sk_19 hS (by decide)) rfl h (fun r2 h => ?_)
      refine V_icmp_ne (tgt := 80) dX5_disagree_28 (by decide) h (fun _ h => ?_) (fun _ h => ?_)
      · refine V_aload_n dX5_disagree_31 rfl (xm 0 rfl) ?_
        refine V_getR dX5_disagree_32 fl_X5_11 (sk_17 hS (by decide)) rfl ?_
        refine V_iload_n dX5_disagree_35 rfl (xm 1 rfl) ?_
        refine T_iald dX5_disagree_36 (sk_18 hS (by decide)) rfl h (fun r3 h => ?_)
        refine V_aload_n dX5_disagree_37 rfl (xm 0 rfl) ?_
        refine V_getR dX5_disagree_38 fl_X5_11 (sk_17 hS (by decide)) rfl ?_
        refine V_iload_n dX5_disagree_41 rfl (xm 2 rfl) ?_
        refine T_iald dX5_disagree_42 (sk_18 hS (by decide)) rfl h (fun r4 h => ?_)
        refine V_icmp_eq (tgt := 80) dX5_disagree_43 (by decide) h (fun _ h => ?_) (fun _ h => ?_)
        · refine V_iconst dX5_disagree_80 ?_
          exact V_iretb (b := false) dX5_disagree_81 rfl (by decide) (q_pB h)
        · refine V_aload_n dX5_disagree_46 rfl (xm 0 rfl) ?_
          refine V_getR dX5_disagree_47 fl_X5_18 (sk_17 hS (by decide)) rfl ?_
          refine V_iload_n dX5_disagree_50 rfl (xm 1 rfl) ?_
          refine T_iald dX5_disagree_51 (sk_20 hS (by decide)) rfl h (fun r5 h => ?_)
          refine V_aload_n dX5_disagree_52 rfl (xm 0 rfl) ?_
          refine V_getR dX5_disagree_53 fl_X5_21 (sk_17 hS (by decide)) rfl ?_
          refine V_iload_n dX5_disagree_56 rfl (xm 2 rfl) ?_
          refine T_iald dX5_disagree_57 (sk_21 hS (by decide)) rfl h (fun r6 h => ?_)
          refine V_icmp_gt (tgt := 80) dX5_disagree_58 (by decide) h (fun _ h => ?_) (fun _ h => ?_)
          · refine V_iconst dX5_disagree_80 ?_
            exact V_iretb (b := false) dX5_disagree_81 rfl (by decide) (q_pB h)
          · refine V_aload_n dX5_disagree_61 rfl (xm 0 rfl) ?_
            refine V_getR dX5_disagree_62 fl_X5_18 (sk_17 hS (by decide)) rfl ?_
            refine V_iload_n dX5_disagree_65 rfl (xm 2 rfl) ?_
            refine T_iald dX5_disagree_66 (sk_20 hS (by decide)) rfl h (fun r7 h => ?_)
            refine V_aload_n dX5_disagree_67 rfl (xm 0 rfl) ?_
            refine V_getR dX5_disagree_68 fl_X5_21 (sk_17 hS (by decide)) rfl ?_
            refine V_iload_n dX5_disagree_71 rfl (xm 1 rfl) ?_
            refine T_iald dX5_disagree_72 (sk_21 hS (by decide)) rfl h (fun r8 h => ?_)
            refine V_icmp_gt (tgt := 80) dX5_disagree_73 (by decide) h (fun _ h => ?_) (fun _ h => ?_)
            · refine V_iconst dX5_disagree_80 ?_
              exact V_iretb (b := false) dX5_disagree_81 rfl (by decide) (q_pB h)
            · refine V_iconst dX5_disagree_76 ?_
              refine V_goto (tgt := 81) dX5_disagree_77 (by decide) ?_
              exact V_iretb (b := true) dX5_disagree_81 rfl (by decide) (q_pB h)
      · refine V_iconst dX5_disagree_80 ?_
        exact V_iretb (b := false) dX5_disagree_81 rfl (by decide) (q_pB h)
    · refine V_iconst dX5_disagree_80 ?_
      exact V_iretb (b := false) dX5_disagree_81 rfl (by decide) (q_pB h)
  · refine V_iconst dX5_disagree_80 ?_
    exact V_iretb (b := false) dX5_disagree_81 rfl (by decide) (q_pB h)
