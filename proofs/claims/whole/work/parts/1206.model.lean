def fX12_keeps (M : xM)  : Option xM := xj (fun (M1 : xM) => xwt M1 97 140 (14 * (M1 94 3)) (M1 95 1) fun M3 => xwt M3 97 140 ((14 * (M1 94 3)) + 1) (M3 95 2) fun M4 => xwt M4 97 140 ((14 * (M1 94 3)) + 2) (M4 95 3) fun M5 => xb (fX12_keeps_L98 xfuel M5 (14 * (M1 94 3)) 0) fun M9 => xlet (xup M9 94 3 ((M9 94 3) + 1)) fun M11 => some M11) fun j2 => (if wr (M 94 3) = wr 10 then (xb (fX12_keeps_L11 xfuel M 0) fun M14 => xlet (xup M14 94 3 ((M14 94 3) - 1)) fun M16 => j2 M16) else j2 M)
set_option maxRecDepth 20000 in
set_option maxHeartbeats 1000000 in
theorem fX12_keeps_c {S : xS} {kp : Option Nat} (hS : xSk kp 98 S) {M : xM} {E : xM} (h : fX12_keeps M = some E) :
    V Y_X12_keeps 1 0 0 0 (xarg 0 [vR (some 94)]) [] S M (xqR S E none) := by
  unfold fX12_keeps at h
  show V Y_X12_keeps 1 0 0 0 [(0, vR (some 94))] [] S M _
  refine V_aload_n dX12_keeps_0 rfl (xm 0 rfl) ?_
  refine V_getI (kI := 3) dX12_keeps_1 fl_X12_67 (sk_94 hS (by decide)) rfl rfl ?_
  refine V_bipush dX12_keeps_4 (by decide) ?_
  refine xjE h (fun j2 hj2 h => ?_)
  have kj2 : ∀ (M1 : xM), j2 M1 = some E → V Y_X12_keeps 1 0 0 48 [(0, vR (some 94))] [] S M1 (xqR S E none) := by
    intro M1 h
    rw [hj2] at h
    refine V_bipush dX12_keeps_48 (by decide) ?_
    refine V_aload_n dX12_keeps_50 rfl (xm 0 rfl) ?_
    refine V_getI (kI := 3) dX12_keeps_51 fl_X12_67 (sk_94 hS (by decide)) rfl rfl ?_
    refine V_imul dX12_keeps_54 ?_
    refine V_istore_n (ls' := [(1, vI (14 * (M1 94 3))), (0, vR (some 94))]) dX12_keeps_55 rfl (by decide) rfl ?_
    refine V_aload_n dX12_keeps_56 rfl (xm 1 rfl) ?_
    refine V_getR dX12_keeps_57 fl_X12_16 (sk_94 hS (by decide)) rfl ?_
    refine V_iload_n dX12_keeps_60 rfl (xm 0 rfl) ?_
    refine V_aload_n dX12_keeps_61 rfl (xm 1 rfl) ?_
    refine V_getR dX12_keeps_62 fl_X12_7 (sk_94 hS (by decide)) rfl ?_
    refine V_iconst dX12_keeps_65 ?_
    refine V_ialdK (j := 1) dX12_keeps_66 (sk_95 hS (by decide)) (by decide) (by decide) ?_
    refine T_iast dX12_keeps_67 (sk_97 hS (by decide)) rfl h (fun M3 h => ?_)
    refine V_aload_n dX12_keeps_68 rfl (xm 1 rfl) ?_
    refine V_getR dX12_keeps_69 fl_X12_16 (sk_94 hS (by decide)) rfl ?_
    refine V_iload_n dX12_keeps_72 rfl (xm 0 rfl) ?_
    refine V_iconst dX12_keeps_73 ?_
    refine V_iadd dX12_keeps_74 ?_
    refine V_aload_n dX12_keeps_75 rfl (xm 1 rfl) ?_
    refine V_getR dX12_keeps_76 fl_X12_7 (sk_94 hS (by decide)) rfl ?_
    refine V_iconst dX12_keeps_79 ?_
    refine V_ialdK (j := 2) dX12_keeps_80 (sk_95 hS (by decide)) (by decide) (by decide) ?_
    refine T_iast dX12_keeps_81 (sk_97 hS (by decide)) rfl h (fun M4 h => ?_)
    refine V_aload_n dX12_keeps_82 rfl (xm 1 rfl) ?_
    refine V_getR dX12_keeps_83 fl_X12_16 (sk_94 hS (by decide)) rfl ?_
    refine V_iload_n dX12_keeps_86 rfl (xm 0 rfl) ?_
    refine V_iconst dX12_keeps_87 ?_
    refine V_iadd dX12_keeps_88 ?_
    refine V_aload_n dX12_keeps_89 rfl (xm 1 rfl) ?_
    refine V_getR dX12_keeps_90 fl_X12_7 (sk_94 hS (by decide)) rfl ?_
    refine V_iconst dX12_keeps_93 ?_
    refine V_ialdK (j := 3) dX12_keeps_94 (sk_95 hS (by decide)) (by decide) (by decide) ?_
    refine T_iast dX12_keeps_95 (sk_97 hS (by decide)) rfl h (fun M5 h => ?_)
    refine V_iconst dX12_keeps_96 ?_
    refine V_istore_n (ls' := [(2, vI 0), (1, vI (14 * (M1 94 3))), (0, vR (some 94))]) dX12_keeps_97 rfl (by decide) rfl ?_
    refine xbE h (fun M9 h10 h => ?_)
    refine V.pick [2, 1, 0] rfl ?_
    refine fX12_keeps_L98_ci (hS.le (by decide)) h10 ?_
    refine V_aload_n dX12_keeps_126 rfl (xm 0 rfl) ?_
    refine V_dup dX12_keeps_127 rfl ?_
    refine V_getI (kI := 3) dX12_keeps_128 fl_X12_67 (sk_94 hS (by decide)) rfl rfl ?_
    refine V_iconst dX12_keeps_131 ?_
    refine V_iadd dX12_keeps_132 ?_
    refine T_putI (kI := 3) dX12_keeps_133 fp_X12_67 (sk_94 hS (by decide)) rfl rfl h (fun M11 h => ?_)
    exact V_ret dX12_keeps_136 rfl (q_v h)
  refine V_icmp_ne (tgt := 48) dX12_keeps_6 (by decide) h (fun _ h => ?_) (fun _ h => ?_)
  · refine V_iconst dX12_keeps_9 ?_
    refine V_istore_n (ls' := [(1, vI 0), (0, vR (some 94))]) dX12_keeps_10 rfl (by decide) rfl ?_
    refine xbE h (fun M14 h15 h => ?_)
    refine V.pick [1, 0] rfl ?_
    refine fX12_keeps_L11_ci (hS.le (by decide)) h15 ?_
    refine V_aload_n dX12_keeps_38 rfl (xm 0 rfl) ?_
    refine V_dup dX12_keeps_39 rfl ?_
    refine V_getI (kI := 3) dX12_keeps_40 fl_X12_67 (sk_94 hS (by decide)) rfl rfl ?_
    refine V_iconst dX12_keeps_43 ?_
    refine V_isub dX12_keeps_44 ?_
    refine T_putI (kI := 3) dX12_keeps_45 fp_X12_67 (sk_94 hS (by decide)) rfl rfl h (fun M16 h => ?_)
    refine V.pick [0] rfl ?_
    exact kj2 M16 h
  · refine V.pick [0] rfl ?_
    exact kj2 M h
def fX12_undo_L69 (n : Nat) (M : xM) (v1 : Int) (v2 : Int) : Option (xM) := match n with
  | 0 => none
  | n + 1 => (if wr v2 < wr 10 then (xrd M 97 140 ((v1 + 3) + v2) fun r8 => xwt M 95 5820 ((20 + (4 * v2)) + 3) r8 fun M9 => fX12_undo_L69 n M9 v1 (v2 + 1)) else some M)
set_option maxRecDepth 20000 in
set_option maxHeartbeats 1000000 in
theorem fX12_undo_L69_c {S : xS} {kp : Option Nat} (hS : xSk kp 98 S) {Q : Option xV → xS → xM → Prop} :
    ∀ (n : Nat) (M : xM) (v1 : Int) (v2 : Int) {Mz : xM}, fX12_undo_L69 n M v1 v2 = some Mz → V Y_X12_undo 0 0 0 104 [(0, vR (some 94))] [] S Mz Q → V Y_X12_undo 0 0 0 69 [(0, vR (some 94)), (1, vI v1), (2, vI v2)] [] S M Q := by
  intro n
  induction n with
  | zero =>
    intro M v1 v2 Mz h k
    cases h
  | succ n ih =>
    intro M v1 v2 Mz h k
    rw [fX12_undo_L69] at h
    refine V_iload_n dX12_undo_69 rfl (xm 2 rfl) ?_
    refine V_bipush dX12_undo_70 (by decide) ?_
    refine V_icmp_ge (tgt := 104) dX12_undo_72 (by decide) h (fun _ h => ?_) (fun _ h => ?_)
    · refine V_aload_n dX12_undo_75 rfl (xm 0 rfl) ?_
      refine V_getR dX12_undo_76 fl_X12_7 (sk_94 hS (by decide)) rfl ?_
      refine V_bipush dX12_undo_79 (by decide) ?_
      refine V_iconst dX12_undo_81 ?_
      refine V_iload_n dX12_undo_82 rfl (xm 2 rfl) ?_
      refine V_imul dX12_undo_83 ?_
      refine V_iadd dX12_undo_84 ?_
      refine V_iconst dX12_undo_85 ?_
      refine V_iadd dX12_undo_86 ?_
      refine V_aload_n dX12_undo_87 rfl (xm 0 rfl) ?_
      refine V_getR dX12_undo_88 fl_X12_16 (sk_94 hS (by decide)) rfl ?_
      refine V_iload_n dX12_undo_91 rfl (xm 1 rfl) ?_
      refine V_iconst dX12_undo_92 ?_
      refine V_iadd dX12_undo_93 ?_
      refine V_iload_n dX12_undo_94 rfl (xm 2 rfl) ?_
      refine V_iadd dX12_undo_95 ?_
      refine T_iald dX12_undo_96 (sk_97 hS (by decide)) rfl h (fun r8 h => ?_)
      refine T_iast dX12_undo_97 (sk_95 hS (by decide)) rfl h (fun M9 h => ?_)
      refine V_iinc (ls' := [(2, vI (v2 + 1)), (0, vR (some 94)), (1, vI v1)]) dX12_undo_98 (xm 2 rfl) (by decide) rfl ?_
      refine V_goto (tgt := 69) dX12_undo_101 (by decide) ?_
      refine V.pick [1, 2, 0] rfl ?_
      exact ih M9 v1 (v2 + 1) h k
    · cases h
      refine V.pick [0] rfl ?_
      exact k
theorem fX12_undo_L69_ci {S : xS} {kp : Option Nat} (hS : xSk kp 98 S) {Q : Option xV → xS → xM → Prop} {n : Nat} {M : xM} {v1 : Int} {v2 : Int} {Mz : xM} (hl : fX12_undo_L69 n M v1 v2 = some Mz) (k : V Y_X12_undo 0 0 0 104 [(0, vR (some 94))] [] S Mz Q) : V Y_X12_undo 0 0 0 69 [(0, vR (some 94)), (1, vI v1), (2, vI v2)] [] S M Q := fX12_undo_L69_c hS _ _ _ _ hl k
def fX12_undo (M : xM)  : Option (Bool × xM) := (if wr (M 94 3) = 0 then some (false, M) else (xlet (xup M 94 3 ((M 94 3) - 1)) fun M1 => xrd M1 97 140 (14 * (M1 94 3)) fun r2 => xlet (xup M1 95 1 r2) fun M3 => xrd M3 97 140 ((14 * (M1 94 3)) + 1) fun r4 => xlet (xup M3 95 2 r4) fun M5 => xrd M5 97 140 ((14 * (M1 94 3)) + 2) fun r6 => xlet (xup M5 95 3 r6) fun M7 => xb (fX12_undo_L69 xfuel M7 (14 * (M1 94 3)) 0) fun M10 => xlet (xup M10 95 9 ((M10 95 9) - 1)) fun M12 => some (true, M12)))
set_option maxRecDepth 20000 in
set_option maxHeartbeats 1000000 in
theorem fX12_undo_c {S : xS} {kp : Option Nat} (hS : xSk kp 98 S) {M : xM} {E : Bool × xM} (h : fX12_undo M = some E) :
    V Y_X12_undo 0 0 0 0 (xarg 0 [vR (some 94)]) [] S M (xqR S E.2 (some (vI (b2i E.1)))) := by
  unfold fX12_undo at h
  show V Y_X12_undo 0 0 0 0 [(0, vR (some 94))] [] S M _
  refine V_aload_n dX12_undo_0 rfl (xm 0 rfl) ?_
  refine V_getI (kI := 3) dX12_undo_1 fl_X12_67 (sk_94 hS (by decide)) rfl rfl ?_
  refine V_if_ne (tgt := 9) dX12_undo_4 (by decide) h (fun _ h => ?_) (fun _ h => ?_)
  · refine V_iconst dX12_undo_7 ?_
    exact V_iretb (b := false) dX12_undo_8 rfl (by decide) (q_wB h)
  · refine V_aload_n dX12_undo_9 rfl (xm 0 rfl) ?_
    refine V_dup dX12_undo_10 rfl ?_
    refine V_getI (kI := 3) dX12_undo_11 fl_X12_67 (sk_94 hS (by decide)) rfl rfl ?_
    refine V_iconst dX12_undo_14 ?_
    refine V_isub dX12_undo_15 ?_
    refine T_putI (kI := 3) dX12_undo_16 fp_X12_67 (sk_94 hS (by decide)) rfl rfl h (fun M1 h => ?_)
    refine V_bipush dX12_undo_19 (by decide) ?_
    refine V_aload_n dX12_undo_21 rfl (xm 0 rfl) ?_
    refine V_getI (kI := 3) dX12_undo_22 fl_X12_67 (sk_94 hS (by decide)) rfl rfl ?_
    refine V_imul dX12_undo_25 ?_
    refine V_istore_n (ls' := [(1, vI (14 * (M1 94 3))), (0, vR (some 94))]) dX12_undo_26 rfl (by decide) rfl ?_
    refine V_aload_n dX12_undo_27 rfl (xm 1 rfl) ?_
    refine V_getR dX12_undo_28 fl_X12_7 (sk_94 hS (by decide)) rfl ?_
    refine V_iconst dX12_undo_31 ?_
    refine V_aload_n dX12_undo_32 rfl (xm 1 rfl) ?_
    refine V_getR dX12_undo_33 fl_X12_16 (sk_94 hS (by decide)) rfl ?_
    refine V_iload_n dX12_undo_36 rfl (xm 0 rfl) ?_
    refine T_iald dX12_undo_37 (sk_97 hS (by decide)) rfl h (fun r2 h => ?_)
    refine xletE h (fun M3 eM3 h => ?_)
    refine V_iastK (j := 1) dX12_undo_38 (sk_95 hS (by decide)) (by decide) (by decide) ?_
    rw [← eM3]
    refine V_aload_n dX12_undo_39 rfl (xm 1 rfl) ?_
    refine V_getR dX12_undo_40 fl_X12_7 (sk_94 hS (by decide)) rfl ?_
    refine V_iconst dX12_undo_43 ?_
    refine V_aload_n dX12_undo_44 rfl (xm 1 rfl) ?_
    refine V_getR dX12_undo_45 fl_X12_16 (sk_94 hS (by decide)) rfl ?_
    refine V_iload_n dX12_undo_48 rfl (xm 0 rfl) ?_
    refine V_iconst dX12_undo_49 ?_
    refine V_iadd dX12_undo_50 ?_
    refine T_iald dX12_undo_51 (sk_97 hS (by decide)) rfl h (fun r4 h => ?_)
    refine xletE h (fun M5 eM5 h => ?_)
    refine V_iastK (j := 2) dX12_undo_52 (sk_95 hS (by decide)) (by decide) (by decide) ?_
    rw [← eM5]
    refine V_aload_n dX12_undo_53 rfl (xm 1 rfl) ?_
    refine V_getR dX12_undo_54 fl_X12_7 (sk_94 hS (by decide)) rfl ?_
    refine V_iconst dX12_undo_57 ?_
    refine V_aload_n dX12_undo_58 rfl (xm 1 rfl) ?_
    refine V_getR dX12_undo_59 fl_X12_16 (sk_94 hS (by decide)) rfl ?_
    refine V_iload_n dX12_undo_62 rfl (xm 0 rfl) ?_
    refine V_iconst dX12_undo_63 ?_
    refine V_iadd dX12_undo_64 ?_
    refine T_iald dX12_undo_65 (sk_97 hS (by decide)) rfl h (fun r6 h => ?_)
    refine xletE h (fun M7 eM7 h => ?_)
    refine V_iastK (j := 3) dX12_undo_66 (sk_95 hS (by decide)) (by decide) (by decide) ?_
    rw [← eM7]
    refine V_iconst dX12_undo_67 ?_
    refine V_istore_n (ls' := [(2, vI 0), (1, vI (14 * (M1 94 3))), (0, vR (some 94))]) dX12_undo_68 rfl (by decide) rfl ?_
    refine xbE h (fun M10 h11 h => ?_)
    refine V.pick [2, 1, 0] rfl ?_
    refine fX12_undo_L69_ci (hS.le (by decide)) h11 ?_
    refine V_aload_n dX12_undo_104 rfl (xm 0 rfl) ?_
    refine V_getR dX12_undo_105 fl_X12_7 (sk_94 hS (by decide)) rfl ?_
    refine V_bipush dX12_undo_108 (by decide) ?_
    refine V_dup2 dX12_undo_110 rfl rfl ?_
    refine V_ialdK (j := 9) dX12_undo_111 (sk_95 hS (by decide)) (by decide) (by decide) ?_
    refine V_iconst dX12_undo_112 ?_
    refine V_isub dX12_undo_113 ?_
    refine xletE h (fun M12 eM12 h => ?_)
    refine V_iastK (j := 9) dX12_undo_114 (sk_95 hS (by decide)) (by decide) (by decide) ?_
    rw [← eM12]
    refine V_iconst dX12_undo_115 ?_
    exact V_iretb (b := true) dX12_undo_116 rfl (by decide) (q_wB h)
def fX12_writes_L17 (n : Nat) (M : xM) (v1 : Int) (v2 : Int) : Option (xM) := match n with
  | 0 => none
  | n + 1 => (if wr v2 < wr 2308 then (xrd M 95 5820 (v2 + 2) fun r6 => xwt M 95 5820 v2 r6 fun M7 => fX12_writes_L17 n M7 v1 (v2 + 1)) else some M)
set_option maxRecDepth 20000 in
set_option maxHeartbeats 1000000 in
theorem fX12_writes_L17_c {S : xS} {kp : Option Nat} (hS : xSk kp 96 S) {Q : Option xV → xS → xM → Prop} :
    ∀ (n : Nat) (M : xM) (v1 : Int) (v2 : Int) {Mz : xM}, fX12_writes_L17 n M v1 v2 = some Mz → V Y_X12_writes 0 0 0 44 [(0, vR (some 94)), (1, vI v1)] [] S Mz Q → V Y_X12_writes 0 0 0 17 [(0, vR (some 94)), (1, vI v1), (2, vI v2)] [] S M Q := by
  intro n
  induction n with
  | zero =>
    intro M v1 v2 Mz h k
    cases h
  | succ n ih =>
    intro M v1 v2 Mz h k
    rw [fX12_writes_L17] at h
    refine V_iload_n dX12_writes_17 rfl (xm 2 rfl) ?_
    refine V_sipush dX12_writes_18 (by decide) ?_
    refine V_icmp_ge (tgt := 44) dX12_writes_21 (by decide) h (fun _ h => ?_) (fun _ h => ?_)
    · refine V_aload_n dX12_writes_24 rfl (xm 0 rfl) ?_
      refine V_getR dX12_writes_25 fl_X12_7 (sk_94 hS (by decide)) rfl ?_
      refine V_iload_n dX12_writes_28 rfl (xm 2 rfl) ?_
      refine V_aload_n dX12_writes_29 rfl (xm 0 rfl) ?_
      refine V_getR dX12_writes_30 fl_X12_7 (sk_94 hS (by decide)) rfl ?_
      refine V_iload_n dX12_writes_33 rfl (xm 2 rfl) ?_
      refine V_iconst dX12_writes_34 ?_
      refine V_iadd dX12_writes_35 ?_
      refine T_iald dX12_writes_36 (sk_95 hS (by decide)) rfl h (fun r6 h => ?_)
      refine T_iast dX12_writes_37 (sk_95 hS (by decide)) rfl h (fun M7 h => ?_)
      refine V_iinc (ls' := [(2, vI (v2 + 1)), (0, vR (some 94)), (1, vI v1)]) dX12_writes_38 (xm 2 rfl) (by decide) rfl ?_
      refine V_goto (tgt := 17) dX12_writes_41 (by decide) ?_
      refine V.pick [1, 2, 0] rfl ?_
      exact ih M7 v1 (v2 + 1) h k
    · cases h
      refine V.pick [0, 1] rfl ?_
      exact k
theorem fX12_writes_L17_ci {S : xS} {kp : Option Nat} (hS : xSk kp 96 S) {Q : Option xV → xS → xM → Prop} {n : Nat} {M : xM} {v1 : Int} {v2 : Int} {Mz : xM} (hl : fX12_writes_L17 n M v1 v2 = some Mz) (k : V Y_X12_writes 0 0 0 44 [(0, vR (some 94)), (1, vI v1)] [] S Mz Q) : V Y_X12_writes 0 0 0 17 [(0, vR (some 94)), (1, vI v1), (2, vI v2)] [] S M Q := fX12_writes_L17_c hS _ _ _ _ hl k
def fX12_writes (M : xM) (v1 : Int) : Option xM := xj (fun (M1 : xM) => xwt M1 95 5820 (1490 + (2 * (M1 95 9))) (M1 95 2) fun M3 => xwt M3 95 5820 ((1490 + (2 * (M3 95 9))) + 1) v1 fun M4 => xlet (xup M4 95 9 ((M4 95 9) + 1)) fun M5 => some M5) fun j2 => (if wr (M 95 9) = wr 410 then (xb (fX12_writes_L17 xfuel M v1 1490) fun M8 => xlet (xup M8 95 9 ((M8 95 9) - 1)) fun M10 => j2 M10) else j2 M)
set_option maxRecDepth 20000 in
set_option maxHeartbeats 1000000 in
theorem fX12_writes_c {S : xS} {kp : Option Nat} (hS : xSk kp 96 S) {M : xM} {v1 : Int} {E : xM} (h : fX12_writes M v1 = some E) :
    V Y_X12_writes 0 0 0 0 (xarg 0 [vR (some 94), vI v1]) [] S M (xqR S E none) := by
  unfold fX12_writes at h
  show V Y_X12_writes 0 0 0 0 [(0, vR (some 94)), (1, vI v1)] [] S M _
  refine V_aload_n dX12_writes_0 rfl (xm 0 rfl) ?_
  refine V_getR dX12_writes_1 fl_X12_7 (sk_94 hS (by decide)) rfl ?_
  refine V_bipush dX12_writes_4 (by decide) ?_
  refine V_ialdK (j := 9) dX12_writes_6 (sk_95 hS (by decide)) (by decide) (by decide) ?_
  refine V_sipush dX12_writes_7 (by decide) ?_
  refine xjE h (fun j2 hj2 h => ?_)
  have kj2 : ∀ (M1 : xM), j2 M1 = some E → V Y_X12_writes 0 0 0 55 [(0, vR (some 94)), (1, vI v1)] [] S M1 (xqR S E none) := by
    intro M1 h
    rw [hj2] at h
    refine V_aload_n dX12_writes_55 rfl (xm 0 rfl) ?_
    refine V_getR dX12_writes_56 fl_X12_7 (sk_94 hS (by decide)) rfl ?_
    refine V_sipush dX12_writes_59 (by decide) ?_
    refine V_iconst dX12_writes_62 ?_
    refine V_aload_n dX12_writes_63 rfl (xm 0 rfl) ?_
    refine V_getR dX12_writes_64 fl_X12_7 (sk_94 hS (by decide)) rfl ?_
    refine V_bipush dX12_writes_67 (by decide) ?_
    refine V_ialdK (j := 9) dX12_writes_69 (sk_95 hS (by decide)) (by decide) (by decide) ?_
    refine V_imul dX12_writes_70 ?_
    refine V_iadd dX12_writes_71 ?_
    refine V_aload_n dX12_writes_72 rfl (xm 0 rfl) ?_
    refine V_getR dX12_writes_73 fl_X12_7 (sk_94 hS (by decide)) rfl ?_
    refine V_iconst dX12_writes_76 ?_
    refine V_ialdK (j := 2) dX12_writes_77 (sk_95 hS (by decide)) (by decide) (by decide) ?_
    refine T_iast dX12_writes_78 (sk_95 hS (by decide)) rfl h (fun M3 h => ?_)
    refine V_aload_n dX12_writes_79 rfl (xm 0 rfl) ?_
    refine V_getR dX12_writes_80 fl_X12_7 (sk_94 hS (by decide)) rfl ?_
    refine V_sipush dX12_writes_83 (by decide) ?_
    refine V_iconst dX12_writes_86 ?_
    refine V_aload_n dX12_writes_87 rfl (xm 0 rfl) ?_
    refine V_getR dX12_writes_88 fl_X12_7 (sk_94 hS (by decide)) rfl ?_
    refine V_bipush dX12_writes_91 (by decide) ?_
    refine V_ialdK (j := 9) dX12_writes_93 (sk_95 hS (by decide)) (by decide) (by decide) ?_
    refine V_imul dX12_writes_94 ?_
    refine V_iadd dX12_writes_95 ?_
    refine V_iconst dX12_writes_96 ?_
    refine V_iadd dX12_writes_97 ?_
    refine V_iload_n dX12_writes_98 rfl (xm 1 rfl) ?_
    refine T_iast dX12_writes_99 (sk_95 hS (by decide)) rfl h (fun M4 h => ?_)
    refine V_aload_n dX12_writes_100 rfl (xm 0 rfl) ?_
    refine V_getR dX12_writes_101 fl_X12_7 (sk_94 hS (by decide)) rfl ?_
    refine V_bipush dX12_writes_104 (by decide) ?_
    refine V_dup2 dX12_writes_106 rfl rfl ?_
    refine V_ialdK (j := 9) dX12_writes_107 (sk_95 hS (by decide)) (by decide) (by decide) ?_
    refine V_iconst dX12_writes_108 ?_
    refine V_iadd dX12_writes_109 ?_
    refine xletE h (fun M5 eM5 h => ?_)
    refine V_iastK (j := 9) dX12_writes_110 (sk_95 hS (by decide)) (by decide) (by decide) ?_
    rw [← eM5]
    exact V_ret dX12_writes_111 rfl (q_v h)
  refine V_icmp_ne (tgt := 55) dX12_writes_10 (by decide) h (fun _ h => ?_) (fun _ h => ?_)
  · refine V_sipush dX12_writes_13 (by decide) ?_
    refine V_istore_n (ls' := [(2, vI 1490), (0, vR (some 94)), (1, vI v1)]) dX12_writes_16 rfl (by decide) rfl ?_
    refine xbE h (fun M8 h9 h => ?_)
    refine V.pick [1, 2, 0] rfl ?_
    refine fX12_writes_L17_ci (hS.le (by decide)) h9 ?_
    refine V_aload_n dX12_writes_44 rfl (xm 0 rfl) ?_
    refine V_getR dX12_writes_45 fl_X12_7 (sk_94 hS (by decide)) rfl ?_
    refine V_bipush dX12_writes_48 (by decide) ?_
    refine V_dup2 dX12_writes_50 rfl rfl ?_
    refine V_ialdK (j := 9) dX12_writes_51 (sk_95 hS (by decide)) (by decide) (by decide) ?_
    refine V_iconst dX12_writes_52 ?_
    refine V_isub dX12_writes_53 ?_
    refine xletE h (fun M10 eM10 h => ?_)
    refine V_iastK (j := 9) dX12_writes_54 (sk_95 hS (by decide)) (by decide) (by decide) ?_
    rw [← eM10]
    refine V.pick [0, 1] rfl ?_
    exact kj2 M10 h
  · refine V.pick [0, 1] rfl ?_
    exact kj2 M h
def fX12_aNoon_L12 (n : Nat) (M : xM) (v1 : Int) (v2 : Int) (v3 : Int) (v4 : Int) (v5 : Int) : Option (Int × Int × Int × Int × xM) := match n with
  | 0 => none
  | n + 1 => (if wr v5 < wr (M 95 5) then (xb (fX12_holderOf M v5 (M 95 2)) fun r2 => xb2 (fX12_voteOf M r2) fun r4 M5 => xj (fun (s6 : Int) => xj (fun (s8 : Int) => xj (fun (s10 : Int) => (if wr r4 = wr ((-1)) then fX12_aNoon_L12 n M5 (xor_ v1 s6) (xor_ v2 s8) (xor_ v3 s10) (xor_ v4 (xshl 1 r2)) (v5 + 1) else fX12_aNoon_L12 n M5 (xor_ v1 s6) (xor_ v2 s8) (xor_ v3 s10) (xor_ v4 0) (v5 + 1))) fun j11 => (if wr r4 = wr 1 then j11 (xshl 1 r2) else j11 0)) fun j9 => (if wr r4 = wr ((-1)) then j9 (xshl 1 v5) else j9 0)) fun j7 => (if wr r4 = wr 1 then j7 (xshl 1 v5) else j7 0)) else some (v1, v2, v3, v4, M))
set_option maxRecDepth 20000 in
set_option maxHeartbeats 1000000 in
theorem fX12_aNoon_L12_c {S : xS} {kp : Option Nat} (hS : xSk kp 103 S) {Q : Option xV → xS → xM → Prop} :
    ∀ (n : Nat) (M : xM) (v1 : Int) (v2 : Int) (v3 : Int) (v4 : Int) (v5 : Int) {x1 : Int} {x2 : Int} {x3 : Int} {x4 : Int} {Mz : xM}, fX12_aNoon_L12 n M v1 v2 v3 v4 v5 = some (x1, x2, x3, x4, Mz) → V Y_X12_aNoon 4 0 0 121 [(0, vR (some 94)), (1, vI x1), (2, vI x2), (3, vI x3), (4, vI x4)] [] S Mz Q → V Y_X12_aNoon 4 0 0 12 [(0, vR (some 94)), (1, vI v1), (2, vI v2), (3, vI v3), (4, vI v4), (5, vI v5)] [] S M Q := by
  intro n
  induction n with
  | zero =>
    intro M v1 v2 v3 v4 v5 x1 x2 x3 x4 Mz h k
    cases h
  | succ n ih =>
    intro M v1 v2 v3 v4 v5 x1 x2 x3 x4 Mz h k
    rw [fX12_aNoon_L12] at h
    refine V_iload dX12_aNoon_12 (xm 5 rfl) ?_
    refine V_aload_n dX12_aNoon_14 rfl (xm 0 rfl) ?_
    refine V_getR dX12_aNoon_15 fl_X12_7 (sk_94 hS (by decide)) rfl ?_
    refine V_iconst dX12_aNoon_18 ?_
    refine V_ialdK (j := 5) dX12_aNoon_19 (sk_95 hS (by decide)) (by decide) (by decide) ?_
    refine V_icmp_ge (tgt := 121) dX12_aNoon_20 (by decide) h (fun _ h => ?_) (fun _ h => ?_)
    · refine V_aload_n dX12_aNoon_23 rfl (xm 0 rfl) ?_
      refine V_iload dX12_aNoon_24 (xm 5 rfl) ?_
      refine V_aload_n dX12_aNoon_26 rfl (xm 0 rfl) ?_
      refine V_getR dX12_aNoon_27 fl_X12_7 (sk_94 hS (by decide)) rfl ?_
      refine V_iconst dX12_aNoon_30 ?_
      refine V_ialdK (j := 2) dX12_aNoon_31 (sk_95 hS (by decide)) (by decide) (by decide) ?_
      refine xbE h (fun r2 h1 h => ?_)
      refine T_callVI dX12_aNoon_32 ok_X12_holderOf (by exact ⟨by decide, rfl⟩) lk_X12_240.1 lk_X12_240.2 (sk_94 hS (by decide)) (hV := ((fX12_holderOf_c (hS.le (by decide)) h1).mono (by decide) (Nat.le_refl _) (Nat.le_refl _))) rfl (Nat.le_of_ble_eq_true rfl) rfl (Nat.le_of_ble_eq_true rfl) ?_
      refine V_istore (ls' := [(6, vI r2), (0, vR (some 94)), (1, vI v1), (2, vI v2), (3, vI v3), (4, vI v4), (5, vI v5)]) dX12_aNoon_35 (by decide) rfl ?_
      refine V_aload_n dX12_aNoon_37 rfl (xm 1 rfl) ?_
      refine V_iload dX12_aNoon_38 (xm 0 rfl) ?_
      refine xb2E h (fun r4 M5 h3 h => ?_)
      refine T_callVI dX12_aNoon_40 ok_X12_voteOf (by exact ⟨by decide, rfl⟩) lk_X12_249.1 lk_X12_249.2 (sk_94 hS (by decide)) (hV := ((fX12_voteOf_c (hS.le (by decide)) h3).mono (by decide) (Nat.le_refl _) (Nat.le_refl _))) rfl (Nat.le_of_ble_eq_true rfl) rfl (Nat.le_of_ble_eq_true rfl) ?_
      refine V_istore (ls' := [(7, vI r4), (6, vI r2), (0, vR (some 94)), (1, vI v1), (2, vI v2), (3, vI v3), (4, vI v4), (5, vI v5)]) dX12_aNoon_43 (by decide) rfl ?_
      refine V_iload_n dX12_aNoon_45 rfl (xm 3 rfl) ?_
      refine V_iload dX12_aNoon_46 (xm 0 rfl) ?_
      refine V_iconst dX12_aNoon_48 ?_
      refine xjE h (fun j7 hj7 h => ?_)
      have kj7 : ∀ (s6 : Int), j7 s6 = some (x1, x2, x3, x4, Mz) → V Y_X12_aNoon 4 0 0 60 [(0, vR (some 94)), (2, vI v2), (3, vI v3), (4, vI v4), (5, vI v5), (6, vI r2), (7, vI r4)] [vI s6, vI v1] S M5 Q := by
        intro s6 h
        rw [hj7] at h
        refine V_ior dX12_aNoon_60 ?_
        refine V_istore_n (ls' := [(1, vI (xor_ v1 s6)), (0, vR (some 94)), (2, vI v2), (3, vI v3), (4, vI v4), (5, vI v5), (6, vI r2), (7, vI r4)]) dX12_aNoon_61 rfl (by decide) rfl ?_
        refine V_iload_n dX12_aNoon_62 rfl (xm 2 rfl) ?_
        refine V_iload dX12_aNoon_63 (xm 7 rfl) ?_
        refine V_iconst dX12_aNoon_65 ?_
        refine xjE h (fun j9 hj9 h => ?_)
        have kj9 : ∀ (s8 : Int), j9 s8 = some (x1, x2, x3, x4, Mz) → V Y_X12_aNoon 4 0 0 77 [(0, vR (some 94)), (1, vI (xor_ v1 s6)), (3, vI v3), (4, vI v4), (5, vI v5), (6, vI r2), (7, vI r4)] [vI s8, vI v2] S M5 Q := by
          intro s8 h
          rw [hj9] at h
          refine V_ior dX12_aNoon_77 ?_
          refine V_istore_n (ls' := [(2, vI (xor_ v2 s8)), (0, vR (some 94)), (1, vI (xor_ v1 s6)), (3, vI v3), (4, vI v4), (5, vI v5), (6, vI r2), (7, vI r4)]) dX12_aNoon_78 rfl (by decide) rfl ?_
          refine V_iload_n dX12_aNoon_79 rfl (xm 3 rfl) ?_
          refine V_iload dX12_aNoon_80 (xm 7 rfl) ?_
          refine V_iconst dX12_aNoon_82 ?_
          refine xjE h (fun j11 hj11 h => ?_)
          have kj11 : ∀ (s10 : Int), j11 s10 = some (x1, x2, x3, x4, Mz) → V Y_X12_aNoon 4 0 0 94 [(0, vR (some 94)), (1, vI (xor_ v1 s6)), (2, vI (xor_ v2 s8)), (4, vI v4), (5, vI v5), (6, vI r2), (7, vI r4)] [vI s10, vI v3] S M5 Q := by
            intro s10 h
            rw [hj11] at h
            refine V_ior dX12_aNoon_94 ?_
            refine V_istore_n (ls' := [(3, vI (xor_ v3 s10)), (0, vR (some 94)), (1, vI (xor_ v1 s6)), (2, vI (xor_ v2 s8)), (4, vI v4), (5, vI v5), (6, vI r2), (7, vI r4)]) dX12_aNoon_95 rfl (by decide) rfl ?_
            refine V_iload dX12_aNoon_96 (xm 4 rfl) ?_
            refine V_iload dX12_aNoon_98 (xm 7 rfl) ?_
            refine V_iconst dX12_aNoon_100 ?_
            refine V_icmp_ne (tgt := 111) dX12_aNoon_101 (by decide) h (fun _ h => ?_) (fun _ h => ?_)
            · refine V_iconst dX12_aNoon_104 ?_
              refine V_iload dX12_aNoon_105 (xm 6 rfl) ?_
              refine V_ishl dX12_aNoon_107 ?_
              refine V_goto (tgt := 112) dX12_aNoon_108 (by decide) ?_
              refine V_ior dX12_aNoon_112 ?_
              refine V_istore (ls' := [(4, vI (xor_ v4 (xshl 1 r2))), (3, vI (xor_ v3 s10)), (0, vR (some 94)), (1, vI (xor_ v1 s6)), (2, vI (xor_ v2 s8)), (5, vI v5), (6, vI r2), (7, vI r4)]) dX12_aNoon_113 (by decide) rfl ?_
              refine V_iinc (ls' := [(5, vI (v5 + 1)), (4, vI (xor_ v4 (xshl 1 r2))), (3, vI (xor_ v3 s10)), (0, vR (some 94)), (1, vI (xor_ v1 s6)), (2, vI (xor_ v2 s8)), (6, vI r2), (7, vI r4)]) dX12_aNoon_115 (xm 5 rfl) (by decide) rfl ?_
              refine V_goto (tgt := 12) dX12_aNoon_118 (by decide) ?_
              refine V.pick [3, 4, 5, 2, 1, 0] rfl ?_
              exact ih M5 (xor_ v1 s6) (xor_ v2 s8) (xor_ v3 s10) (xor_ v4 (xshl 1 r2)) (v5 + 1) h k
            · refine V_iconst dX12_aNoon_111 ?_
              refine V_ior dX12_aNoon_112 ?_
              refine V_istore (ls' := [(4, vI (xor_ v4 0)), (3, vI (xor_ v3 s10)), (0, vR (some 94)), (1, vI (xor_ v1 s6)), (2, vI (xor_ v2 s8)), (5, vI v5), (6, vI r2), (7, vI r4)]) dX12_aNoon_113 (by decide) rfl ?_
              refine V_iinc (ls' := [(5, vI (v5 + 1)), (4, vI (xor_ v4 0)), (3, vI (xor_ v3 s10)), (0, vR (some 94)), (1, vI (xor_ v1 s6)), (2, vI (xor_ v2 s8)), (6, vI r2), (7, vI r4)]) dX12_aNoon_115 (xm 5 rfl) (by decide) rfl ?_
              refine V_goto (tgt := 12) dX12_aNoon_118 (by decide) ?_
              refine V.pick [3, 4, 5, 2, 1, 0] rfl ?_
              exact ih M5 (xor_ v1 s6) (xor_ v2 s8) (xor_ v3 s10) (xor_ v4 0) (v5 + 1) h k
          refine V_icmp_ne (tgt := 93) dX12_aNoon_83 (by decide) h (fun _ h => ?_) (fun _ h => ?_)
          · refine V_iconst dX12_aNoon_86 ?_
            refine V_iload dX12_aNoon_87 (xm 6 rfl) ?_
            refine V_ishl dX12_aNoon_89 ?_
            refine V_goto (tgt := 94) dX12_aNoon_90 (by decide) ?_
            refine V.pick [1, 2, 0, 4, 5, 6, 7] rfl ?_
            exact kj11 (xshl 1 r2) h
          · refine V_iconst dX12_aNoon_93 ?_
            refine V.pick [1, 2, 0, 4, 5, 6, 7] rfl ?_
            exact kj11 0 h
        refine V_icmp_ne (tgt := 76) dX12_aNoon_66 (by decide) h (fun _ h => ?_) (fun _ h => ?_)
        · refine V_iconst dX12_aNoon_69 ?_
          refine V_iload dX12_aNoon_70 (xm 5 rfl) ?_
          refine V_ishl dX12_aNoon_72 ?_
          refine V_goto (tgt := 77) dX12_aNoon_73 (by decide) ?_
          refine V.pick [1, 0, 3, 4, 5, 6, 7] rfl ?_
          exact kj9 (xshl 1 v5) h
        · refine V_iconst dX12_aNoon_76 ?_
          refine V.pick [1, 0, 3, 4, 5, 6, 7] rfl ?_
          exact kj9 0 h
      refine V_icmp_ne (tgt := 59) dX12_aNoon_49 (by decide) h (fun _ h => ?_) (fun _ h => ?_)
      · refine V_iconst dX12_aNoon_52 ?_
        refine V_iload dX12_aNoon_53 (xm 7 rfl) ?_
        refine V_ishl dX12_aNoon_55 ?_
        refine V_goto (tgt := 60) dX12_aNoon_56 (by decide) ?_
        refine V.pick [2, 4, 5, 6, 7, 1, 0] rfl ?_
        exact kj7 (xshl 1 v5) h
      · refine V_iconst dX12_aNoon_59 ?_
        refine V.pick [2, 4, 5, 6, 7, 1, 0] rfl ?_
        exact kj7 0 h
    · cases h
      refine V.pick [0, 1, 2, 3, 4] rfl ?_
      exact k
theorem fX12_aNoon_L12_ci {S : xS} {kp : Option Nat} (hS : xSk kp 103 S) {Q : Option xV → xS → xM → Prop} {n : Nat} {M : xM} {v1 : Int} {v2 : Int} {v3 : Int} {v4 : Int} {v5 : Int} {x1 : Int} {x2 : Int} {x3 : Int} {x4 : Int} {Mz : xM} (hl : fX12_aNoon_L12 n M v1 v2 v3 v4 v5 = some (x1, x2, x3, x4, Mz)) (k : V Y_X12_aNoon 4 0 0 121 [(0, vR (some 94)), (1, vI x1), (2, vI x2), (3, vI x3), (4, vI x4)] [] S Mz Q) : V Y_X12_aNoon 4 0 0 12 [(0, vR (some 94)), (1, vI v1), (2, vI v2), (3, vI v3), (4, vI v4), (5, vI v5)] [] S M Q := fX12_aNoon_L12_c hS _ _ _ _ _ _ _ hl k
def fX12_aNoon_L226 (n : Nat) (M : xM) (v5 : Int) (v6 : Int) (v7 : Int) : Option (xM) := match n with
  | 0 => none
  | n + 1 => (if wr v7 < wr (M 95 5) then (xb2 (fX12_worthOf M v7 (M 95 2) (M 95 1) v5) fun r29 M30 => xj (fun (s31 : Int) => xb (fX12_gives M30 v7 (r29 - s31)) fun M34 => fX12_aNoon_L226 n M34 v5 v6 (v7 + 1)) fun j32 => (if wr (xand (xshr v6 v7) 1) = wr 1 then j32 (M30 95 4) else j32 0)) else some M)
set_option maxRecDepth 20000 in
set_option maxHeartbeats 1000000 in
theorem fX12_aNoon_L226_c {S : xS} {kp : Option Nat} (hS : xSk kp 103 S) {Q : Option xV → xS → xM → Prop} :
    ∀ (n : Nat) (M : xM) (v5 : Int) (v6 : Int) (v7 : Int) {Mz : xM}, fX12_aNoon_L226 n M v5 v6 v7 = some Mz → V Y_X12_aNoon 4 0 0 291 [(0, vR (some 94)), (5, vI v5)] [] S Mz Q → V Y_X12_aNoon 4 0 0 226 [(0, vR (some 94)), (5, vI v5), (6, vI v6), (7, vI v7)] [] S M Q := by
  intro n
  induction n with
  | zero =>
    intro M v5 v6 v7 Mz h k
    cases h
  | succ n ih =>
    intro M v5 v6 v7 Mz h k
    rw [fX12_aNoon_L226] at h
    refine V_iload dX12_aNoon_226 (xm 3 rfl) ?_
    refine V_aload_n dX12_aNoon_228 rfl (xm 0 rfl) ?_
    refine V_getR dX12_aNoon_229 fl_X12_7 (sk_94 hS (by decide)) rfl ?_
    refine V_iconst dX12_aNoon_232 ?_
    refine V_ialdK (j := 5) dX12_aNoon_233 (sk_95 hS (by decide)) (by decide) (by decide) ?_
    refine V_icmp_ge (tgt := 291) dX12_aNoon_234 (by decide) h (fun _ h => ?_) (fun _ h => ?_)
    · refine V_aload_n dX12_aNoon_237 rfl (xm 0 rfl) ?_
      refine V_iload dX12_aNoon_238 (xm 3 rfl) ?_
      refine V_aload_n dX12_aNoon_240 rfl (xm 0 rfl) ?_
      refine V_iload dX12_aNoon_241 (xm 3 rfl) ?_
      refine V_aload_n dX12_aNoon_243 rfl (xm 0 rfl) ?_
      refine V_getR dX12_aNoon_244 fl_X12_7 (sk_94 hS (by decide)) rfl ?_
      refine V_iconst dX12_aNoon_247 ?_
      refine V_ialdK (j := 2) dX12_aNoon_248 (sk_95 hS (by decide)) (by decide) (by decide) ?_
      refine V_aload_n dX12_aNoon_249 rfl (xm 0 rfl) ?_
      refine V_getR dX12_aNoon_250 fl_X12_7 (sk_94 hS (by decide)) rfl ?_
      refine V_iconst dX12_aNoon_253 ?_
      refine V_ialdK (j := 1) dX12_aNoon_254 (sk_95 hS (by decide)) (by decide) (by decide) ?_
      refine V_iload dX12_aNoon_255 (xm 1 rfl) ?_
      refine xb2E h (fun r29 M30 h28 h => ?_)
      refine T_callVI dX12_aNoon_257 ok_X12_worthOf (by exact ⟨by decide, rfl⟩) lk_X12_232.1 lk_X12_232.2 (sk_94 hS (by decide)) (hV := ((fX12_worthOf_c (hS.le (by decide)) h28).mono (by decide) (Nat.le_refl _) (Nat.le_refl _))) rfl (Nat.le_of_ble_eq_true rfl) rfl (Nat.le_of_ble_eq_true rfl) ?_
      refine V_iload dX12_aNoon_260 (xm 2 rfl) ?_
      refine V_iload dX12_aNoon_262 (xm 3 rfl) ?_
      refine V_ishr dX12_aNoon_264 ?_
      refine V_iconst dX12_aNoon_265 ?_
      refine V_iand dX12_aNoon_266 ?_
      refine V_iconst dX12_aNoon_267 ?_
      refine xjE h (fun j32 hj32 h => ?_)
      have kj32 : ∀ (s31 : Int), j32 s31 = some Mz → V Y_X12_aNoon 4 0 0 281 [(0, vR (some 94)), (5, vI v5), (6, vI v6), (7, vI v7)] [vI s31, vI r29, vI v7, vR (some 94)] S M30 Q := by
        intro s31 h
        rw [hj32] at h
        refine V_isub dX12_aNoon_281 ?_
        refine xbE h (fun M34 h33 h => ?_)
        refine T_callVv dX12_aNoon_282 ok_X12_gives (by exact ⟨by decide, rfl⟩) lk_X12_243.1 lk_X12_243.2 (sk_94 hS (by decide)) (hV := ((fX12_gives_c (hS.le (by decide)) h33).mono (by decide) (Nat.le_refl _) (Nat.le_refl _))) rfl (Nat.le_of_ble_eq_true rfl) rfl (Nat.le_of_ble_eq_true rfl) ?_
        refine V_iinc (ls' := [(7, vI (v7 + 1)), (0, vR (some 94)), (5, vI v5), (6, vI v6)]) dX12_aNoon_285 (xm 3 rfl) (by decide) rfl ?_
        refine V_goto (tgt := 226) dX12_aNoon_288 (by decide) ?_
        refine V.pick [1, 2, 3, 0] rfl ?_
        exact ih M34 v5 v6 (v7 + 1) h k
      refine V_icmp_ne (tgt := 280) dX12_aNoon_268 (by decide) h (fun _ h => ?_) (fun _ h => ?_)
      · refine V_aload_n dX12_aNoon_271 rfl (xm 0 rfl) ?_
        refine V_getR dX12_aNoon_272 fl_X12_7 (sk_94 hS (by decide)) rfl ?_
        refine V_iconst dX12_aNoon_275 ?_
        refine V_ialdK (j := 4) dX12_aNoon_276 (sk_95 hS (by decide)) (by decide) (by decide) ?_
        refine V_goto (tgt := 281) dX12_aNoon_277 (by decide) ?_
        refine V.pick [0, 1, 2, 3] rfl ?_
        exact kj32 (M30 95 4) h
      · refine V_iconst dX12_aNoon_280 ?_
        refine V.pick [0, 1, 2, 3] rfl ?_
        exact kj32 0 h
    · cases h
      refine V.pick [0, 1] rfl ?_
      exact k
theorem fX12_aNoon_L226_ci {S : xS} {kp : Option Nat} (hS : xSk kp 103 S) {Q : Option xV → xS → xM → Prop} {n : Nat} {M : xM} {v5 : Int} {v6 : Int} {v7 : Int} {Mz : xM} (hl : fX12_aNoon_L226 n M v5 v6 v7 = some Mz) (k : V Y_X12_aNoon 4 0 0 291 [(0, vR (some 94)), (5, vI v5)] [] S Mz Q) : V Y_X12_aNoon 4 0 0 226 [(0, vR (some 94)), (5, vI v5), (6, vI v6), (7, vI v7)] [] S M Q := fX12_aNoon_L226_c hS _ _ _ _ _ hl k
def fX12_aNoon (M : xM)  : Option (Int × xM) := xb5 (fX12_aNoon_L12 xfuel M 0 0 0 0 0) fun y12 y13 y14 y15 M16 => xj (fun (s18 : Int) => xb (fX12_modulo M16 ((M16 95 1) + s18)) fun r21 => xlet (xup M16 95 1 r21) fun M22 => xj (fun (s23 : Int) => xlet (xup M22 95 3 ((M22 95 3) - s23)) fun M25 => xj (fun (s26 : Int) => xb (fX12_aNoon_L226 xfuel M25 s18 s26 0) fun M35 => xb (fX12_writes M35 s18) fun M38 => xlet (xup M38 95 2 ((M38 95 2) + 1)) fun M39 => (if wr s18 = 0 then some (0, M39) else some (1, M39))) fun j27 => (if wr s18 = wr 1 then j27 y14 else (if wr s18 = wr ((-1)) then j27 y15 else j27 0))) fun j24 => (if wr s18 = 0 then j24 0 else j24 1)) fun j19 => (if wr (M16 95 3) = 0 then j19 0 else (xb (fX12_isEnough M16 y12) fun r41 => (if r41 = true then j19 1 else (xb (fX12_isEnough M16 y13) fun r43 => (if r43 = true then j19 ((-1)) else j19 0)))))
set_option maxRecDepth 20000 in
set_option maxHeartbeats 1000000 in
theorem fX12_aNoon_c {S : xS} {kp : Option Nat} (hS : xSk kp 103 S) {M : xM} {E : Int × xM} (h : fX12_aNoon M = some E) :
    V Y_X12_aNoon 4 0 0 0 (xarg 0 [vR (some 94)]) [] S M (xqR S E.2 (some (vI E.1))) := by
  unfold fX12_aNoon at h
  show V Y_X12_aNoon 4 0 0 0 [(0, vR (some 94))] [] S M _
  refine V_iconst dX12_aNoon_0 ?_
  refine V_istore_n (ls' := [(1, vI 0), (0, vR (some 94))]) dX12_aNoon_1 rfl (by decide) rfl ?_
  refine V_iconst dX12_aNoon_2 ?_
  refine V_istore_n (ls' := [(2, vI 0), (1, vI 0), (0, vR (some 94))]) dX12_aNoon_3 rfl (by decide) rfl ?_
  refine V_iconst dX12_aNoon_4 ?_
  refine V_istore_n (ls' := [(3, vI 0), (2, vI 0), (1, vI 0), (0, vR (some 94))]) dX12_aNoon_5 rfl (by decide) rfl ?_
  refine V_iconst dX12_aNoon_6 ?_
  refine V_istore (ls' := [(4, vI 0), (3, vI 0), (2, vI 0), (1, vI 0), (0, vR (some 94))]) dX12_aNoon_7 (by decide) rfl ?_
  refine V_iconst dX12_aNoon_9 ?_
  refine V_istore (ls' := [(5, vI 0), (4, vI 0), (3, vI 0), (2, vI 0), (1, vI 0), (0, vR (some 94))]) dX12_aNoon_10 (by decide) rfl ?_
  refine xb5E h (fun y12 y13 y14 y15 M16 h17 h => ?_)
  refine V.pick [5, 4, 3, 2, 1, 0] rfl ?_
  refine fX12_aNoon_L12_ci (hS.le (by decide)) h17 ?_
  refine V_aload_n dX12_aNoon_121 rfl (xm 0 rfl) ?_
  refine V_getR dX12_aNoon_122 fl_X12_7 (sk_94 hS (by decide)) rfl ?_
  refine V_iconst dX12_aNoon_125 ?_
  refine V_ialdK (j := 3) dX12_aNoon_126 (sk_95 hS (by decide)) (by decide) (by decide) ?_
  refine xjE h (fun j19 hj19 h => ?_)
  have kj19 : ∀ (s18 : Int), j19 s18 = some E → V Y_X12_aNoon 4 0 0 159 [(0, vR (some 94)), (3, vI y14), (4, vI y15)] [vI s18] S M16 (xqR S E.2 (some (vI E.1))) := by
    intro s18 h
    rw [hj19] at h
    refine V_istore (ls' := [(5, vI s18), (0, vR (some 94)), (3, vI y14), (4, vI y15)]) dX12_aNoon_159 (by decide) rfl ?_
    refine V_aload_n dX12_aNoon_161 rfl (xm 1 rfl) ?_
    refine V_getR dX12_aNoon_162 fl_X12_7 (sk_94 hS (by decide)) rfl ?_
    refine V_iconst dX12_aNoon_165 ?_
    refine V_aload_n dX12_aNoon_166 rfl (xm 1 rfl) ?_
    refine V_aload_n dX12_aNoon_167 rfl (xm 1 rfl) ?_
    refine V_getR dX12_aNoon_168 fl_X12_7 (sk_94 hS (by decide)) rfl ?_
    refine V_iconst dX12_aNoon_171 ?_
    refine V_ialdK (j := 1) dX12_aNoon_172 (sk_95 hS (by decide)) (by decide) (by decide) ?_
    refine V_iload dX12_aNoon_173 (xm 0 rfl) ?_
    refine V_iadd dX12_aNoon_175 ?_
    refine xbE h (fun r21 h20 h => ?_)
    refine T_callVI dX12_aNoon_176 ok_X12_modulo (by exact ⟨by decide, rfl⟩) lk_X12_216.1 lk_X12_216.2 (sk_94 hS (by decide)) (hV := ((fX12_modulo_c (hS.le (by decide)) h20).mono (by decide) (Nat.le_refl _) (Nat.le_refl _))) rfl (Nat.le_of_ble_eq_true rfl) rfl (Nat.le_of_ble_eq_true rfl) ?_
    refine xletE h (fun M22 eM22 h => ?_)
    refine V_iastK (j := 1) dX12_aNoon_179 (sk_95 hS (by decide)) (by decide) (by decide) ?_
    rw [← eM22]
    refine V_aload_n dX12_aNoon_180 rfl (xm 1 rfl) ?_
    refine V_getR dX12_aNoon_181 fl_X12_7 (sk_94 hS (by decide)) rfl ?_
    refine V_iconst dX12_aNoon_184 ?_
    refine V_dup2 dX12_aNoon_185 rfl rfl ?_
    refine V_ialdK (j := 3) dX12_aNoon_186 (sk_95 hS (by decide)) (by decide) (by decide) ?_
    refine V_iload dX12_aNoon_187 (xm 0 rfl) ?_
    refine xjE h (fun j24 hj24 h => ?_)
    have kj24 : ∀ (s23 : Int), j24 s23 = some E → V Y_X12_aNoon 4 0 0 197 [(0, vR (some 94)), (3, vI y14), (4, vI y15), (5, vI s18)] [vI s23, vI (M22 95 3), vI 3, vR (some 95)] S M22 (xqR S E.2 (some (vI E.1))) := by
      intro s23 h
      rw [hj24] at h
      refine V_isub dX12_aNoon_197 ?_
      refine xletE h (fun M25 eM25 h => ?_)
      refine V_iastK (j := 3) dX12_aNoon_198 (sk_95 hS (by decide)) (by decide) (by decide) ?_
      rw [← eM25]
      refine V_iload dX12_aNoon_199 (xm 3 rfl) ?_
      refine V_iconst dX12_aNoon_201 ?_
      refine xjE h (fun j27 hj27 h => ?_)
      have kj27 : ∀ (s26 : Int), j27 s26 = some E → V Y_X12_aNoon 4 0 0 221 [(0, vR (some 94)), (5, vI s18)] [vI s26] S M25 (xqR S E.2 (some (vI E.1))) := by
        intro s26 h
        rw [hj27] at h
        refine V_istore (ls' := [(6, vI s26), (0, vR (some 94)), (5, vI s18)]) dX12_aNoon_221 (by decide) rfl ?_
        refine V_iconst dX12_aNoon_223 ?_
        refine V_istore (ls' := [(7, vI 0), (6, vI s26), (0, vR (some 94)), (5, vI s18)]) dX12_aNoon_224 (by decide) rfl ?_
        refine xbE h (fun M35 h36 h => ?_)
        refine V.pick [2, 3, 1, 0] rfl ?_
        refine fX12_aNoon_L226_ci (hS.le (by decide)) h36 ?_
        refine V_aload_n dX12_aNoon_291 rfl (xm 0 rfl) ?_
        refine V_iload dX12_aNoon_292 (xm 1 rfl) ?_
        refine xbE h (fun M38 h37 h => ?_)
        refine T_callVv dX12_aNoon_294 ok_X12_writes (by exact ⟨by decide, rfl⟩) lk_X12_261.1 lk_X12_261.2 (sk_94 hS (by decide)) (hV := ((fX12_writes_c (hS.le (by decide)) h37).mono (by decide) (Nat.le_refl _) (Nat.le_refl _))) rfl (Nat.le_of_ble_eq_true rfl) rfl (Nat.le_of_ble_eq_true rfl) ?_
        refine V_aload_n dX12_aNoon_297 rfl (xm 0 rfl) ?_
        refine V_getR dX12_aNoon_298 fl_X12_7 (sk_94 hS (by decide)) rfl ?_
        refine V_iconst dX12_aNoon_301 ?_
        refine V_dup2 dX12_aNoon_302 rfl rfl ?_
        refine V_ialdK (j := 2) dX12_aNoon_303 (sk_95 hS (by decide)) (by decide) (by decide) ?_
        refine V_iconst dX12_aNoon_304 ?_
        refine V_iadd dX12_aNoon_305 ?_
        refine xletE h (fun M39 eM39 h => ?_)
        refine V_iastK (j := 2) dX12_aNoon_306 (sk_95 hS (by decide)) (by decide) (by decide) ?_
        rw [← eM39]
        refine V_iload dX12_aNoon_307 (xm 1 rfl) ?_
        refine V_if_ne (tgt := 316) dX12_aNoon_309 (by decide) h (fun _ h => ?_) (fun _ h => ?_)
        · refine V_iconst dX12_aNoon_312 ?_
          refine V_goto (tgt := 317) dX12_aNoon_313 (by decide) ?_
          exact V_ireti dX12_aNoon_317 rfl (q_wI h)
        · refine V_iconst dX12_aNoon_316 ?_
          exact V_ireti dX12_aNoon_317 rfl (q_wI h)
      refine V_icmp_ne (tgt := 209) dX12_aNoon_202 (by decide) h (fun _ h => ?_) (fun _ h => ?_)
      · refine V_iload_n dX12_aNoon_205 rfl (xm 1 rfl) ?_
        refine V_goto (tgt := 221) dX12_aNoon_206 (by decide) ?_
        refine V.pick [0, 3] rfl ?_
        exact kj27 y14 h
      · refine V_iload dX12_aNoon_209 (xm 3 rfl) ?_
        refine V_iconst dX12_aNoon_211 ?_
        refine V_icmp_ne (tgt := 220) dX12_aNoon_212 (by decide) h (fun _ h => ?_) (fun _ h => ?_)
        · refine V_iload dX12_aNoon_215 (xm 2 rfl) ?_
          refine V_goto (tgt := 221) dX12_aNoon_217 (by decide) ?_
          refine V.pick [0, 3] rfl ?_
          exact kj27 y15 h
        · refine V_iconst dX12_aNoon_220 ?_
          refine V.pick [0, 3] rfl ?_
          exact kj27 0 h
    refine V_if_ne (tgt := 196) dX12_aNoon_189 (by decide) h (fun _ h => ?_) (fun _ h => ?_)
    · refine V_iconst dX12_aNoon_192 ?_
      refine V_goto (tgt := 197) dX12_aNoon_193 (by decide) ?_
      refine V.pick [1, 2, 3, 0] rfl ?_
      exact kj24 0 h
    · refine V_iconst dX12_aNoon_196 ?_
      refine V.pick [1, 2, 3, 0] rfl ?_
      exact kj24 1 h
  refine V_if_ne (tgt := 134) dX12_aNoon_127 (by decide) h (fun _ h => ?_) (fun _ h => ?_)
  · refine V_iconst dX12_aNoon_130 ?_
    refine V_goto (tgt := 159) dX12_aNoon_131 (by decide) ?_
    refine V.pick [0, 3, 4] rfl ?_
    exact kj19 0 h
  · refine V_aload_n dX12_aNoon_134 rfl (xm 0 rfl) ?_
    refine V_iload_n dX12_aNoon_135 rfl (xm 1 rfl) ?_
    refine xbE h (fun r41 h40 h => ?_)
    refine T_callVI dX12_aNoon_136 ok_X12_isEnough (by exact ⟨by decide, rfl⟩) lk_X12_258.1 lk_X12_258.2 (sk_94 hS (by decide)) (hV := ((fX12_isEnough_c (hS.le (by decide)) h40).mono (by decide) (Nat.le_refl _) (Nat.le_refl _))) rfl (Nat.le_of_ble_eq_true rfl) rfl (Nat.le_of_ble_eq_true rfl) ?_
    refine V_if_eqB (tgt := 146) dX12_aNoon_139 (by decide) h (fun _ h => ?_) (fun _ h => ?_)
    · refine V_iconst dX12_aNoon_142 ?_
      refine V_goto (tgt := 159) dX12_aNoon_143 (by decide) ?_
      refine V.pick [0, 3, 4] rfl ?_
      exact kj19 1 h
    · refine V_aload_n dX12_aNoon_146 rfl (xm 0 rfl) ?_
      refine V_iload_n dX12_aNoon_147 rfl (xm 2 rfl) ?_
      refine xbE h (fun r43 h42 h => ?_)
      refine T_callVI dX12_aNoon_148 ok_X12_isEnough (by exact ⟨by decide, rfl⟩) lk_X12_258.1 lk_X12_258.2 (sk_94 hS (by decide)) (hV := ((fX12_isEnough_c (hS.le (by decide)) h42).mono (by decide) (Nat.le_refl _) (Nat.le_refl _))) rfl (Nat.le_of_ble_eq_true rfl) rfl (Nat.le_of_ble_eq_true rfl) ?_
      refine V_if_eqB (tgt := 158) dX12_aNoon_151 (by decide) h (fun _ h => ?_) (fun _ h => ?_)
      · refine V_iconst dX12_aNoon_154 ?_
        refine V_goto (tgt := 159) dX12_aNoon_155 (by decide) ?_
        refine V.pick [0, 3, 4] rfl ?_
        exact kj19 ((-1)) h
      · refine V_iconst dX12_aNoon_158 ?_
        refine V.pick [0, 3, 4] rfl ?_
        exact kj19 0 h
def fX12_noons_L31 (n : Nat) (M : xM) (v1 : Int) (v2 : Int) (v3 : Int) : Option (Int × xM) := match n with
  | 0 => none
  | n + 1 => (if wr v3 < wr v1 then (xb (fX12_keeps M) fun M2 => xb2 (fX12_aNoon M2) fun r4 M5 => fX12_noons_L31 n M5 v1 (v2 + r4) (v3 + 1)) else some (v2, M))
set_option maxRecDepth 20000 in
set_option maxHeartbeats 1000000 in
theorem fX12_noons_L31_c {S : xS} {kp : Option Nat} (hS : xSk kp 103 S) {Q : Option xV → xS → xM → Prop} :
    ∀ (n : Nat) (M : xM) (v1 : Int) (v2 : Int) (v3 : Int) {x2 : Int} {Mz : xM}, fX12_noons_L31 n M v1 v2 v3 = some (x2, Mz) → V Y_X12_noons 5 0 0 53 [(2, vI x2)] [] S Mz Q → V Y_X12_noons 5 0 0 31 [(0, vR (some 94)), (1, vI v1), (2, vI v2), (3, vI v3)] [] S M Q := by
  intro n
  induction n with
  | zero =>
    intro M v1 v2 v3 x2 Mz h k
    cases h
  | succ n ih =>
    intro M v1 v2 v3 x2 Mz h k
    rw [fX12_noons_L31] at h
    refine V_iload_n dX12_noons_31 rfl (xm 3 rfl) ?_
    refine V_iload_n dX12_noons_32 rfl (xm 1 rfl) ?_
    refine V_icmp_ge (tgt := 53) dX12_noons_33 (by decide) h (fun _ h => ?_) (fun _ h => ?_)
    · refine V_aload_n dX12_noons_36 rfl (xm 0 rfl) ?_
      refine xbE h (fun M2 h1 h => ?_)
      refine T_callVv dX12_noons_37 ok_X12_keeps (by exact ⟨by decide, rfl⟩) lk_X12_264.1 lk_X12_264.2 (sk_94 hS (by decide)) (hV := ((fX12_keeps_c (hS.le (by decide)) h1).mono (by decide) (Nat.le_refl _) (Nat.le_refl _))) rfl (Nat.le_of_ble_eq_true rfl) rfl (Nat.le_of_ble_eq_true rfl) ?_
      refine V_iload_n dX12_noons_40 rfl (xm 2 rfl) ?_
      refine V_aload_n dX12_noons_41 rfl (xm 0 rfl) ?_
      refine xb2E h (fun r4 M5 h3 h => ?_)
      refine T_callVI dX12_noons_42 ok_X12_aNoon (by exact ⟨by decide, rfl⟩) lk_X12_267.1 lk_X12_267.2 (sk_94 hS (by decide)) (hV := ((fX12_aNoon_c (hS.le (by decide)) h3).mono (by decide) (Nat.le_refl _) (Nat.le_refl _))) rfl (Nat.le_of_ble_eq_true rfl) rfl (Nat.le_of_ble_eq_true rfl) ?_
      refine V_iadd dX12_noons_45 ?_
      refine V_istore_n (ls' := [(2, vI (v2 + r4)), (0, vR (some 94)), (1, vI v1), (3, vI v3)]) dX12_noons_46 rfl (by decide) rfl ?_
      refine V_iinc (ls' := [(3, vI (v3 + 1)), (2, vI (v2 + r4)), (0, vR (some 94)), (1, vI v1)]) dX12_noons_47 (xm 3 rfl) (by decide) rfl ?_
      refine V_goto (tgt := 31) dX12_noons_50 (by decide) ?_
      refine V.pick [2, 3, 1, 0] rfl ?_
      exact ih M5 v1 (v2 + r4) (v3 + 1) h k
    · cases h
      refine V.pick [2] rfl ?_
      exact k
theorem fX12_noons_L31_ci {S : xS} {kp : Option Nat} (hS : xSk kp 103 S) {Q : Option xV → xS → xM → Prop} {n : Nat} {M : xM} {v1 : Int} {v2 : Int} {v3 : Int} {x2 : Int} {Mz : xM} (hl : fX12_noons_L31 n M v1 v2 v3 = some (x2, Mz)) (k : V Y_X12_noons 5 0 0 53 [(2, vI x2)] [] S Mz Q) : V Y_X12_noons 5 0 0 31 [(0, vR (some 94)), (1, vI v1), (2, vI v2), (3, vI v3)] [] S M Q := fX12_noons_L31_c hS _ _ _ _ _ hl k
