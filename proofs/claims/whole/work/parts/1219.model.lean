def fX11_passNoon_L94 (n : Nat) (M : xM) (v2 : Int) (v3 : Int) : Option (xM) := match n with
  | 0 => none
  | n + 1 => (if wr v3 < wr (M 5 0) then (xrd M 9 10 v3 fun r13 => xb2 (fX10_worthTo M v3 (M 1 2) (M 1 1) v2) fun r15 M16 => xwt M16 9 10 v3 (r13 + r15) fun M17 => fX11_passNoon_L94 n M17 v2 (v3 + 1)) else some M)
set_option maxRecDepth 20000 in
set_option maxHeartbeats 1000000 in
theorem fX11_passNoon_L94_c {S : xS} {kp : Option Nat} (hS : xSk kp 94 S) {Q : Option xV → xS → xM → Prop} :
    ∀ (n : Nat) (M : xM) (v2 : Int) (v3 : Int) {Mz : xM}, fX11_passNoon_L94 n M v2 v3 = some Mz → V Y_X11_passNoon 5 0 0 156 [(0, vR (some 0)), (2, vI v2)] [] S Mz Q → V Y_X11_passNoon 5 0 0 94 [(0, vR (some 0)), (2, vI v2), (3, vI v3)] [] S M Q := by
  intro n
  induction n with
  | zero =>
    intro M v2 v3 Mz h k
    cases h
  | succ n ih =>
    intro M v2 v3 Mz h k
    rw [fX11_passNoon_L94] at h
    refine V_iload_n dX11_passNoon_94 rfl (xm 2 rfl) ?_
    refine V_aload_n dX11_passNoon_95 rfl (xm 0 rfl) ?_
    refine V_getR dX11_passNoon_96 fl_X11_12 (sk_0 hS (by decide)) rfl ?_
    refine V_getR dX11_passNoon_99 fl_X11_82 (sk_1 hS (by decide)) rfl ?_
    refine V_getI (kI := 0) dX11_passNoon_102 fl_X11_86 (sk_5 hS (by decide)) rfl rfl ?_
    refine V_icmp_ge (tgt := 156) dX11_passNoon_105 (by decide) h (fun _ h => ?_) (fun _ h => ?_)
    · refine V_aload_n dX11_passNoon_108 rfl (xm 0 rfl) ?_
      refine V_getR dX11_passNoon_109 fl_X11_12 (sk_0 hS (by decide)) rfl ?_
      refine V_getR dX11_passNoon_112 fl_X11_82 (sk_1 hS (by decide)) rfl ?_
      refine V_getR dX11_passNoon_115 fl_X11_172 (sk_5 hS (by decide)) rfl ?_
      refine V_iload_n dX11_passNoon_118 rfl (xm 2 rfl) ?_
      refine V_dup2 dX11_passNoon_119 rfl rfl ?_
      refine T_iald dX11_passNoon_120 (sk_9 hS (by decide)) rfl h (fun r13 h => ?_)
      refine V_aload_n dX11_passNoon_121 rfl (xm 0 rfl) ?_
      refine V_getR dX11_passNoon_122 fl_X11_30 (sk_0 hS (by decide)) rfl ?_
      refine V_aload_n dX11_passNoon_125 rfl (xm 0 rfl) ?_
      refine V_getR dX11_passNoon_126 fl_X11_12 (sk_0 hS (by decide)) rfl ?_
      refine V_iload_n dX11_passNoon_129 rfl (xm 2 rfl) ?_
      refine V_aload_n dX11_passNoon_130 rfl (xm 0 rfl) ?_
      refine V_getR dX11_passNoon_131 fl_X11_12 (sk_0 hS (by decide)) rfl ?_
      refine V_getI (kI := 2) dX11_passNoon_134 fl_X11_103 (sk_1 hS (by decide)) rfl rfl ?_
      refine V_aload_n dX11_passNoon_137 rfl (xm 0 rfl) ?_
      refine V_getR dX11_passNoon_138 fl_X11_12 (sk_0 hS (by decide)) rfl ?_
      refine V_getI (kI := 1) dX11_passNoon_141 fl_X11_100 (sk_1 hS (by decide)) rfl rfl ?_
      refine V_iload_n dX11_passNoon_144 rfl (xm 1 rfl) ?_
      refine xb2E h (fun r15 M16 h14 h => ?_)
      refine T_callVI dX11_passNoon_145 ok_X10_worthTo (by exact ⟨by decide, rfl⟩) lk_X11_152.1 lk_X11_152.2 (sk_43 hS (by decide)) (hV := ((fX10_worthTo_c (hS.le (by decide)) h14).mono (by decide) (Nat.le_refl _) (Nat.le_refl _))) rfl (Nat.le_of_ble_eq_true rfl) rfl (Nat.le_of_ble_eq_true rfl) ?_
      refine V_iadd dX11_passNoon_148 ?_
      refine T_iast dX11_passNoon_149 (sk_9 hS (by decide)) rfl h (fun M17 h => ?_)
      refine V_iinc (ls' := [(3, vI (v3 + 1)), (0, vR (some 0)), (2, vI v2)]) dX11_passNoon_150 (xm 2 rfl) (by decide) rfl ?_
      refine V_goto (tgt := 94) dX11_passNoon_153 (by decide) ?_
      refine V.pick [1, 2, 0] rfl ?_
      exact ih M17 v2 (v3 + 1) h k
    · cases h
      refine V.pick [0, 1] rfl ?_
      exact k
theorem fX11_passNoon_L94_ci {S : xS} {kp : Option Nat} (hS : xSk kp 94 S) {Q : Option xV → xS → xM → Prop} {n : Nat} {M : xM} {v2 : Int} {v3 : Int} {Mz : xM} (hl : fX11_passNoon_L94 n M v2 v3 = some Mz) (k : V Y_X11_passNoon 5 0 0 156 [(0, vR (some 0)), (2, vI v2)] [] S Mz Q) : V Y_X11_passNoon 5 0 0 94 [(0, vR (some 0)), (2, vI v2), (3, vI v3)] [] S M Q := fX11_passNoon_L94_c hS _ _ _ _ hl k
def fX1_bookCell (v0 : Int) : Option Int := xb (fJ9_floorMod_7cf53 v0 410) fun r2 => some r2
set_option maxRecDepth 20000 in
set_option maxHeartbeats 1000000 in
theorem fX1_bookCell_c {S : xS} {kp : Option Nat} (hS : xSk kp 0 S) {M : xM} {v0 : Int} {E : Int} (h : fX1_bookCell v0 = some E) :
    V Y_X1_bookCell 1 0 0 0 (xarg 0 [vI v0]) [] S M (xqR S M (some (vI E))) := by
  unfold fX1_bookCell at h
  show V Y_X1_bookCell 1 0 0 0 [(0, vI v0)] [] S M _
  refine V_iload_n dX1_bookCell_0 rfl (xm 0 rfl) ?_
  refine V_sipush dX1_bookCell_1 (by decide) ?_
  refine xbE h (fun r2 h1 h => ?_)
  refine T_callSI (host := "") dX1_bookCell_4 ok_J9_floorMod_7cf53 lk_X1_58.1 lk_X1_58.2 (hV := ((fJ9_floorMod_7cf53_c (hS.le (by decide)) h1).mono (by decide) (Nat.le_refl _) (Nat.le_refl _))) rfl (Nat.le_of_ble_eq_true rfl) rfl (Nat.le_of_ble_eq_true rfl) ?_
  exact V_ireti dX1_bookCell_7 rfl (q_pI h)
def fX1_endDay (M : xM) (v1 : Int) : Option xM := xb (fX1_bookCell (M 1 2)) fun r2 => xwt M 3 410 r2 v1 fun M3 => xlet (xup M3 1 5 (xmin ((M3 1 5) + 1) 400)) fun M4 => xlet (xup M4 1 2 ((M4 1 2) + 1)) fun M5 => some M5
set_option maxRecDepth 20000 in
set_option maxHeartbeats 1000000 in
theorem fX1_endDay_c {S : xS} {kp : Option Nat} (hS : xSk kp 4 S) {M : xM} {v1 : Int} {E : xM} (h : fX1_endDay M v1 = some E) :
    V Y_X1_endDay 2 0 0 0 (xarg 0 [vR (some 1), vI v1]) [] S M (xqR S E none) := by
  unfold fX1_endDay at h
  show V Y_X1_endDay 2 0 0 0 [(0, vR (some 1)), (1, vI v1)] [] S M _
  refine V_aload_n dX1_endDay_0 rfl (xm 0 rfl) ?_
  refine V_getR dX1_endDay_1 fl_X1_17 (sk_1 hS (by decide)) rfl ?_
  refine V_aload_n dX1_endDay_4 rfl (xm 0 rfl) ?_
  refine V_getI (kI := 2) dX1_endDay_5 fl_X1_71 (sk_1 hS (by decide)) rfl rfl ?_
  refine xbE h (fun r2 h1 h => ?_)
  refine T_callSI (host := "") dX1_endDay_8 ok_X1_bookCell lk_X1_142.1 lk_X1_142.2 (hV := ((fX1_bookCell_c (hS.le (by decide)) h1).mono (by decide) (Nat.le_refl _) (Nat.le_refl _))) rfl (Nat.le_of_ble_eq_true rfl) rfl (Nat.le_of_ble_eq_true rfl) ?_
  refine V_iload_n dX1_endDay_11 rfl (xm 1 rfl) ?_
  refine T_iast dX1_endDay_12 (sk_3 hS (by decide)) rfl h (fun M3 h => ?_)
  refine V_aload_n dX1_endDay_13 rfl (xm 0 rfl) ?_
  refine V_aload_n dX1_endDay_14 rfl (xm 0 rfl) ?_
  refine V_getI (kI := 5) dX1_endDay_15 fl_X1_80 (sk_1 hS (by decide)) rfl rfl ?_
  refine V_iconst dX1_endDay_18 ?_
  refine V_iadd dX1_endDay_19 ?_
  refine V_sipush dX1_endDay_20 (by decide) ?_
  refine V_mmin dX1_endDay_23 mt_X1_146 (by decide) (Nat.le_of_ble_eq_true rfl) ?_
  refine T_putI (kI := 5) dX1_endDay_26 fp_X1_80 (sk_1 hS (by decide)) rfl rfl h (fun M4 h => ?_)
  refine V_aload_n dX1_endDay_29 rfl (xm 0 rfl) ?_
  refine V_dup dX1_endDay_30 rfl ?_
  refine V_getI (kI := 2) dX1_endDay_31 fl_X1_71 (sk_1 hS (by decide)) rfl rfl ?_
  refine V_iconst dX1_endDay_34 ?_
  refine V_iadd dX1_endDay_35 ?_
  refine T_putI (kI := 2) dX1_endDay_36 fp_X1_71 (sk_1 hS (by decide)) rfl rfl h (fun M5 h => ?_)
  exact V_ret dX1_endDay_39 rfl (q_v h)
def fX1_makeTurn_L31 (n : Nat) (M : xM) (v1 : Int) (v2 : Int) (v3 : Int) : Option (Int) := match n with
  | 0 => none
  | n + 1 => (if wr v3 < wr (M 5 0) then (xrd M 11 10 v3 fun r5 => (if wr r5 = wr v1 then (xb (fX1_holderOn M v3 (M 1 2)) fun r7 => fX1_makeTurn_L31 n M v1 (xor_ v2 (xshl 1 r7)) (v3 + 1)) else fX1_makeTurn_L31 n M v1 v2 (v3 + 1))) else some v2)
set_option maxRecDepth 20000 in
set_option maxHeartbeats 1000000 in
theorem fX1_makeTurn_L31_c {S : xS} {kp : Option Nat} (hS : xSk kp 17 S) {Q : Option xV → xS → xM → Prop} :
    ∀ (n : Nat) (M : xM) (v1 : Int) (v2 : Int) (v3 : Int) {x2 : Int}, fX1_makeTurn_L31 n M v1 v2 v3 = some x2 → V Y_X1_makeTurn 2 0 0 75 [(0, vR (some 1)), (2, vI x2)] [] S M Q → V Y_X1_makeTurn 2 0 0 31 [(0, vR (some 1)), (1, vI v1), (2, vI v2), (3, vI v3)] [] S M Q := by
  intro n
  induction n with
  | zero =>
    intro M v1 v2 v3 x2 h k
    cases h
  | succ n ih =>
    intro M v1 v2 v3 x2 h k
    rw [fX1_makeTurn_L31] at h
    refine V_iload_n dX1_makeTurn_31 rfl (xm 3 rfl) ?_
    refine V_aload_n dX1_makeTurn_32 rfl (xm 0 rfl) ?_
    refine V_getR dX1_makeTurn_33 fl_X1_26 (sk_1 hS (by decide)) rfl ?_
    refine V_getI (kI := 0) dX1_makeTurn_36 fl_X1_89 (sk_5 hS (by decide)) rfl rfl ?_
    refine V_icmp_ge (tgt := 75) dX1_makeTurn_39 (by decide) h (fun _ h => ?_) (fun _ h => ?_)
    · refine V_aload_n dX1_makeTurn_42 rfl (xm 0 rfl) ?_
      refine V_getR dX1_makeTurn_43 fl_X1_26 (sk_1 hS (by decide)) rfl ?_
      refine V_getR dX1_makeTurn_46 fl_X1_133 (sk_5 hS (by decide)) rfl ?_
      refine V_iload_n dX1_makeTurn_49 rfl (xm 3 rfl) ?_
      refine T_iald dX1_makeTurn_50 (sk_11 hS (by decide)) rfl h (fun r5 h => ?_)
      refine V_iload_n dX1_makeTurn_51 rfl (xm 1 rfl) ?_
      refine V_icmp_ne (tgt := 69) dX1_makeTurn_52 (by decide) h (fun _ h => ?_) (fun _ h => ?_)
      · refine V_iload_n dX1_makeTurn_55 rfl (xm 2 rfl) ?_
        refine V_iconst dX1_makeTurn_56 ?_
        refine V_aload_n dX1_makeTurn_57 rfl (xm 0 rfl) ?_
        refine V_iload_n dX1_makeTurn_58 rfl (xm 3 rfl) ?_
        refine V_aload_n dX1_makeTurn_59 rfl (xm 0 rfl) ?_
        refine V_getI (kI := 2) dX1_makeTurn_60 fl_X1_71 (sk_1 hS (by decide)) rfl rfl ?_
        refine xbE h (fun r7 h6 h => ?_)
        refine T_callVI dX1_makeTurn_63 ok_X1_holderOn (by exact ⟨by decide, rfl⟩) lk_X1_136.1 lk_X1_136.2 (sk_1 hS (by decide)) (hV := ((fX1_holderOn_c (hS.le (by decide)) h6).mono (by decide) (Nat.le_refl _) (Nat.le_refl _))) rfl (Nat.le_of_ble_eq_true rfl) rfl (Nat.le_of_ble_eq_true rfl) ?_
        refine V_ishl dX1_makeTurn_66 ?_
        refine V_ior dX1_makeTurn_67 ?_
        refine V_istore_n (ls' := [(2, vI (xor_ v2 (xshl 1 r7))), (0, vR (some 1)), (1, vI v1), (3, vI v3)]) dX1_makeTurn_68 rfl (by decide) rfl ?_
        refine V_iinc (ls' := [(3, vI (v3 + 1)), (2, vI (xor_ v2 (xshl 1 r7))), (0, vR (some 1)), (1, vI v1)]) dX1_makeTurn_69 (xm 3 rfl) (by decide) rfl ?_
        refine V_goto (tgt := 31) dX1_makeTurn_72 (by decide) ?_
        refine V.pick [2, 3, 1, 0] rfl ?_
        exact ih M v1 (xor_ v2 (xshl 1 r7)) (v3 + 1) h k
      · refine V_iinc (ls' := [(3, vI (v3 + 1)), (0, vR (some 1)), (1, vI v1), (2, vI v2)]) dX1_makeTurn_69 (xm 3 rfl) (by decide) rfl ?_
        refine V_goto (tgt := 31) dX1_makeTurn_72 (by decide) ?_
        refine V.pick [1, 2, 3, 0] rfl ?_
        exact ih M v1 v2 (v3 + 1) h k
    · cases h
      refine V.pick [0, 2] rfl ?_
      exact k
theorem fX1_makeTurn_L31_ci {S : xS} {kp : Option Nat} (hS : xSk kp 17 S) {Q : Option xV → xS → xM → Prop} {n : Nat} {M : xM} {v1 : Int} {v2 : Int} {v3 : Int} {x2 : Int} (hl : fX1_makeTurn_L31 n M v1 v2 v3 = some x2) (k : V Y_X1_makeTurn 2 0 0 75 [(0, vR (some 1)), (2, vI x2)] [] S M Q) : V Y_X1_makeTurn 2 0 0 31 [(0, vR (some 1)), (1, vI v1), (2, vI v2), (3, vI v3)] [] S M Q := fX1_makeTurn_L31_c hS _ _ _ _ _ hl k
def fX1_makeTurn_L77 (n : Nat) (M : xM) (v2 : Int) (v3 : Int) : Option (xM) := match n with
  | 0 => none
  | n + 1 => (if wr v3 < wr (M 5 0) then (if wr (xand (xshr v2 v3) 1) = 0 then fX1_makeTurn_L77 n M v2 (v3 + 1) else (xrd M 9 10 v3 fun r10 => xwt M 9 10 v3 (r10 - (M 1 4)) fun M11 => fX1_makeTurn_L77 n M11 v2 (v3 + 1))) else some M)
set_option maxRecDepth 20000 in
set_option maxHeartbeats 1000000 in
theorem fX1_makeTurn_L77_c {S : xS} {kp : Option Nat} (hS : xSk kp 10 S) {Q : Option xV → xS → xM → Prop} :
    ∀ (n : Nat) (M : xM) (v2 : Int) (v3 : Int) {Mz : xM}, fX1_makeTurn_L77 n M v2 v3 = some Mz → V Y_X1_makeTurn 2 0 0 118 [] [] S Mz Q → V Y_X1_makeTurn 2 0 0 77 [(0, vR (some 1)), (2, vI v2), (3, vI v3)] [] S M Q := by
  intro n
  induction n with
  | zero =>
    intro M v2 v3 Mz h k
    cases h
  | succ n ih =>
    intro M v2 v3 Mz h k
    rw [fX1_makeTurn_L77] at h
    refine V_iload_n dX1_makeTurn_77 rfl (xm 2 rfl) ?_
    refine V_aload_n dX1_makeTurn_78 rfl (xm 0 rfl) ?_
    refine V_getR dX1_makeTurn_79 fl_X1_26 (sk_1 hS (by decide)) rfl ?_
    refine V_getI (kI := 0) dX1_makeTurn_82 fl_X1_89 (sk_5 hS (by decide)) rfl rfl ?_
    refine V_icmp_ge (tgt := 118) dX1_makeTurn_85 (by decide) h (fun _ h => ?_) (fun _ h => ?_)
    · refine V_iload_n dX1_makeTurn_88 rfl (xm 1 rfl) ?_
      refine V_iload_n dX1_makeTurn_89 rfl (xm 2 rfl) ?_
      refine V_ishr dX1_makeTurn_90 ?_
      refine V_iconst dX1_makeTurn_91 ?_
      refine V_iand dX1_makeTurn_92 ?_
      refine V_if_eq (tgt := 112) dX1_makeTurn_93 (by decide) h (fun _ h => ?_) (fun _ h => ?_)
      · refine V_iinc (ls' := [(3, vI (v3 + 1)), (0, vR (some 1)), (2, vI v2)]) dX1_makeTurn_112 (xm 2 rfl) (by decide) rfl ?_
        refine V_goto (tgt := 77) dX1_makeTurn_115 (by decide) ?_
        refine V.pick [1, 2, 0] rfl ?_
        exact ih M v2 (v3 + 1) h k
      · refine V_aload_n dX1_makeTurn_96 rfl (xm 0 rfl) ?_
        refine V_getR dX1_makeTurn_97 fl_X1_26 (sk_1 hS (by decide)) rfl ?_
        refine V_getR dX1_makeTurn_100 fl_X1_139 (sk_5 hS (by decide)) rfl ?_
        refine V_iload_n dX1_makeTurn_103 rfl (xm 2 rfl) ?_
        refine V_dup2 dX1_makeTurn_104 rfl rfl ?_
        refine T_iald dX1_makeTurn_105 (sk_9 hS (by decide)) rfl h (fun r10 h => ?_)
        refine V_aload_n dX1_makeTurn_106 rfl (xm 0 rfl) ?_
        refine V_getI (kI := 4) dX1_makeTurn_107 fl_X1_77 (sk_1 hS (by decide)) rfl rfl ?_
        refine V_isub dX1_makeTurn_110 ?_
        refine T_iast dX1_makeTurn_111 (sk_9 hS (by decide)) rfl h (fun M11 h => ?_)
        refine V_iinc (ls' := [(3, vI (v3 + 1)), (0, vR (some 1)), (2, vI v2)]) dX1_makeTurn_112 (xm 2 rfl) (by decide) rfl ?_
        refine V_goto (tgt := 77) dX1_makeTurn_115 (by decide) ?_
        refine V.pick [1, 2, 0] rfl ?_
        exact ih M11 v2 (v3 + 1) h k
    · cases h
      refine V.pick [] rfl ?_
      exact k
theorem fX1_makeTurn_L77_ci {S : xS} {kp : Option Nat} (hS : xSk kp 10 S) {Q : Option xV → xS → xM → Prop} {n : Nat} {M : xM} {v2 : Int} {v3 : Int} {Mz : xM} (hl : fX1_makeTurn_L77 n M v2 v3 = some Mz) (k : V Y_X1_makeTurn 2 0 0 118 [] [] S Mz Q) : V Y_X1_makeTurn 2 0 0 77 [(0, vR (some 1)), (2, vI v2), (3, vI v3)] [] S M Q := fX1_makeTurn_L77_c hS _ _ _ _ hl k
def fX1_makeTurn (M : xM) (v1 : Int) : Option xM := xb (fX11_wrap ((M 1 1) + v1) (M 1 0)) fun r2 => xlet (xup M 1 1 r2) fun M3 => xlet (xup M3 1 3 ((M3 1 3) - 1)) fun M4 => xb (fX1_makeTurn_L31 xfuel M4 v1 0 0) fun y8 => xb (fX1_makeTurn_L77 xfuel M4 y8 0) fun M12 => some M12
set_option maxRecDepth 20000 in
set_option maxHeartbeats 1000000 in
theorem fX1_makeTurn_c {S : xS} {kp : Option Nat} (hS : xSk kp 17 S) {M : xM} {v1 : Int} {E : xM} (h : fX1_makeTurn M v1 = some E) :
    V Y_X1_makeTurn 2 0 0 0 (xarg 0 [vR (some 1), vI v1]) [] S M (xqR S E none) := by
  unfold fX1_makeTurn at h
  show V Y_X1_makeTurn 2 0 0 0 [(0, vR (some 1)), (1, vI v1)] [] S M _
  refine V_aload_n dX1_makeTurn_0 rfl (xm 0 rfl) ?_
  refine V_aload_n dX1_makeTurn_1 rfl (xm 0 rfl) ?_
  refine V_getI (kI := 1) dX1_makeTurn_2 fl_X1_68 (sk_1 hS (by decide)) rfl rfl ?_
  refine V_iload_n dX1_makeTurn_5 rfl (xm 1 rfl) ?_
  refine V_iadd dX1_makeTurn_6 ?_
  refine V_aload_n dX1_makeTurn_7 rfl (xm 0 rfl) ?_
  refine V_getI (kI := 0) dX1_makeTurn_8 fl_X1_64 (sk_1 hS (by decide)) rfl rfl ?_
  refine xbE h (fun r2 h1 h => ?_)
  refine T_callSNI (host := "TurnedIsland") dX1_makeTurn_11 ok_X11_wrap lk_X1_127.1 lk_X1_127.2 (hV := ((fX11_wrap_c (hS.le (by decide)) h1).mono (by decide) (Nat.le_refl _) (Nat.le_refl _))) rfl (Nat.le_of_ble_eq_true rfl) rfl (Nat.le_of_ble_eq_true rfl) ?_
  refine T_putI (kI := 1) dX1_makeTurn_14 fp_X1_68 (sk_1 hS (by decide)) rfl rfl h (fun M3 h => ?_)
  refine V_aload_n dX1_makeTurn_17 rfl (xm 0 rfl) ?_
  refine V_dup dX1_makeTurn_18 rfl ?_
  refine V_getI (kI := 3) dX1_makeTurn_19 fl_X1_74 (sk_1 hS (by decide)) rfl rfl ?_
  refine V_iconst dX1_makeTurn_22 ?_
  refine V_isub dX1_makeTurn_23 ?_
  refine T_putI (kI := 3) dX1_makeTurn_24 fp_X1_74 (sk_1 hS (by decide)) rfl rfl h (fun M4 h => ?_)
  refine V_iconst dX1_makeTurn_27 ?_
  refine V_istore_n (ls' := [(2, vI 0), (0, vR (some 1)), (1, vI v1)]) dX1_makeTurn_28 rfl (by decide) rfl ?_
  refine V_iconst dX1_makeTurn_29 ?_
  refine V_istore_n (ls' := [(3, vI 0), (2, vI 0), (0, vR (some 1)), (1, vI v1)]) dX1_makeTurn_30 rfl (by decide) rfl ?_
  refine xbE h (fun y8 h9 h => ?_)
  refine V.pick [2, 3, 1, 0] rfl ?_
  refine fX1_makeTurn_L31_ci (hS.le (by decide)) h9 ?_
  refine V_iconst dX1_makeTurn_75 ?_
  refine V_istore_n (ls' := [(3, vI 0), (0, vR (some 1)), (2, vI y8)]) dX1_makeTurn_76 rfl (by decide) rfl ?_
  refine xbE h (fun M12 h13 h => ?_)
  refine V.pick [1, 2, 0] rfl ?_
  refine fX1_makeTurn_L77_ci (hS.le (by decide)) h13 ?_
  exact V_ret dX1_makeTurn_118 rfl (q_v h)
def fX4_carriedTurn_L6 (n : Nat) (M : xM) (v1 : Int) (v2 : Int) (v3 : Int) : Option (Int × Int) := match n with
  | 0 => none
  | n + 1 => (if wr v3 < wr (M 5 0) then (xrd M 11 10 v3 fun r1 => (if wr r1 = wr 1 then (xrd M 7 10 v3 fun r2 => fX4_carriedTurn_L6 n M (v1 + r2) v2 (v3 + 1)) else (xrd M 11 10 v3 fun r3 => (if wr r3 = wr ((-1)) then (xrd M 7 10 v3 fun r4 => fX4_carriedTurn_L6 n M v1 (v2 + r4) (v3 + 1)) else fX4_carriedTurn_L6 n M v1 v2 (v3 + 1))))) else some (v1, v2))
set_option maxRecDepth 20000 in
set_option maxHeartbeats 1000000 in
theorem fX4_carriedTurn_L6_c {S : xS} {kp : Option Nat} (hS : xSk kp 12 S) {Q : Option xV → xS → xM → Prop} :
    ∀ (n : Nat) (M : xM) (v1 : Int) (v2 : Int) (v3 : Int) {x1 : Int} {x2 : Int}, fX4_carriedTurn_L6 n M v1 v2 v3 = some (x1, x2) → V Y_X4_carriedTurn 2 0 0 61 [(0, vR (some 5)), (1, vI x1), (2, vI x2)] [] S M Q → V Y_X4_carriedTurn 2 0 0 6 [(0, vR (some 5)), (1, vI v1), (2, vI v2), (3, vI v3)] [] S M Q := by
  intro n
  induction n with
  | zero =>
    intro M v1 v2 v3 x1 x2 h k
    cases h
  | succ n ih =>
    intro M v1 v2 v3 x1 x2 h k
    rw [fX4_carriedTurn_L6] at h
    refine V_iload_n dX4_carriedTurn_6 rfl (xm 3 rfl) ?_
    refine V_aload_n dX4_carriedTurn_7 rfl (xm 0 rfl) ?_
    refine V_getI (kI := 0) dX4_carriedTurn_8 fl_X4_30 (sk_5 hS (by decide)) rfl rfl ?_
    refine V_icmp_ge (tgt := 61) dX4_carriedTurn_11 (by decide) h (fun _ h => ?_) (fun _ h => ?_)
    · refine V_aload_n dX4_carriedTurn_14 rfl (xm 0 rfl) ?_
      refine V_getR dX4_carriedTurn_15 fl_X4_27 (sk_5 hS (by decide)) rfl ?_
      refine V_iload_n dX4_carriedTurn_18 rfl (xm 3 rfl) ?_
      refine T_iald dX4_carriedTurn_19 (sk_11 hS (by decide)) rfl h (fun r1 h => ?_)
      refine V_iconst dX4_carriedTurn_20 ?_
      refine V_icmp_ne (tgt := 36) dX4_carriedTurn_21 (by decide) h (fun _ h => ?_) (fun _ h => ?_)
      · refine V_iload_n dX4_carriedTurn_24 rfl (xm 1 rfl) ?_
        refine V_aload_n dX4_carriedTurn_25 rfl (xm 0 rfl) ?_
        refine V_getR dX4_carriedTurn_26 fl_X4_15 (sk_5 hS (by decide)) rfl ?_
        refine V_iload_n dX4_carriedTurn_29 rfl (xm 3 rfl) ?_
        refine T_iald dX4_carriedTurn_30 (sk_7 hS (by decide)) rfl h (fun r2 h => ?_)
        refine V_iadd dX4_carriedTurn_31 ?_
        refine V_istore_n (ls' := [(1, vI (v1 + r2)), (0, vR (some 5)), (2, vI v2), (3, vI v3)]) dX4_carriedTurn_32 rfl (by decide) rfl ?_
        refine V_goto (tgt := 55) dX4_carriedTurn_33 (by decide) ?_
        refine V_iinc (ls' := [(3, vI (v3 + 1)), (1, vI (v1 + r2)), (0, vR (some 5)), (2, vI v2)]) dX4_carriedTurn_55 (xm 3 rfl) (by decide) rfl ?_
        refine V_goto (tgt := 6) dX4_carriedTurn_58 (by decide) ?_
        refine V.pick [2, 1, 3, 0] rfl ?_
        exact ih M (v1 + r2) v2 (v3 + 1) h k
      · refine V_aload_n dX4_carriedTurn_36 rfl (xm 0 rfl) ?_
        refine V_getR dX4_carriedTurn_37 fl_X4_27 (sk_5 hS (by decide)) rfl ?_
        refine V_iload_n dX4_carriedTurn_40 rfl (xm 3 rfl) ?_
        refine T_iald dX4_carriedTurn_41 (sk_11 hS (by decide)) rfl h (fun r3 h => ?_)
        refine V_iconst dX4_carriedTurn_42 ?_
        refine V_icmp_ne (tgt := 55) dX4_carriedTurn_43 (by decide) h (fun _ h => ?_) (fun _ h => ?_)
        · refine V_iload_n dX4_carriedTurn_46 rfl (xm 2 rfl) ?_
          refine V_aload_n dX4_carriedTurn_47 rfl (xm 0 rfl) ?_
          refine V_getR dX4_carriedTurn_48 fl_X4_15 (sk_5 hS (by decide)) rfl ?_
          refine V_iload_n dX4_carriedTurn_51 rfl (xm 3 rfl) ?_
          refine T_iald dX4_carriedTurn_52 (sk_7 hS (by decide)) rfl h (fun r4 h => ?_)
          refine V_iadd dX4_carriedTurn_53 ?_
          refine V_istore_n (ls' := [(2, vI (v2 + r4)), (0, vR (some 5)), (1, vI v1), (3, vI v3)]) dX4_carriedTurn_54 rfl (by decide) rfl ?_
          refine V_iinc (ls' := [(3, vI (v3 + 1)), (2, vI (v2 + r4)), (0, vR (some 5)), (1, vI v1)]) dX4_carriedTurn_55 (xm 3 rfl) (by decide) rfl ?_
          refine V_goto (tgt := 6) dX4_carriedTurn_58 (by decide) ?_
          refine V.pick [2, 3, 1, 0] rfl ?_
          exact ih M v1 (v2 + r4) (v3 + 1) h k
        · refine V_iinc (ls' := [(3, vI (v3 + 1)), (0, vR (some 5)), (1, vI v1), (2, vI v2)]) dX4_carriedTurn_55 (xm 3 rfl) (by decide) rfl ?_
          refine V_goto (tgt := 6) dX4_carriedTurn_58 (by decide) ?_
          refine V.pick [1, 2, 3, 0] rfl ?_
          exact ih M v1 v2 (v3 + 1) h k
    · cases h
      refine V.pick [0, 1, 2] rfl ?_
      exact k
theorem fX4_carriedTurn_L6_ci {S : xS} {kp : Option Nat} (hS : xSk kp 12 S) {Q : Option xV → xS → xM → Prop} {n : Nat} {M : xM} {v1 : Int} {v2 : Int} {v3 : Int} {x1 : Int} {x2 : Int} (hl : fX4_carriedTurn_L6 n M v1 v2 v3 = some (x1, x2)) (k : V Y_X4_carriedTurn 2 0 0 61 [(0, vR (some 5)), (1, vI x1), (2, vI x2)] [] S M Q) : V Y_X4_carriedTurn 2 0 0 6 [(0, vR (some 5)), (1, vI v1), (2, vI v2), (3, vI v3)] [] S M Q := fX4_carriedTurn_L6_c hS _ _ _ _ _ hl k
def fX4_all (M : xM)  : Int := (xshl 1 (M 5 0)) - 1
set_option maxRecDepth 20000 in
set_option maxHeartbeats 1000000 in
theorem fX4_all_c {S : xS} {kp : Option Nat} (hS : xSk kp 6 S) {M : xM} {E : Int} (h : fX4_all M = E) :
    V Y_X4_all 0 0 0 0 (xarg 0 [vR (some 5)]) [] S M (xqR S M (some (vI E))) := by
  unfold fX4_all at h
  show V Y_X4_all 0 0 0 0 [(0, vR (some 5))] [] S M _
  refine V_iconst dX4_all_0 ?_
  refine V_aload_n dX4_all_1 rfl (xm 0 rfl) ?_
  refine V_getI (kI := 0) dX4_all_2 fl_X4_30 (sk_5 hS (by decide)) rfl rfl ?_
  refine V_ishl dX4_all_5 ?_
  refine V_iconst dX4_all_6 ?_
  refine V_isub dX4_all_7 ?_
  exact V_ireti dX4_all_8 rfl (q_tI h)
def fX4_weightOf_L4 (n : Nat) (M : xM) (v1 : Int) (v2 : Int) (v3 : Int) : Option (Int) := match n with
  | 0 => none
  | n + 1 => (if wr v3 < wr (M 5 0) then (if wr (xand (xshr v1 v3) 1) = 0 then fX4_weightOf_L4 n M v1 v2 (v3 + 1) else (xrd M 7 10 v3 fun r1 => fX4_weightOf_L4 n M v1 (v2 + r1) (v3 + 1))) else some v2)
set_option maxRecDepth 20000 in
set_option maxHeartbeats 1000000 in
theorem fX4_weightOf_L4_c {S : xS} {kp : Option Nat} (hS : xSk kp 8 S) {Q : Option xV → xS → xM → Prop} :
    ∀ (n : Nat) (M : xM) (v1 : Int) (v2 : Int) (v3 : Int) {x2 : Int}, fX4_weightOf_L4 n M v1 v2 v3 = some x2 → V Y_X4_weightOf 0 0 0 35 [(2, vI x2)] [] S M Q → V Y_X4_weightOf 0 0 0 4 [(0, vR (some 5)), (1, vI v1), (2, vI v2), (3, vI v3)] [] S M Q := by
  intro n
  induction n with
  | zero =>
    intro M v1 v2 v3 x2 h k
    cases h
  | succ n ih =>
    intro M v1 v2 v3 x2 h k
    rw [fX4_weightOf_L4] at h
    refine V_iload_n dX4_weightOf_4 rfl (xm 3 rfl) ?_
    refine V_aload_n dX4_weightOf_5 rfl (xm 0 rfl) ?_
    refine V_getI (kI := 0) dX4_weightOf_6 fl_X4_30 (sk_5 hS (by decide)) rfl rfl ?_
    refine V_icmp_ge (tgt := 35) dX4_weightOf_9 (by decide) h (fun _ h => ?_) (fun _ h => ?_)
    · refine V_iload_n dX4_weightOf_12 rfl (xm 1 rfl) ?_
      refine V_iload_n dX4_weightOf_13 rfl (xm 3 rfl) ?_
      refine V_ishr dX4_weightOf_14 ?_
      refine V_iconst dX4_weightOf_15 ?_
      refine V_iand dX4_weightOf_16 ?_
      refine V_if_eq (tgt := 29) dX4_weightOf_17 (by decide) h (fun _ h => ?_) (fun _ h => ?_)
      · refine V_iinc (ls' := [(3, vI (v3 + 1)), (0, vR (some 5)), (1, vI v1), (2, vI v2)]) dX4_weightOf_29 (xm 3 rfl) (by decide) rfl ?_
        refine V_goto (tgt := 4) dX4_weightOf_32 (by decide) ?_
        refine V.pick [1, 2, 3, 0] rfl ?_
        exact ih M v1 v2 (v3 + 1) h k
      · refine V_iload_n dX4_weightOf_20 rfl (xm 2 rfl) ?_
        refine V_aload_n dX4_weightOf_21 rfl (xm 0 rfl) ?_
        refine V_getR dX4_weightOf_22 fl_X4_15 (sk_5 hS (by decide)) rfl ?_
        refine V_iload_n dX4_weightOf_25 rfl (xm 3 rfl) ?_
        refine T_iald dX4_weightOf_26 (sk_7 hS (by decide)) rfl h (fun r1 h => ?_)
        refine V_iadd dX4_weightOf_27 ?_
        refine V_istore_n (ls' := [(2, vI (v2 + r1)), (0, vR (some 5)), (1, vI v1), (3, vI v3)]) dX4_weightOf_28 rfl (by decide) rfl ?_
        refine V_iinc (ls' := [(3, vI (v3 + 1)), (2, vI (v2 + r1)), (0, vR (some 5)), (1, vI v1)]) dX4_weightOf_29 (xm 3 rfl) (by decide) rfl ?_
        refine V_goto (tgt := 4) dX4_weightOf_32 (by decide) ?_
        refine V.pick [2, 3, 1, 0] rfl ?_
        exact ih M v1 (v2 + r1) (v3 + 1) h k
    · cases h
      refine V.pick [2] rfl ?_
      exact k
theorem fX4_weightOf_L4_ci {S : xS} {kp : Option Nat} (hS : xSk kp 8 S) {Q : Option xV → xS → xM → Prop} {n : Nat} {M : xM} {v1 : Int} {v2 : Int} {v3 : Int} {x2 : Int} (hl : fX4_weightOf_L4 n M v1 v2 v3 = some x2) (k : V Y_X4_weightOf 0 0 0 35 [(2, vI x2)] [] S M Q) : V Y_X4_weightOf 0 0 0 4 [(0, vR (some 5)), (1, vI v1), (2, vI v2), (3, vI v3)] [] S M Q := fX4_weightOf_L4_c hS _ _ _ _ _ hl k
def fX4_weightOf (M : xM) (v1 : Int) : Option Int := xb (fX4_weightOf_L4 xfuel M v1 0 0) fun y2 => some y2
set_option maxRecDepth 20000 in
set_option maxHeartbeats 1000000 in
theorem fX4_weightOf_c {S : xS} {kp : Option Nat} (hS : xSk kp 8 S) {M : xM} {v1 : Int} {E : Int} (h : fX4_weightOf M v1 = some E) :
    V Y_X4_weightOf 0 0 0 0 (xarg 0 [vR (some 5), vI v1]) [] S M (xqR S M (some (vI E))) := by
  unfold fX4_weightOf at h
  show V Y_X4_weightOf 0 0 0 0 [(0, vR (some 5)), (1, vI v1)] [] S M _
  refine V_iconst dX4_weightOf_0 ?_
  refine V_istore_n (ls' := [(2, vI 0), (0, vR (some 5)), (1, vI v1)]) dX4_weightOf_1 rfl (by decide) rfl ?_
  refine V_iconst dX4_weightOf_2 ?_
  refine V_istore_n (ls' := [(3, vI 0), (2, vI 0), (0, vR (some 5)), (1, vI v1)]) dX4_weightOf_3 rfl (by decide) rfl ?_
  refine xbE h (fun y2 h3 h => ?_)
  refine V.pick [2, 3, 1, 0] rfl ?_
  refine fX4_weightOf_L4_ci (hS.le (by decide)) h3 ?_
  refine V_iload_n dX4_weightOf_35 rfl (xm 0 rfl) ?_
  exact V_ireti dX4_weightOf_36 rfl (q_pI h)
def fX4_isEnough (M : xM) (v1 : Int) : Option Bool := xb (fX4_weightOf M (fX4_all M)) fun r2 => (if wr r2 < wr (2 * v1) then some true else some false)
set_option maxRecDepth 20000 in
set_option maxHeartbeats 1000000 in
theorem fX4_isEnough_c {S : xS} {kp : Option Nat} (hS : xSk kp 8 S) {M : xM} {v1 : Int} {E : Bool} (h : fX4_isEnough M v1 = some E) :
    V Y_X4_isEnough 1 0 0 0 (xarg 0 [vR (some 5), vI v1]) [] S M (xqR S M (some (vI (b2i E)))) := by
  unfold fX4_isEnough at h
  show V Y_X4_isEnough 1 0 0 0 [(0, vR (some 5)), (1, vI v1)] [] S M _
  refine V_iconst dX4_isEnough_0 ?_
  refine V_iload_n dX4_isEnough_1 rfl (xm 1 rfl) ?_
  refine V_imul dX4_isEnough_2 ?_
  refine V_aload_n dX4_isEnough_3 rfl (xm 0 rfl) ?_
  refine V_aload_n dX4_isEnough_4 rfl (xm 0 rfl) ?_
  refine T_callVI dX4_isEnough_5 ok_X4_all (by exact ⟨by decide, rfl⟩) lk_X4_44.1 lk_X4_44.2 (sk_5 hS (by decide)) (hV := ((fX4_all_c (hS.le (by decide)) rfl).mono (by decide) (Nat.le_refl _) (Nat.le_refl _))) rfl (Nat.le_of_ble_eq_true rfl) rfl (Nat.le_of_ble_eq_true rfl) ?_
  refine xbE h (fun r2 h1 h => ?_)
  refine T_callVI dX4_isEnough_8 ok_X4_weightOf (by exact ⟨by decide, rfl⟩) lk_X4_48.1 lk_X4_48.2 (sk_5 hS (by decide)) (hV := ((fX4_weightOf_c (hS.le (by decide)) h1).mono (by decide) (Nat.le_refl _) (Nat.le_refl _))) rfl (Nat.le_of_ble_eq_true rfl) rfl (Nat.le_of_ble_eq_true rfl) ?_
  refine V_icmp_le (tgt := 18) dX4_isEnough_11 (by decide) h (fun _ h => ?_) (fun _ h => ?_)
  · refine V_iconst dX4_isEnough_14 ?_
    refine V_goto (tgt := 19) dX4_isEnough_15 (by decide) ?_
    exact V_iretb (b := true) dX4_isEnough_19 rfl (by decide) (q_pB h)
  · refine V_iconst dX4_isEnough_18 ?_
    exact V_iretb (b := false) dX4_isEnough_19 rfl (by decide) (q_pB h)
def fX4_carriedTurn (M : xM)  : Option Int := xb2 (fX4_carriedTurn_L6 xfuel M 0 0 0) fun y5 y6 => xb (fX4_isEnough M y5) fun r9 => (if r9 = true then some 1 else (xb (fX4_isEnough M y6) fun r11 => (if r11 = true then some ((-1)) else some 0)))
set_option maxRecDepth 20000 in
set_option maxHeartbeats 1000000 in
theorem fX4_carriedTurn_c {S : xS} {kp : Option Nat} (hS : xSk kp 12 S) {M : xM} {E : Int} (h : fX4_carriedTurn M = some E) :
    V Y_X4_carriedTurn 2 0 0 0 (xarg 0 [vR (some 5)]) [] S M (xqR S M (some (vI E))) := by
  unfold fX4_carriedTurn at h
  show V Y_X4_carriedTurn 2 0 0 0 [(0, vR (some 5))] [] S M _
  refine V_iconst dX4_carriedTurn_0 ?_
  refine V_istore_n (ls' := [(1, vI 0), (0, vR (some 5))]) dX4_carriedTurn_1 rfl (by decide) rfl ?_
  refine V_iconst dX4_carriedTurn_2 ?_
  refine V_istore_n (ls' := [(2, vI 0), (1, vI 0), (0, vR (some 5))]) dX4_carriedTurn_3 rfl (by decide) rfl ?_
  refine V_iconst dX4_carriedTurn_4 ?_
  refine V_istore_n (ls' := [(3, vI 0), (2, vI 0), (1, vI 0), (0, vR (some 5))]) dX4_carriedTurn_5 rfl (by decide) rfl ?_
  refine xb2E h (fun y5 y6 h7 h => ?_)
  refine V.pick [3, 2, 1, 0] rfl ?_
  refine fX4_carriedTurn_L6_ci (hS.le (by decide)) h7 ?_
  refine V_aload_n dX4_carriedTurn_61 rfl (xm 0 rfl) ?_
  refine V_iload_n dX4_carriedTurn_62 rfl (xm 1 rfl) ?_
  refine xbE h (fun r9 h8 h => ?_)
  refine T_callVI dX4_carriedTurn_63 ok_X4_isEnough (by exact ⟨by decide, rfl⟩) lk_X4_52.1 lk_X4_52.2 (sk_5 hS (by decide)) (hV := ((fX4_isEnough_c (hS.le (by decide)) h8).mono (by decide) (Nat.le_refl _) (Nat.le_refl _))) rfl (Nat.le_of_ble_eq_true rfl) rfl (Nat.le_of_ble_eq_true rfl) ?_
  refine V_if_eqB (tgt := 71) dX4_carriedTurn_66 (by decide) h (fun _ h => ?_) (fun _ h => ?_)
  · refine V_iconst dX4_carriedTurn_69 ?_
    exact V_ireti dX4_carriedTurn_70 rfl (q_pI h)
  · refine V_aload_n dX4_carriedTurn_71 rfl (xm 0 rfl) ?_
    refine V_iload_n dX4_carriedTurn_72 rfl (xm 2 rfl) ?_
    refine xbE h (fun r11 h10 h => ?_)
    refine T_callVI dX4_carriedTurn_73 ok_X4_isEnough (by exact ⟨by decide, rfl⟩) lk_X4_52.1 lk_X4_52.2 (sk_5 hS (by decide)) (hV := ((fX4_isEnough_c (hS.le (by decide)) h10).mono (by decide) (Nat.le_refl _) (Nat.le_refl _))) rfl (Nat.le_of_ble_eq_true rfl) rfl (Nat.le_of_ble_eq_true rfl) ?_
    refine V_if_eqB (tgt := 83) dX4_carriedTurn_76 (by decide) h (fun _ h => ?_) (fun _ h => ?_)
    · refine V_iconst dX4_carriedTurn_79 ?_
      refine V_goto (tgt := 84) dX4_carriedTurn_80 (by decide) ?_
      exact V_ireti dX4_carriedTurn_84 rfl (q_pI h)
    · refine V_iconst dX4_carriedTurn_83 ?_
      exact V_ireti dX4_carriedTurn_84 rfl (q_pI h)
def fX11_passNoon (M : xM)  : Option (Int × xM) := xb (fX11_passNoon_L13 xfuel M 0) fun M7 => xj (fun (s9 : Int) => xj (fun (M11 : xM) => xb (fX11_passNoon_L94 xfuel M11 s9 0) fun M18 => xb (fX1_endDay M18 s9) fun M21 => some (s9, M21)) fun j12 => (if wr s9 = 0 then j12 M7 else (xb (fX1_makeTurn M7 s9) fun M23 => j12 M23))) fun j10 => (if 0 < wr (M7 1 3) then (xb (fX4_carriedTurn M7) fun r25 => j10 r25) else j10 0)
set_option maxRecDepth 20000 in
set_option maxHeartbeats 1000000 in
theorem fX11_passNoon_c {S : xS} {kp : Option Nat} (hS : xSk kp 94 S) {M : xM} {E : Int × xM} (h : fX11_passNoon M = some E) :
    V Y_X11_passNoon 5 0 0 0 (xarg 0 [vR (some 0)]) [] S M (xqR S E.2 (some (vI E.1))) := by
  unfold fX11_passNoon at h
  show V Y_X11_passNoon 5 0 0 0 [(0, vR (some 0))] [] S M _
  refine V_aload_n dX11_passNoon_0 rfl (xm 0 rfl) ?_
  refine V_getR dX11_passNoon_1 fl_X11_12 (sk_0 hS (by decide)) rfl ?_
  refine V_getR dX11_passNoon_4 fl_X11_82 (sk_1 hS (by decide)) rfl ?_
  refine V_getR dX11_passNoon_7 fl_X11_207 (sk_5 hS (by decide)) rfl ?_
  refine V_astore_n (ls' := [(1, vR (some 11)), (0, vR (some 0))]) dX11_passNoon_10 rfl (by decide) rfl ?_
  refine V_iconst dX11_passNoon_11 ?_
  refine V_istore_n (ls' := [(2, vI 0), (1, vR (some 11)), (0, vR (some 0))]) dX11_passNoon_12 rfl (by decide) rfl ?_
  refine xbE h (fun M7 h8 h => ?_)
  refine V.pick [2, 1, 0] rfl ?_
  refine fX11_passNoon_L13_ci (hS.le (by decide)) h8 ?_
  refine V_aload_n dX11_passNoon_55 rfl (xm 0 rfl) ?_
  refine V_getR dX11_passNoon_56 fl_X11_12 (sk_0 hS (by decide)) rfl ?_
  refine V_getI (kI := 3) dX11_passNoon_59 fl_X11_109 (sk_1 hS (by decide)) rfl rfl ?_
  refine xjE h (fun j10 hj10 h => ?_)
  have kj10 : ∀ (s9 : Int), j10 s9 = some E → V Y_X11_passNoon 5 0 0 79 [(0, vR (some 0))] [vI s9] S M7 (xqR S E.2 (some (vI E.1))) := by
    intro s9 h
    rw [hj10] at h
    refine V_istore_n (ls' := [(2, vI s9), (0, vR (some 0))]) dX11_passNoon_79 rfl (by decide) rfl ?_
    refine V_iload_n dX11_passNoon_80 rfl (xm 0 rfl) ?_
    refine xjE h (fun j12 hj12 h => ?_)
    have kj12 : ∀ (M11 : xM), j12 M11 = some E → V Y_X11_passNoon 5 0 0 92 [(0, vR (some 0)), (2, vI s9)] [] S M11 (xqR S E.2 (some (vI E.1))) := by
      intro M11 h
      rw [hj12] at h
      refine V_iconst dX11_passNoon_92 ?_
      refine V_istore_n (ls' := [(3, vI 0), (0, vR (some 0)), (2, vI s9)]) dX11_passNoon_93 rfl (by decide) rfl ?_
      refine xbE h (fun M18 h19 h => ?_)
      refine V.pick [1, 2, 0] rfl ?_
      refine fX11_passNoon_L94_ci (hS.le (by decide)) h19 ?_
      refine V_aload_n dX11_passNoon_156 rfl (xm 0 rfl) ?_
      refine V_getR dX11_passNoon_157 fl_X11_12 (sk_0 hS (by decide)) rfl ?_
      refine V_iload_n dX11_passNoon_160 rfl (xm 1 rfl) ?_
      refine xbE h (fun M21 h20 h => ?_)
      refine T_callVv dX11_passNoon_161 ok_X1_endDay (by exact ⟨by decide, rfl⟩) lk_X11_216.1 lk_X11_216.2 (sk_1 hS (by decide)) (hV := ((fX1_endDay_c (hS.le (by decide)) h20).mono (by decide) (Nat.le_refl _) (Nat.le_refl _))) rfl (Nat.le_of_ble_eq_true rfl) rfl (Nat.le_of_ble_eq_true rfl) ?_
      refine V_iload_n dX11_passNoon_164 rfl (xm 1 rfl) ?_
      exact V_ireti dX11_passNoon_165 rfl (q_wI h)
    refine V_if_eq (tgt := 92) dX11_passNoon_81 (by decide) h (fun _ h => ?_) (fun _ h => ?_)
    · refine V.pick [1, 0] rfl ?_
      exact kj12 M7 h
    · refine V_aload_n dX11_passNoon_84 rfl (xm 1 rfl) ?_
      refine V_getR dX11_passNoon_85 fl_X11_12 (sk_0 hS (by decide)) rfl ?_
      refine V_iload_n dX11_passNoon_88 rfl (xm 0 rfl) ?_
      refine xbE h (fun M23 h22 h => ?_)
      refine T_callVv dX11_passNoon_89 ok_X1_makeTurn (by exact ⟨by decide, rfl⟩) lk_X11_213.1 lk_X11_213.2 (sk_1 hS (by decide)) (hV := ((fX1_makeTurn_c (hS.le (by decide)) h22).mono (by decide) (Nat.le_refl _) (Nat.le_refl _))) rfl (Nat.le_of_ble_eq_true rfl) rfl (Nat.le_of_ble_eq_true rfl) ?_
      refine V.pick [1, 0] rfl ?_
      exact kj12 M23 h
  refine V_if_le (tgt := 78) dX11_passNoon_62 (by decide) h (fun _ h => ?_) (fun _ h => ?_)
  · refine V_aload_n dX11_passNoon_65 rfl (xm 0 rfl) ?_
    refine V_getR dX11_passNoon_66 fl_X11_12 (sk_0 hS (by decide)) rfl ?_
    refine V_getR dX11_passNoon_69 fl_X11_82 (sk_1 hS (by decide)) rfl ?_
    refine xbE h (fun r25 h24 h => ?_)
    refine T_callVI dX11_passNoon_72 ok_X4_carriedTurn (by exact ⟨by decide, rfl⟩) lk_X11_210.1 lk_X11_210.2 (sk_5 hS (by decide)) (hV := ((fX4_carriedTurn_c (hS.le (by decide)) h24).mono (by decide) (Nat.le_refl _) (Nat.le_refl _))) rfl (Nat.le_of_ble_eq_true rfl) rfl (Nat.le_of_ble_eq_true rfl) ?_
    refine V_goto (tgt := 79) dX11_passNoon_75 (by decide) ?_
    refine V.pick [0] rfl ?_
    exact kj10 r25 h
  · refine V_iconst dX11_passNoon_78 ?_
    refine V.pick [0] rfl ?_
    exact kj10 0 h
def fX11_noons_L32 (n : Nat) (M : xM) (v1 : Int) (v2 : Int) (v3 : Int) : Option (Int × xM) := match n with
  | 0 => none
  | n + 1 => (if wr v3 < wr v1 then (xb (fX0_keep M) fun M2 => xb2 (fX11_passNoon M2) fun r4 M5 => (if wr r4 = 0 then fX11_noons_L32 n M5 v1 v2 (v3 + 1) else fX11_noons_L32 n M5 v1 (v2 + 1) (v3 + 1))) else some (v2, M))
set_option maxRecDepth 20000 in
set_option maxHeartbeats 1000000 in
theorem fX11_noons_L32_c {S : xS} {kp : Option Nat} (hS : xSk kp 95 S) {Q : Option xV → xS → xM → Prop} :
    ∀ (n : Nat) (M : xM) (v1 : Int) (v2 : Int) (v3 : Int) {x2 : Int} {Mz : xM}, fX11_noons_L32 n M v1 v2 v3 = some (x2, Mz) → V Y_X11_noons 6 0 0 64 [(2, vI x2)] [] S Mz Q → V Y_X11_noons 6 0 0 32 [(0, vR (some 0)), (1, vI v1), (2, vI v2), (3, vI v3)] [] S M Q := by
  intro n
  induction n with
  | zero =>
    intro M v1 v2 v3 x2 Mz h k
    cases h
  | succ n ih =>
    intro M v1 v2 v3 x2 Mz h k
    rw [fX11_noons_L32] at h
    refine V_iload_n dX11_noons_32 rfl (xm 3 rfl) ?_
    refine V_iload_n dX11_noons_33 rfl (xm 1 rfl) ?_
    refine V_icmp_ge (tgt := 64) dX11_noons_34 (by decide) h (fun _ h => ?_) (fun _ h => ?_)
    · refine V_aload_n dX11_noons_37 rfl (xm 0 rfl) ?_
      refine V_getR dX11_noons_38 fl_X11_53 (sk_0 hS (by decide)) rfl ?_
      refine V_aload_n dX11_noons_41 rfl (xm 0 rfl) ?_
      refine V_getR dX11_noons_42 fl_X11_12 (sk_0 hS (by decide)) rfl ?_
      refine xbE h (fun M2 h1 h => ?_)
      refine T_callVv dX11_noons_45 ok_X0_keep (by exact ⟨by decide, rfl⟩) lk_X11_199.1 lk_X11_199.2 (sk_79 hS (by decide)) (hV := ((fX0_keep_c (hS.le (by decide)) h1).mono (by decide) (Nat.le_refl _) (Nat.le_refl _))) rfl (Nat.le_of_ble_eq_true rfl) rfl (Nat.le_of_ble_eq_true rfl) ?_
      refine V_aload_n dX11_noons_48 rfl (xm 0 rfl) ?_
      refine xb2E h (fun r4 M5 h3 h => ?_)
      refine T_callVI dX11_noons_49 ok_X11_passNoon (by exact ⟨by decide, rfl⟩) lk_X11_203.1 lk_X11_203.2 (sk_0 hS (by decide)) (hV := ((fX11_passNoon_c (hS.le (by decide)) h3).mono (by decide) (Nat.le_refl _) (Nat.le_refl _))) rfl (Nat.le_of_ble_eq_true rfl) rfl (Nat.le_of_ble_eq_true rfl) ?_
      refine V_if_eq (tgt := 58) dX11_noons_52 (by decide) h (fun _ h => ?_) (fun _ h => ?_)
      · refine V_iinc (ls' := [(3, vI (v3 + 1)), (0, vR (some 0)), (1, vI v1), (2, vI v2)]) dX11_noons_58 (xm 3 rfl) (by decide) rfl ?_
        refine V_goto (tgt := 32) dX11_noons_61 (by decide) ?_
        refine V.pick [1, 2, 3, 0] rfl ?_
        exact ih M5 v1 v2 (v3 + 1) h k
      · refine V_iinc (ls' := [(2, vI (v2 + 1)), (0, vR (some 0)), (1, vI v1), (3, vI v3)]) dX11_noons_55 (xm 2 rfl) (by decide) rfl ?_
        refine V_iinc (ls' := [(3, vI (v3 + 1)), (2, vI (v2 + 1)), (0, vR (some 0)), (1, vI v1)]) dX11_noons_58 (xm 3 rfl) (by decide) rfl ?_
        refine V_goto (tgt := 32) dX11_noons_61 (by decide) ?_
        refine V.pick [2, 3, 1, 0] rfl ?_
        exact ih M5 v1 (v2 + 1) (v3 + 1) h k
    · cases h
      refine V.pick [2] rfl ?_
      exact k
theorem fX11_noons_L32_ci {S : xS} {kp : Option Nat} (hS : xSk kp 95 S) {Q : Option xV → xS → xM → Prop} {n : Nat} {M : xM} {v1 : Int} {v2 : Int} {v3 : Int} {x2 : Int} {Mz : xM} (hl : fX11_noons_L32 n M v1 v2 v3 = some (x2, Mz)) (k : V Y_X11_noons 6 0 0 64 [(2, vI x2)] [] S Mz Q) : V Y_X11_noons 6 0 0 32 [(0, vR (some 0)), (1, vI v1), (2, vI v2), (3, vI v3)] [] S M Q := fX11_noons_L32_c hS _ _ _ _ _ hl k
def fX11_noons (M : xM) (v1 : Int) : Option (Int × xM) := (if (fX11_within v1 1 400) = true then (if wr 9999 < wr ((M 1 2) + v1) then some ((-1), M) else (xb2 (fX11_noons_L32 xfuel M v1 0 0) fun y6 M7 => some (y6, M7))) else some ((-1), M))
set_option maxRecDepth 20000 in
set_option maxHeartbeats 1000000 in
theorem fX11_noons_c {S : xS} {kp : Option Nat} (hS : xSk kp 95 S) {M : xM} {v1 : Int} {E : Int × xM} (h : fX11_noons M v1 = some E) :
    V Y_X11_noons 6 0 0 0 (xarg 0 [vR (some 0), vI v1]) [] S M (xqR S E.2 (some (vI E.1))) := by
  unfold fX11_noons at h
  show V Y_X11_noons 6 0 0 0 [(0, vR (some 0)), (1, vI v1)] [] S M _
  refine V_iload_n dX11_noons_0 rfl (xm 1 rfl) ?_
  refine V_iconst dX11_noons_1 ?_
  refine V_sipush dX11_noons_2 (by decide) ?_
  refine T_callSI (host := "") dX11_noons_5 ok_X11_within lk_X11_60.1 lk_X11_60.2 (hV := ((fX11_within_c (hS.le (by decide)) rfl).mono (by decide) (Nat.le_refl _) (Nat.le_refl _))) rfl (Nat.le_of_ble_eq_true rfl) rfl (Nat.le_of_ble_eq_true rfl) ?_
  refine V_if_eqB (tgt := 26) dX11_noons_8 (by decide) h (fun _ h => ?_) (fun _ h => ?_)
  · refine V_aload_n dX11_noons_11 rfl (xm 0 rfl) ?_
    refine V_getR dX11_noons_12 fl_X11_12 (sk_0 hS (by decide)) rfl ?_
    refine V_getI (kI := 2) dX11_noons_15 fl_X11_103 (sk_1 hS (by decide)) rfl rfl ?_
    refine V_iload_n dX11_noons_18 rfl (xm 1 rfl) ?_
    refine V_iadd dX11_noons_19 ?_
    refine V_sipush dX11_noons_20 (by decide) ?_
    refine V_icmp_le (tgt := 28) dX11_noons_23 (by decide) h (fun _ h => ?_) (fun _ h => ?_)
    · refine V_iconst dX11_noons_26 ?_
      exact V_ireti dX11_noons_27 rfl (q_wI h)
    · refine V_iconst dX11_noons_28 ?_
      refine V_istore_n (ls' := [(2, vI 0), (0, vR (some 0)), (1, vI v1)]) dX11_noons_29 rfl (by decide) rfl ?_
      refine V_iconst dX11_noons_30 ?_
      refine V_istore_n (ls' := [(3, vI 0), (2, vI 0), (0, vR (some 0)), (1, vI v1)]) dX11_noons_31 rfl (by decide) rfl ?_
      refine xb2E h (fun y6 M7 h8 h => ?_)
      refine V.pick [2, 3, 1, 0] rfl ?_
      refine fX11_noons_L32_ci (hS.le (by decide)) h8 ?_
      refine V_iload_n dX11_noons_64 rfl (xm 0 rfl) ?_
      exact V_ireti dX11_noons_65 rfl (q_wI h)
  · refine V_iconst dX11_noons_26 ?_
    exact V_ireti dX11_noons_27 rfl (q_wI h)
def fJ6_bitCount_0f7a4 (v0 : Int) : Int := xand (((xand (((xand (v0 - (xand (xushr v0 1) 1431655765)) 858993459) + (xand (xushr (v0 - (xand (xushr v0 1) 1431655765)) 2) 858993459)) + (xushr ((xand (v0 - (xand (xushr v0 1) 1431655765)) 858993459) + (xand (xushr (v0 - (xand (xushr v0 1) 1431655765)) 2) 858993459)) 4)) 252645135) + (xushr (xand (((xand (v0 - (xand (xushr v0 1) 1431655765)) 858993459) + (xand (xushr (v0 - (xand (xushr v0 1) 1431655765)) 2) 858993459)) + (xushr ((xand (v0 - (xand (xushr v0 1) 1431655765)) 858993459) + (xand (xushr (v0 - (xand (xushr v0 1) 1431655765)) 2) 858993459)) 4)) 252645135) 8)) + (xushr ((xand (((xand (v0 - (xand (xushr v0 1) 1431655765)) 858993459) + (xand (xushr (v0 - (xand (xushr v0 1) 1431655765)) 2) 858993459)) + (xushr ((xand (v0 - (xand (xushr v0 1) 1431655765)) 858993459) + (xand (xushr (v0 - (xand (xushr v0 1) 1431655765)) 2) 858993459)) 4)) 252645135) + (xushr (xand (((xand (v0 - (xand (xushr v0 1) 1431655765)) 858993459) + (xand (xushr (v0 - (xand (xushr v0 1) 1431655765)) 2) 858993459)) + (xushr ((xand (v0 - (xand (xushr v0 1) 1431655765)) 858993459) + (xand (xushr (v0 - (xand (xushr v0 1) 1431655765)) 2) 858993459)) 4)) 252645135) 8)) 16)) 63
set_option maxRecDepth 20000 in
set_option maxHeartbeats 1000000 in
theorem fJ6_bitCount_0f7a4_c {S : xS} {kp : Option Nat} (hS : xSk kp 0 S) {M : xM} {v0 : Int} {E : Int} (h : fJ6_bitCount_0f7a4 v0 = E) :
    V Y_J6_bitCount_0f7a4 0 0 0 0 (xarg 0 [vI v0]) [] S M (xqR S M (some (vI E))) := by
  unfold fJ6_bitCount_0f7a4 at h
  show V Y_J6_bitCount_0f7a4 0 0 0 0 [(0, vI v0)] [] S M _
  refine V_iload_n dJ6_bitCount_0f7a4_0 rfl (xm 0 rfl) ?_
  refine V_iload_n dJ6_bitCount_0f7a4_1 rfl (xm 0 rfl) ?_
  refine V_iconst dJ6_bitCount_0f7a4_2 ?_
  refine V_iushr dJ6_bitCount_0f7a4_3 ?_
  refine V_ldcw (n := 1431655765) dJ6_bitCount_0f7a4_4 (xsg4 180 rfl rfl : Cond.constant RJ6 265 1431655765 ∈ xT) (by decide) ?_
  refine V_iand dJ6_bitCount_0f7a4_7 ?_
  refine V_isub dJ6_bitCount_0f7a4_8 ?_
  refine V_istore_n (ls' := [(0, vI (v0 - (xand (xushr v0 1) 1431655765)))]) dJ6_bitCount_0f7a4_9 rfl (by decide) rfl ?_
  refine V_iload_n dJ6_bitCount_0f7a4_10 rfl (xm 0 rfl) ?_
  refine V_ldcw (n := 858993459) dJ6_bitCount_0f7a4_11 (xsg4 181 rfl rfl : Cond.constant RJ6 266 858993459 ∈ xT) (by decide) ?_
  refine V_iand dJ6_bitCount_0f7a4_14 ?_
  refine V_iload_n dJ6_bitCount_0f7a4_15 rfl (xm 0 rfl) ?_
  refine V_iconst dJ6_bitCount_0f7a4_16 ?_
  refine V_iushr dJ6_bitCount_0f7a4_17 ?_
  refine V_ldcw (n := 858993459) dJ6_bitCount_0f7a4_18 (xsg4 181 rfl rfl : Cond.constant RJ6 266 858993459 ∈ xT) (by decide) ?_
  refine V_iand dJ6_bitCount_0f7a4_21 ?_
  refine V_iadd dJ6_bitCount_0f7a4_22 ?_
  refine V_istore_n (ls' := [(0, vI ((xand (v0 - (xand (xushr v0 1) 1431655765)) 858993459) + (xand (xushr (v0 - (xand (xushr v0 1) 1431655765)) 2) 858993459)))]) dJ6_bitCount_0f7a4_23 rfl (by decide) rfl ?_
  refine V_iload_n dJ6_bitCount_0f7a4_24 rfl (xm 0 rfl) ?_
  refine V_iload_n dJ6_bitCount_0f7a4_25 rfl (xm 0 rfl) ?_
  refine V_iconst dJ6_bitCount_0f7a4_26 ?_
  refine V_iushr dJ6_bitCount_0f7a4_27 ?_
  refine V_iadd dJ6_bitCount_0f7a4_28 ?_
  refine V_ldcw (n := 252645135) dJ6_bitCount_0f7a4_29 (xsg4 182 rfl rfl : Cond.constant RJ6 267 252645135 ∈ xT) (by decide) ?_
  refine V_iand dJ6_bitCount_0f7a4_32 ?_
  refine V_istore_n (ls' := [(0, vI (xand (((xand (v0 - (xand (xushr v0 1) 1431655765)) 858993459) + (xand (xushr (v0 - (xand (xushr v0 1) 1431655765)) 2) 858993459)) + (xushr ((xand (v0 - (xand (xushr v0 1) 1431655765)) 858993459) + (xand (xushr (v0 - (xand (xushr v0 1) 1431655765)) 2) 858993459)) 4)) 252645135))]) dJ6_bitCount_0f7a4_33 rfl (by decide) rfl ?_
  refine V_iload_n dJ6_bitCount_0f7a4_34 rfl (xm 0 rfl) ?_
  refine V_iload_n dJ6_bitCount_0f7a4_35 rfl (xm 0 rfl) ?_
  refine V_bipush dJ6_bitCount_0f7a4_36 (by decide) ?_
  refine V_iushr dJ6_bitCount_0f7a4_38 ?_
  refine V_iadd dJ6_bitCount_0f7a4_39 ?_
  refine V_istore_n (ls' := [(0, vI ((xand (((xand (v0 - (xand (xushr v0 1) 1431655765)) 858993459) + (xand (xushr (v0 - (xand (xushr v0 1) 1431655765)) 2) 858993459)) + (xushr ((xand (v0 - (xand (xushr v0 1) 1431655765)) 858993459) + (xand (xushr (v0 - (xand (xushr v0 1) 1431655765)) 2) 858993459)) 4)) 252645135) + (xushr (xand (((xand (v0 - (xand (xushr v0 1) 1431655765)) 858993459) + (xand (xushr (v0 - (xand (xushr v0 1) 1431655765)) 2) 858993459)) + (xushr ((xand (v0 - (xand (xushr v0 1) 1431655765)) 858993459) + (xand (xushr (v0 - (xand (xushr v0 1) 1431655765)) 2) 858993459)) 4)) 252645135) 8)))]) dJ6_bitCount_0f7a4_40 rfl (by decide) rfl ?_
  refine V_iload_n dJ6_bitCount_0f7a4_41 rfl (xm 0 rfl) ?_
  refine V_iload_n dJ6_bitCount_0f7a4_42 rfl (xm 0 rfl) ?_
  refine V_bipush dJ6_bitCount_0f7a4_43 (by decide) ?_
  refine V_iushr dJ6_bitCount_0f7a4_45 ?_
  refine V_iadd dJ6_bitCount_0f7a4_46 ?_
  refine V_istore_n (ls' := [(0, vI (((xand (((xand (v0 - (xand (xushr v0 1) 1431655765)) 858993459) + (xand (xushr (v0 - (xand (xushr v0 1) 1431655765)) 2) 858993459)) + (xushr ((xand (v0 - (xand (xushr v0 1) 1431655765)) 858993459) + (xand (xushr (v0 - (xand (xushr v0 1) 1431655765)) 2) 858993459)) 4)) 252645135) + (xushr (xand (((xand (v0 - (xand (xushr v0 1) 1431655765)) 858993459) + (xand (xushr (v0 - (xand (xushr v0 1) 1431655765)) 2) 858993459)) + (xushr ((xand (v0 - (xand (xushr v0 1) 1431655765)) 858993459) + (xand (xushr (v0 - (xand (xushr v0 1) 1431655765)) 2) 858993459)) 4)) 252645135) 8)) + (xushr ((xand (((xand (v0 - (xand (xushr v0 1) 1431655765)) 858993459) + (xand (xushr (v0 - (xand (xushr v0 1) 1431655765)) 2) 858993459)) + (xushr ((xand (v0 - (xand (xushr v0 1) 1431655765)) 858993459) + (xand (xushr (v0 - (xand (xushr v0 1) 1431655765)) 2) 858993459)) 4)) 252645135) + (xushr (xand (((xand (v0 - (xand (xushr v0 1) 1431655765)) 858993459) + (xand (xushr (v0 - (xand (xushr v0 1) 1431655765)) 2) 858993459)) + (xushr ((xand (v0 - (xand (xushr v0 1) 1431655765)) 858993459) + (xand (xushr (v0 - (xand (xushr v0 1) 1431655765)) 2) 858993459)) 4)) 252645135) 8)) 16)))]) dJ6_bitCount_0f7a4_47 rfl (by decide) rfl ?_
  refine V_iload_n dJ6_bitCount_0f7a4_48 rfl (xm 0 rfl) ?_
  refine V_bipush dJ6_bitCount_0f7a4_49 (by decide) ?_
  refine V_iand dJ6_bitCount_0f7a4_51 ?_
  exact V_ireti dJ6_bitCount_0f7a4_52 rfl (q_tI h)
