def fX9_valueOf (M : xM) (o0 : Nat) : Option (Int × xM) := xb2 (fX9_valueOf_L8 xfuel M o0 0 0 0) fun y20 M21 => some (xmaxL ((-9999)) (xminL 9999 y20), M21)
set_option maxRecDepth 20000 in
set_option maxHeartbeats 1000000 in
theorem fX9_valueOf_c {S : xS} {kp : Option Nat} (hS : xSk kp 50 S) {M : xM} {o0 : Nat} (hw0 : S[o0]? = some (9, 4, [none, none, none, some (some (o0 + 1))])) (hc0 : S[o0 + 1]? = some (100, 400, [])) {E : Int × xM} (h : fX9_valueOf M o0 = some E) :
    V Y_X9_valueOf 1 0 0 0 (xarg 0 [vR (some o0), vR (some 48), vR (some 49)]) [] S M (xqR S E.2 (some (vI E.1))) := by
  unfold fX9_valueOf at h
  show V Y_X9_valueOf 1 0 0 0 [(0, vR (some o0)), (1, vR (some 48)), (2, vR (some 49))] [] S M _
  refine V_lconst (x := 0) dX9_valueOf_0 (by decide) ?_
  refine V_lstore_n (ls' := [(3, vL 0), (0, vR (some o0)), (1, vR (some 48)), (2, vR (some 49))]) dX9_valueOf_1 rfl (by decide) rfl ?_
  refine V_iconst dX9_valueOf_2 ?_
  refine V_istore (ls' := [(5, vI 0), (3, vL 0), (0, vR (some o0)), (1, vR (some 48)), (2, vR (some 49))]) dX9_valueOf_3 (by decide) rfl ?_
  refine V_iconst dX9_valueOf_5 ?_
  refine V_istore (ls' := [(6, vI 0), (5, vI 0), (3, vL 0), (0, vR (some o0)), (1, vR (some 48)), (2, vR (some 49))]) dX9_valueOf_6 (by decide) rfl ?_
  refine xb2E h (fun y20 M21 h22 h => ?_)
  refine V.pick [3, 4, 5, 2, 1, 0] rfl ?_
  refine fX9_valueOf_L8_ci (hS.le (by decide)) hw0 hc0 h22 ?_
  refine V_ldc2 (n := (-9999)) dX9_valueOf_207 (xsg4 48 rfl rfl : Cond.constantLong RX9 36 (-9999) ∈ xT) (by decide) ?_
  refine V_ldc2 (n := 9999) dX9_valueOf_210 (xsg4 49 rfl rfl : Cond.constantLong RX9 38 9999 ∈ xT) (by decide) ?_
  refine V_lload_n dX9_valueOf_213 rfl (xm 0 rfl) ?_
  refine V_mminL dX9_valueOf_214 mt_X9_40 (by decide) (Nat.le_of_ble_eq_true rfl) ?_
  refine V_mmaxL dX9_valueOf_217 mt_X9_46 (by decide) (Nat.le_of_ble_eq_true rfl) ?_
  refine V_l2i dX9_valueOf_220 ?_
  exact V_ireti dX9_valueOf_221 rfl (q_wI h)
def fX10_worthTo (M : xM) (v2 : Int) (v3 : Int) (v4 : Int) (v5 : Int) : Option (Int × xM) := xrd M 8 10 v2 fun r1 => (if (fX11_within r1 0 3) = true then (xix 4 r1 (xj (fun (s3 : Int) => xrd M 47 4 r1 fun r5 => xj (fun (M6 : xM) => xb (fX1_angleOf M6 v2 v4) fun r9 => xj (fun (s10 : Int) => xrd M6 45 192 ((((r1 * 24) + r9) * 2) + s10) fun r12 => xrd M6 46 4 r1 fun r13 => xj (fun (M14 : xM) => xrd M14 44 192 ((((r1 * 24) + r9) * 2) + s10) fun r16 => some (r16, M14)) fun j15 => (if wr r12 = wr r13 then j15 M6 else (xrd M6 46 4 r1 fun r17 => xwt M6 45 192 ((((r1 * 24) + r9) * 2) + s10) r17 fun M18 => xb (fX10_gatherFacts M18 r9 v3 s10) fun M20 => xix 4 r1 (xb2 (fX9_valueOf M20 (28 + 2 * (wr r1).toNat)) fun r23 M24 => xwt M24 44 192 ((((r1 * 24) + r9) * 2) + s10) r23 fun M25 => j15 M25)))) fun j11 => (if wr v5 = 0 then j11 0 else j11 1)) fun j7 => (if wr r5 = wr s3 then j7 M else (xwt M 47 4 r1 s3 fun M26 => xlet (xup M26 43 4 ((M26 43 4) + 1)) fun M27 => xwt M27 46 4 r1 (M27 43 4) fun M28 => j7 M28))) fun j4 => (if wr (M (28 + 2 * (wr r1).toNat) 2) = 0 then j4 (xrem (xdiv v3 30) 12) else j4 (12 + v3)))) else some (0, M))
set_option maxRecDepth 20000 in
set_option maxHeartbeats 1000000 in
theorem fX10_worthTo_c {S : xS} {kp : Option Nat} (hS : xSk kp 50 S) {M : xM} {v2 : Int} {v3 : Int} {v4 : Int} {v5 : Int} {E : Int × xM} (h : fX10_worthTo M v2 v3 v4 v5 = some E) :
    V Y_X10_worthTo 3 0 0 0 (xarg 0 [vR (some 43), vR (some 1), vI v2, vI v3, vI v4, vI v5]) [] S M (xqR S E.2 (some (vI E.1))) := by
  unfold fX10_worthTo at h
  show V Y_X10_worthTo 3 0 0 0 [(0, vR (some 43)), (1, vR (some 1)), (2, vI v2), (3, vI v3), (4, vI v4), (5, vI v5)] [] S M _
  refine V_aload_n dX10_worthTo_0 rfl (xm 1 rfl) ?_
  refine V_getR dX10_worthTo_1 fl_X10_38 (sk_1 hS (by decide)) rfl ?_
  refine V_getR dX10_worthTo_4 fl_X10_44 (sk_5 hS (by decide)) rfl ?_
  refine V_iload_n dX10_worthTo_7 rfl (xm 2 rfl) ?_
  refine T_iald dX10_worthTo_8 (sk_8 hS (by decide)) rfl h (fun r1 h => ?_)
  refine V_istore (ls' := [(6, vI r1), (0, vR (some 43)), (1, vR (some 1)), (2, vI v2), (3, vI v3), (4, vI v4), (5, vI v5)]) dX10_worthTo_9 (by decide) rfl ?_
  refine V_iload dX10_worthTo_11 (xm 0 rfl) ?_
  refine V_iconst dX10_worthTo_13 ?_
  refine V_iconst dX10_worthTo_14 ?_
  refine T_callSNI (host := "TurnedIsland") dX10_worthTo_15 ok_X11_within lk_X10_49.1 lk_X10_49.2 (hV := ((fX11_within_c (hS.le (by decide)) rfl).mono (by decide) (Nat.le_refl _) (Nat.le_refl _))) rfl (Nat.le_of_ble_eq_true rfl) rfl (Nat.le_of_ble_eq_true rfl) ?_
  refine V_if_neB (tgt := 23) dX10_worthTo_18 (by decide) h (fun _ h => ?_) (fun _ h => ?_)
  · refine V_iload_n dX10_worthTo_23 rfl (xm 4 rfl) ?_
    refine V_bipush dX10_worthTo_24 (by decide) ?_
    refine V_idivK dX10_worthTo_26 (by decide) ?_
    refine V_bipush dX10_worthTo_27 (by decide) ?_
    refine V_iremK dX10_worthTo_29 (by decide) ?_
    refine V_istore (ls' := [(7, vI (xrem (xdiv v3 30) 12)), (6, vI r1), (0, vR (some 43)), (1, vR (some 1)), (2, vI v2), (3, vI v3), (4, vI v4), (5, vI v5)]) dX10_worthTo_30 (by decide) rfl ?_
    refine V_aload_n dX10_worthTo_32 rfl (xm 3 rfl) ?_
    refine V_getR dX10_worthTo_33 fl_X10_53 (sk_1 hS (by decide)) rfl ?_
    refine V_iload dX10_worthTo_36 (xm 1 rfl) ?_
    obtain ⟨c2, h⟩ := xixE h
    refine V_aald (r := 28 + 2 * (wr r1).toNat) dX10_worthTo_38 (sk_27 hS (by decide)) (by decide) c2 (rw_27 c2) ?_
    refine V_getI (kI := 2) dX10_worthTo_39 fl_X10_57 (rs_27 hS (by decide) c2) rfl rfl ?_
    refine xjE h (fun j4 hj4 h => ?_)
    have kj4 : ∀ (s3 : Int), j4 s3 = some E → V Y_X10_worthTo 3 0 0 54 [(0, vR (some 43)), (1, vR (some 1)), (2, vI v2), (3, vI v3), (4, vI v4), (5, vI v5), (6, vI r1)] [vI s3] S M (xqR S E.2 (some (vI E.1))) := by
      intro s3 h
      rw [hj4] at h
      refine V_istore (ls' := [(8, vI s3), (0, vR (some 43)), (1, vR (some 1)), (2, vI v2), (3, vI v3), (4, vI v4), (5, vI v5), (6, vI r1)]) dX10_worthTo_54 (by decide) rfl ?_
      refine V_aload_n dX10_worthTo_56 rfl (xm 1 rfl) ?_
      refine V_getR dX10_worthTo_57 fl_X10_21 (sk_43 hS (by decide)) rfl ?_
      refine V_iload dX10_worthTo_60 (xm 7 rfl) ?_
      refine T_iald dX10_worthTo_62 (sk_47 hS (by decide)) rfl h (fun r5 h => ?_)
      refine V_iload dX10_worthTo_63 (xm 0 rfl) ?_
      refine xjE h (fun j7 hj7 h => ?_)
      have kj7 : ∀ (M6 : xM), j7 M6 = some E → V Y_X10_worthTo 3 0 0 98 [(0, vR (some 43)), (1, vR (some 1)), (2, vI v2), (3, vI v3), (4, vI v4), (5, vI v5), (6, vI r1)] [] S M6 (xqR S E.2 (some (vI E.1))) := by
        intro M6 h
        rw [hj7] at h
        refine V_aload_n dX10_worthTo_98 rfl (xm 1 rfl) ?_
        refine V_iload_n dX10_worthTo_99 rfl (xm 2 rfl) ?_
        refine V_iload dX10_worthTo_100 (xm 4 rfl) ?_
        refine xbE h (fun r9 h8 h => ?_)
        refine T_callVI dX10_worthTo_102 ok_X1_angleOf (by exact ⟨by decide, rfl⟩) lk_X10_67.1 lk_X10_67.2 (sk_1 hS (by decide)) (hV := ((fX1_angleOf_c (hS.le (by decide)) h8).mono (by decide) (Nat.le_refl _) (Nat.le_refl _))) rfl (Nat.le_of_ble_eq_true rfl) rfl (Nat.le_of_ble_eq_true rfl) ?_
        refine V_istore (ls' := [(9, vI r9), (0, vR (some 43)), (1, vR (some 1)), (2, vI v2), (3, vI v3), (4, vI v4), (5, vI v5), (6, vI r1)]) dX10_worthTo_105 (by decide) rfl ?_
        refine V_iload dX10_worthTo_107 (xm 6 rfl) ?_
        refine xjE h (fun j11 hj11 h => ?_)
        have kj11 : ∀ (s10 : Int), j11 s10 = some E → V Y_X10_worthTo 3 0 0 117 [(0, vR (some 43)), (1, vR (some 1)), (3, vI v3), (6, vI r1), (9, vI r9)] [vI s10] S M6 (xqR S E.2 (some (vI E.1))) := by
          intro s10 h
          rw [hj11] at h
          refine V_istore (ls' := [(10, vI s10), (0, vR (some 43)), (1, vR (some 1)), (3, vI v3), (6, vI r1), (9, vI r9)]) dX10_worthTo_117 (by decide) rfl ?_
          refine V_iload dX10_worthTo_119 (xm 4 rfl) ?_
          refine V_bipush dX10_worthTo_121 (by decide) ?_
          refine V_imul dX10_worthTo_123 ?_
          refine V_iload dX10_worthTo_124 (xm 5 rfl) ?_
          refine V_iadd dX10_worthTo_126 ?_
          refine V_iconst dX10_worthTo_127 ?_
          refine V_imul dX10_worthTo_128 ?_
          refine V_iload dX10_worthTo_129 (xm 0 rfl) ?_
          refine V_iadd dX10_worthTo_131 ?_
          refine V_istore (ls' := [(11, vI ((((r1 * 24) + r9) * 2) + s10)), (10, vI s10), (0, vR (some 43)), (1, vR (some 1)), (3, vI v3), (6, vI r1), (9, vI r9)]) dX10_worthTo_132 (by decide) rfl ?_
          refine V_aload_n dX10_worthTo_134 rfl (xm 2 rfl) ?_
          refine V_getR dX10_worthTo_135 fl_X10_15 (sk_43 hS (by decide)) rfl ?_
          refine V_iload dX10_worthTo_138 (xm 0 rfl) ?_
          refine T_iald dX10_worthTo_140 (sk_45 hS (by decide)) rfl h (fun r12 h => ?_)
          refine V_aload_n dX10_worthTo_141 rfl (xm 2 rfl) ?_
          refine V_getR dX10_worthTo_142 fl_X10_18 (sk_43 hS (by decide)) rfl ?_
          refine V_iload dX10_worthTo_145 (xm 5 rfl) ?_
          refine T_iald dX10_worthTo_147 (sk_46 hS (by decide)) rfl h (fun r13 h => ?_)
          refine xjE h (fun j15 hj15 h => ?_)
          have kj15 : ∀ (M14 : xM), j15 M14 = some E → V Y_X10_worthTo 3 0 0 200 [(0, vR (some 43)), (11, vI ((((r1 * 24) + r9) * 2) + s10))] [] S M14 (xqR S E.2 (some (vI E.1))) := by
            intro M14 h
            rw [hj15] at h
            refine V_aload_n dX10_worthTo_200 rfl (xm 0 rfl) ?_
            refine V_getR dX10_worthTo_201 fl_X10_9 (sk_43 hS (by decide)) rfl ?_
            refine V_iload dX10_worthTo_204 (xm 1 rfl) ?_
            refine T_iald dX10_worthTo_206 (sk_44 hS (by decide)) rfl h (fun r16 h => ?_)
            exact V_ireti dX10_worthTo_207 rfl (q_wI h)
          refine V_icmp_eq (tgt := 200) dX10_worthTo_148 (by decide) h (fun _ h => ?_) (fun _ h => ?_)
          · refine V.pick [2, 0] rfl ?_
            exact kj15 M6 h
          · refine V_aload_n dX10_worthTo_151 rfl (xm 2 rfl) ?_
            refine V_getR dX10_worthTo_152 fl_X10_15 (sk_43 hS (by decide)) rfl ?_
            refine V_iload dX10_worthTo_155 (xm 0 rfl) ?_
            refine V_aload_n dX10_worthTo_157 rfl (xm 2 rfl) ?_
            refine V_getR dX10_worthTo_158 fl_X10_18 (sk_43 hS (by decide)) rfl ?_
            refine V_iload dX10_worthTo_161 (xm 5 rfl) ?_
            refine T_iald dX10_worthTo_163 (sk_46 hS (by decide)) rfl h (fun r17 h => ?_)
            refine T_iast dX10_worthTo_164 (sk_45 hS (by decide)) rfl h (fun M18 h => ?_)
            refine V_aload_n dX10_worthTo_165 rfl (xm 2 rfl) ?_
            refine V_aload_n dX10_worthTo_166 rfl (xm 3 rfl) ?_
            refine V_iload dX10_worthTo_167 (xm 6 rfl) ?_
            refine V_iload_n dX10_worthTo_169 rfl (xm 4 rfl) ?_
            refine V_iload dX10_worthTo_170 (xm 1 rfl) ?_
            refine xbE h (fun M20 h19 h => ?_)
            refine T_callVv dX10_worthTo_172 ok_X10_gatherFacts (by exact ⟨by decide, rfl⟩) lk_X10_71.1 lk_X10_71.2 (sk_43 hS (by decide)) (hV := ((fX10_gatherFacts_c (hS.le (by decide)) h19).mono (by decide) (Nat.le_refl _) (Nat.le_refl _))) rfl (Nat.le_of_ble_eq_true rfl) rfl (Nat.le_of_ble_eq_true rfl) ?_
            refine V_aload_n dX10_worthTo_175 rfl (xm 2 rfl) ?_
            refine V_getR dX10_worthTo_176 fl_X10_9 (sk_43 hS (by decide)) rfl ?_
            refine V_iload dX10_worthTo_179 (xm 0 rfl) ?_
            refine V_aload_n dX10_worthTo_181 rfl (xm 3 rfl) ?_
            refine V_getR dX10_worthTo_182 fl_X10_53 (sk_1 hS (by decide)) rfl ?_
            refine V_iload dX10_worthTo_185 (xm 5 rfl) ?_
            obtain ⟨c21, h⟩ := xixE h
            refine V_aald (r := 28 + 2 * (wr r1).toNat) dX10_worthTo_187 (sk_27 hS (by decide)) (by decide) c21 (rw_27 c21) ?_
            refine V_aload_n dX10_worthTo_188 rfl (xm 2 rfl) ?_
            refine V_getR dX10_worthTo_189 fl_X10_26 (sk_43 hS (by decide)) rfl ?_
            refine V_aload_n dX10_worthTo_192 rfl (xm 2 rfl) ?_
            refine V_getR dX10_worthTo_193 fl_X10_29 (sk_43 hS (by decide)) rfl ?_
            refine xb2E h (fun r23 M24 h22 h => ?_)
            refine T_callVI dX10_worthTo_196 ok_X9_valueOf (by exact ⟨by decide, rfl⟩) lk_X10_75.1 lk_X10_75.2 (rs_27 hS (by decide) c21) (hV := ((fX9_valueOf_c (hS.le (by decide)) (rs_27 hS (by decide) c21) (rc_27 hS (by decide) c21) h22).mono (by decide) (Nat.le_refl _) (Nat.le_refl _))) rfl (Nat.le_of_ble_eq_true rfl) rfl (Nat.le_of_ble_eq_true rfl) ?_
            refine T_iast dX10_worthTo_199 (sk_44 hS (by decide)) rfl h (fun M25 h => ?_)
            refine V.pick [2, 0] rfl ?_
            exact kj15 M25 h
        refine V_if_ne (tgt := 116) dX10_worthTo_109 (by decide) h (fun _ h => ?_) (fun _ h => ?_)
        · refine V_iconst dX10_worthTo_112 ?_
          refine V_goto (tgt := 117) dX10_worthTo_113 (by decide) ?_
          refine V.pick [1, 2, 4, 7, 0] rfl ?_
          exact kj11 0 h
        · refine V_iconst dX10_worthTo_116 ?_
          refine V.pick [1, 2, 4, 7, 0] rfl ?_
          exact kj11 1 h
      refine V_icmp_eq (tgt := 98) dX10_worthTo_65 (by decide) h (fun _ h => ?_) (fun _ h => ?_)
      · refine V.pick [1, 2, 3, 4, 5, 6, 7] rfl ?_
        exact kj7 M h
      · refine V_aload_n dX10_worthTo_68 rfl (xm 1 rfl) ?_
        refine V_getR dX10_worthTo_69 fl_X10_21 (sk_43 hS (by decide)) rfl ?_
        refine V_iload dX10_worthTo_72 (xm 7 rfl) ?_
        refine V_iload dX10_worthTo_74 (xm 0 rfl) ?_
        refine T_iast dX10_worthTo_76 (sk_47 hS (by decide)) rfl h (fun M26 h => ?_)
        refine V_aload_n dX10_worthTo_77 rfl (xm 1 rfl) ?_
        refine V_dup dX10_worthTo_78 rfl ?_
        refine V_getI (kI := 4) dX10_worthTo_79 fl_X10_63 (sk_43 hS (by decide)) rfl rfl ?_
        refine V_iconst dX10_worthTo_82 ?_
        refine V_iadd dX10_worthTo_83 ?_
        refine T_putI (kI := 4) dX10_worthTo_84 fp_X10_63 (sk_43 hS (by decide)) rfl rfl h (fun M27 h => ?_)
        refine V_aload_n dX10_worthTo_87 rfl (xm 1 rfl) ?_
        refine V_getR dX10_worthTo_88 fl_X10_18 (sk_43 hS (by decide)) rfl ?_
        refine V_iload dX10_worthTo_91 (xm 7 rfl) ?_
        refine V_aload_n dX10_worthTo_93 rfl (xm 1 rfl) ?_
        refine V_getI (kI := 4) dX10_worthTo_94 fl_X10_63 (sk_43 hS (by decide)) rfl rfl ?_
        refine T_iast dX10_worthTo_97 (sk_46 hS (by decide)) rfl h (fun M28 h => ?_)
        refine V.pick [1, 2, 3, 4, 5, 6, 7] rfl ?_
        exact kj7 M28 h
    refine V_if_eq (tgt := 52) dX10_worthTo_42 (by decide) h (fun _ h => ?_) (fun _ h => ?_)
    · refine V_iload dX10_worthTo_52 (xm 0 rfl) ?_
      refine V.pick [2, 3, 4, 5, 6, 7, 1] rfl ?_
      exact kj4 (xrem (xdiv v3 30) 12) h
    · refine V_bipush dX10_worthTo_45 (by decide) ?_
      refine V_iload_n dX10_worthTo_47 rfl (xm 5 rfl) ?_
      refine V_iadd dX10_worthTo_48 ?_
      refine V_goto (tgt := 54) dX10_worthTo_49 (by decide) ?_
      refine V.pick [2, 3, 4, 5, 6, 7, 1] rfl ?_
      exact kj4 (12 + v3) h
  · refine V_iconst dX10_worthTo_21 ?_
    exact V_ireti dX10_worthTo_22 rfl (q_wI h)
def fX11_worth (M : xM) (v1 : Int) (v2 : Int) (v3 : Int) (v4 : Int) : Option (Int × xM) := (if (fX4_has M v1) = true then (if (fX11_isDay v2) = true then (if (fX1_hasAngle M v3) = true then (if (fX11_isTurn v4) = true then (xb2 (fX10_worthTo M v1 v2 v3 v4) fun r2 M3 => some (r2, M3)) else some ((-100000), M)) else some ((-100000), M)) else some ((-100000), M)) else some ((-100000), M))
set_option maxRecDepth 20000 in
set_option maxHeartbeats 1000000 in
theorem fX11_worth_c {S : xS} {kp : Option Nat} (hS : xSk kp 94 S) {M : xM} {v1 : Int} {v2 : Int} {v3 : Int} {v4 : Int} {E : Int × xM} (h : fX11_worth M v1 v2 v3 v4 = some E) :
    V Y_X11_worth 4 0 0 0 (xarg 0 [vR (some 0), vI v1, vI v2, vI v3, vI v4]) [] S M (xqR S E.2 (some (vI E.1))) := by
  unfold fX11_worth at h
  show V Y_X11_worth 4 0 0 0 [(0, vR (some 0)), (1, vI v1), (2, vI v2), (3, vI v3), (4, vI v4)] [] S M _
  refine V_aload_n dX11_worth_0 rfl (xm 0 rfl) ?_
  refine V_getR dX11_worth_1 fl_X11_12 (sk_0 hS (by decide)) rfl ?_
  refine V_getR dX11_worth_4 fl_X11_82 (sk_1 hS (by decide)) rfl ?_
  refine V_iload_n dX11_worth_7 rfl (xm 1 rfl) ?_
  refine T_callVI dX11_worth_8 ok_X4_has (by exact ⟨by decide, rfl⟩) lk_X11_145.1 lk_X11_145.2 (sk_5 hS (by decide)) (hV := ((fX4_has_c (hS.le (by decide)) rfl).mono (by decide) (Nat.le_refl _) (Nat.le_refl _))) rfl (Nat.le_of_ble_eq_true rfl) rfl (Nat.le_of_ble_eq_true rfl) ?_
  refine V_if_eqB (tgt := 40) dX11_worth_11 (by decide) h (fun _ h => ?_) (fun _ h => ?_)
  · refine V_iload_n dX11_worth_14 rfl (xm 2 rfl) ?_
    refine T_callSI (host := "") dX11_worth_15 ok_X11_isDay lk_X11_115.1 lk_X11_115.2 (hV := ((fX11_isDay_c (hS.le (by decide)) rfl).mono (by decide) (Nat.le_refl _) (Nat.le_refl _))) rfl (Nat.le_of_ble_eq_true rfl) rfl (Nat.le_of_ble_eq_true rfl) ?_
    refine V_if_eqB (tgt := 40) dX11_worth_18 (by decide) h (fun _ h => ?_) (fun _ h => ?_)
    · refine V_aload_n dX11_worth_21 rfl (xm 0 rfl) ?_
      refine V_getR dX11_worth_22 fl_X11_12 (sk_0 hS (by decide)) rfl ?_
      refine V_iload_n dX11_worth_25 rfl (xm 3 rfl) ?_
      refine T_callVI dX11_worth_26 ok_X1_hasAngle (by exact ⟨by decide, rfl⟩) lk_X11_68.1 lk_X11_68.2 (sk_1 hS (by decide)) (hV := ((fX1_hasAngle_c (hS.le (by decide)) rfl).mono (by decide) (Nat.le_refl _) (Nat.le_refl _))) rfl (Nat.le_of_ble_eq_true rfl) rfl (Nat.le_of_ble_eq_true rfl) ?_
      refine V_if_eqB (tgt := 40) dX11_worth_29 (by decide) h (fun _ h => ?_) (fun _ h => ?_)
      · refine V_iload dX11_worth_32 (xm 4 rfl) ?_
        refine T_callSI (host := "") dX11_worth_34 ok_X11_isTurn lk_X11_148.1 lk_X11_148.2 (hV := ((fX11_isTurn_c (hS.le (by decide)) rfl).mono (by decide) (Nat.le_refl _) (Nat.le_refl _))) rfl (Nat.le_of_ble_eq_true rfl) rfl (Nat.le_of_ble_eq_true rfl) ?_
        refine V_if_neB (tgt := 43) dX11_worth_37 (by decide) h (fun _ h => ?_) (fun _ h => ?_)
        · refine V_aload_n dX11_worth_43 rfl (xm 0 rfl) ?_
          refine V_getR dX11_worth_44 fl_X11_30 (sk_0 hS (by decide)) rfl ?_
          refine V_aload_n dX11_worth_47 rfl (xm 0 rfl) ?_
          refine V_getR dX11_worth_48 fl_X11_12 (sk_0 hS (by decide)) rfl ?_
          refine V_iload_n dX11_worth_51 rfl (xm 1 rfl) ?_
          refine V_iload_n dX11_worth_52 rfl (xm 2 rfl) ?_
          refine V_iload_n dX11_worth_53 rfl (xm 3 rfl) ?_
          refine V_iload dX11_worth_54 (xm 4 rfl) ?_
          refine xb2E h (fun r2 M3 h1 h => ?_)
          refine T_callVI dX11_worth_56 ok_X10_worthTo (by exact ⟨by decide, rfl⟩) lk_X11_152.1 lk_X11_152.2 (sk_43 hS (by decide)) (hV := ((fX10_worthTo_c (hS.le (by decide)) h1).mono (by decide) (Nat.le_refl _) (Nat.le_refl _))) rfl (Nat.le_of_ble_eq_true rfl) rfl (Nat.le_of_ble_eq_true rfl) ?_
          exact V_ireti dX11_worth_59 rfl (q_wI h)
        · refine V_ldc (n := (-100000)) dX11_worth_40 (xsg4 20 rfl rfl : Cond.constant RX11 151 (-100000) ∈ xT) (by decide) ?_
          exact V_ireti dX11_worth_42 rfl (q_wI h)
      · refine V_ldc (n := (-100000)) dX11_worth_40 (xsg4 20 rfl rfl : Cond.constant RX11 151 (-100000) ∈ xT) (by decide) ?_
        exact V_ireti dX11_worth_42 rfl (q_wI h)
    · refine V_ldc (n := (-100000)) dX11_worth_40 (xsg4 20 rfl rfl : Cond.constant RX11 151 (-100000) ∈ xT) (by decide) ?_
      exact V_ireti dX11_worth_42 rfl (q_wI h)
  · refine V_ldc (n := (-100000)) dX11_worth_40 (xsg4 20 rfl rfl : Cond.constant RX11 151 (-100000) ∈ xT) (by decide) ?_
    exact V_ireti dX11_worth_42 rfl (q_wI h)
def fX11_isSpan (v0 : Int) (v1 : Int) : Bool := (if (fX11_isDay v0) = true then (if (fX11_isDay v1) = true then (if wr v1 < wr v0 then false else true) else false) else false)
set_option maxRecDepth 20000 in
set_option maxHeartbeats 1000000 in
theorem fX11_isSpan_c {S : xS} {kp : Option Nat} (hS : xSk kp 0 S) {M : xM} {v0 : Int} {v1 : Int} {E : Bool} (h : fX11_isSpan v0 v1 = E) :
    V Y_X11_isSpan 2 0 0 0 (xarg 0 [vI v0, vI v1]) [] S M (xqR S M (some (vI (b2i E)))) := by
  unfold fX11_isSpan at h
  show V Y_X11_isSpan 2 0 0 0 [(0, vI v0), (1, vI v1)] [] S M _
  refine V_iload_n dX11_isSpan_0 rfl (xm 0 rfl) ?_
  refine T_callSI (host := "") dX11_isSpan_1 ok_X11_isDay lk_X11_115.1 lk_X11_115.2 (hV := ((fX11_isDay_c (hS.le (by decide)) rfl).mono (by decide) (Nat.le_refl _) (Nat.le_refl _))) rfl (Nat.le_of_ble_eq_true rfl) rfl (Nat.le_of_ble_eq_true rfl) ?_
  refine V_if_eqB (tgt := 23) dX11_isSpan_4 (by decide) h (fun _ h => ?_) (fun _ h => ?_)
  · refine V_iload_n dX11_isSpan_7 rfl (xm 1 rfl) ?_
    refine T_callSI (host := "") dX11_isSpan_8 ok_X11_isDay lk_X11_115.1 lk_X11_115.2 (hV := ((fX11_isDay_c (hS.le (by decide)) rfl).mono (by decide) (Nat.le_refl _) (Nat.le_refl _))) rfl (Nat.le_of_ble_eq_true rfl) rfl (Nat.le_of_ble_eq_true rfl) ?_
    refine V_if_eqB (tgt := 23) dX11_isSpan_11 (by decide) h (fun _ h => ?_) (fun _ h => ?_)
    · refine V_iload_n dX11_isSpan_14 rfl (xm 0 rfl) ?_
      refine V_iload_n dX11_isSpan_15 rfl (xm 1 rfl) ?_
      refine V_icmp_gt (tgt := 23) dX11_isSpan_16 (by decide) h (fun _ h => ?_) (fun _ h => ?_)
      · refine V_iconst dX11_isSpan_23 ?_
        exact V_iretb (b := false) dX11_isSpan_24 rfl (by decide) (q_tB h)
      · refine V_iconst dX11_isSpan_19 ?_
        refine V_goto (tgt := 24) dX11_isSpan_20 (by decide) ?_
        exact V_iretb (b := true) dX11_isSpan_24 rfl (by decide) (q_tB h)
    · refine V_iconst dX11_isSpan_23 ?_
      exact V_iretb (b := false) dX11_isSpan_24 rfl (by decide) (q_tB h)
  · refine V_iconst dX11_isSpan_23 ?_
    exact V_iretb (b := false) dX11_isSpan_24 rfl (by decide) (q_tB h)
def fX6_mayTake_L14 (n : Nat) (M : xM) (v1 : Int) (v2 : Int) (v3 : Int) (v4 : Int) : Option ((Unit) ⊕ (Bool)) := match n with
  | 0 => none
  | n + 1 => (if wr v4 < wr (M 12 0) then (xrd M 13 60 v4 fun r1 => (if wr r1 = wr v1 then (xrd M 15 60 v4 fun r2 => (if wr v3 < wr r2 then fX6_mayTake_L14 n M v1 v2 v3 (v4 + 1) else (xrd M 16 60 v4 fun r3 => (if wr r3 < wr v2 then fX6_mayTake_L14 n M v1 v2 v3 (v4 + 1) else some (.inr false))))) else fX6_mayTake_L14 n M v1 v2 v3 (v4 + 1))) else some (.inl ()))
set_option maxRecDepth 20000 in
set_option maxHeartbeats 1000000 in
theorem fX6_mayTake_L14_c {S : xS} {kp : Option Nat} (hS : xSk kp 17 S) {Q : Option xV → xS → xM → Prop} :
    ∀ (n : Nat) (M : xM) (v1 : Int) (v2 : Int) (v3 : Int) (v4 : Int) {E : (Unit) ⊕ (Bool)}, fX6_mayTake_L14 n M v1 v2 v3 v4 = some E → (E = .inl () → V Y_X6_mayTake 0 0 0 64 [] [] S M Q) → (∀ (w : Bool), E = .inr w → Q (some (vI (b2i w))) S M) → V Y_X6_mayTake 0 0 0 14 [(0, vR (some 12)), (1, vI v1), (2, vI v2), (3, vI v3), (4, vI v4)] [] S M Q := by
  intro n
  induction n with
  | zero =>
    intro M v1 v2 v3 v4 E h k kr
    cases h
  | succ n ih =>
    intro M v1 v2 v3 v4 E h k kr
    rw [fX6_mayTake_L14] at h
    refine V_iload dX6_mayTake_14 (xm 4 rfl) ?_
    refine V_aload_n dX6_mayTake_16 rfl (xm 0 rfl) ?_
    refine V_getI (kI := 0) dX6_mayTake_17 fl_X6_24 (sk_12 hS (by decide)) rfl rfl ?_
    refine V_icmp_ge (tgt := 64) dX6_mayTake_20 (by decide) h (fun _ h => ?_) (fun _ h => ?_)
    · refine V_aload_n dX6_mayTake_23 rfl (xm 0 rfl) ?_
      refine V_getR dX6_mayTake_24 fl_X6_11 (sk_12 hS (by decide)) rfl ?_
      refine V_iload dX6_mayTake_27 (xm 4 rfl) ?_
      refine T_iald dX6_mayTake_29 (sk_13 hS (by decide)) rfl h (fun r1 h => ?_)
      refine V_iload_n dX6_mayTake_30 rfl (xm 1 rfl) ?_
      refine V_icmp_ne (tgt := 58) dX6_mayTake_31 (by decide) h (fun _ h => ?_) (fun _ h => ?_)
      · refine V_aload_n dX6_mayTake_34 rfl (xm 0 rfl) ?_
        refine V_getR dX6_mayTake_35 fl_X6_18 (sk_12 hS (by decide)) rfl ?_
        refine V_iload dX6_mayTake_38 (xm 4 rfl) ?_
        refine T_iald dX6_mayTake_40 (sk_15 hS (by decide)) rfl h (fun r2 h => ?_)
        refine V_iload_n dX6_mayTake_41 rfl (xm 3 rfl) ?_
        refine V_icmp_gt (tgt := 58) dX6_mayTake_42 (by decide) h (fun _ h => ?_) (fun _ h => ?_)
        · refine V_iinc (ls' := [(4, vI (v4 + 1)), (0, vR (some 12)), (1, vI v1), (2, vI v2), (3, vI v3)]) dX6_mayTake_58 (xm 4 rfl) (by decide) rfl ?_
          refine V_goto (tgt := 14) dX6_mayTake_61 (by decide) ?_
          refine V.pick [1, 2, 3, 4, 0] rfl ?_
          exact ih M v1 v2 v3 (v4 + 1) h k kr
        · refine V_iload_n dX6_mayTake_45 rfl (xm 2 rfl) ?_
          refine V_aload_n dX6_mayTake_46 rfl (xm 0 rfl) ?_
          refine V_getR dX6_mayTake_47 fl_X6_21 (sk_12 hS (by decide)) rfl ?_
          refine V_iload dX6_mayTake_50 (xm 4 rfl) ?_
          refine T_iald dX6_mayTake_52 (sk_16 hS (by decide)) rfl h (fun r3 h => ?_)
          refine V_icmp_gt (tgt := 58) dX6_mayTake_53 (by decide) h (fun _ h => ?_) (fun _ h => ?_)
          · refine V_iinc (ls' := [(4, vI (v4 + 1)), (0, vR (some 12)), (1, vI v1), (2, vI v2), (3, vI v3)]) dX6_mayTake_58 (xm 4 rfl) (by decide) rfl ?_
            refine V_goto (tgt := 14) dX6_mayTake_61 (by decide) ?_
            refine V.pick [1, 2, 3, 4, 0] rfl ?_
            exact ih M v1 v2 v3 (v4 + 1) h k kr
          · refine V_iconst dX6_mayTake_56 ?_
            exact V_iretb (b := false) dX6_mayTake_57 rfl (by decide) (kr false (Option.some.inj h).symm)
      · refine V_iinc (ls' := [(4, vI (v4 + 1)), (0, vR (some 12)), (1, vI v1), (2, vI v2), (3, vI v3)]) dX6_mayTake_58 (xm 4 rfl) (by decide) rfl ?_
        refine V_goto (tgt := 14) dX6_mayTake_61 (by decide) ?_
        refine V.pick [1, 2, 3, 4, 0] rfl ?_
        exact ih M v1 v2 v3 (v4 + 1) h k kr
    · refine V.pick [] rfl ?_
      exact k  (Option.some.inj h).symm
theorem fX6_mayTake_L14_ci {S : xS} {kp : Option Nat} (hS : xSk kp 17 S) {Q : Option xV → xS → xM → Prop} {n : Nat} {M : xM} {v1 : Int} {v2 : Int} {v3 : Int} {v4 : Int} (hl : fX6_mayTake_L14 n M v1 v2 v3 v4 = some (.inl ())) (k : V Y_X6_mayTake 0 0 0 64 [] [] S M Q) : V Y_X6_mayTake 0 0 0 14 [(0, vR (some 12)), (1, vI v1), (2, vI v2), (3, vI v3), (4, vI v4)] [] S M Q := fX6_mayTake_L14_c hS _ _ _ _ _ _ hl (fun  e => by cases e; exact k) (fun _ e => by cases e)
theorem fX6_mayTake_L14_cr {S : xS} {kp : Option Nat} (hS : xSk kp 17 S) {Q : Option xV → xS → xM → Prop} {n : Nat} {M : xM} {v1 : Int} {v2 : Int} {v3 : Int} {v4 : Int} {w : Bool} (hl : fX6_mayTake_L14 n M v1 v2 v3 v4 = some (.inr w)) (k : Q (some (vI (b2i w))) S M) : V Y_X6_mayTake 0 0 0 14 [(0, vR (some 12)), (1, vI v1), (2, vI v2), (3, vI v3), (4, vI v4)] [] S M Q := fX6_mayTake_L14_c hS _ _ _ _ _ _ hl (fun  e => by cases e) (fun _ e => by cases e; exact k)
def fX6_mayTake (M : xM) (v1 : Int) (v2 : Int) (v3 : Int) : Option Bool := (if wr (M 12 0) < wr 60 then (xs0 (fX6_mayTake_L14 xfuel M v1 v2 v3 0) (some true) (fun r => some r)) else some false)
set_option maxRecDepth 20000 in
set_option maxHeartbeats 1000000 in
theorem fX6_mayTake_c {S : xS} {kp : Option Nat} (hS : xSk kp 17 S) {M : xM} {v1 : Int} {v2 : Int} {v3 : Int} {E : Bool} (h : fX6_mayTake M v1 v2 v3 = some E) :
    V Y_X6_mayTake 0 0 0 0 (xarg 0 [vR (some 12), vI v1, vI v2, vI v3]) [] S M (xqR S M (some (vI (b2i E)))) := by
  unfold fX6_mayTake at h
  show V Y_X6_mayTake 0 0 0 0 [(0, vR (some 12)), (1, vI v1), (2, vI v2), (3, vI v3)] [] S M _
  refine V_aload_n dX6_mayTake_0 rfl (xm 0 rfl) ?_
  refine V_getI (kI := 0) dX6_mayTake_1 fl_X6_24 (sk_12 hS (by decide)) rfl rfl ?_
  refine V_bipush dX6_mayTake_4 (by decide) ?_
  refine V_icmp_lt (tgt := 11) dX6_mayTake_6 (by decide) h (fun _ h => ?_) (fun _ h => ?_)
  · refine V_iconst dX6_mayTake_11 ?_
    refine V_istore (ls' := [(4, vI 0), (0, vR (some 12)), (1, vI v1), (2, vI v2), (3, vI v3)]) dX6_mayTake_12 (by decide) rfl ?_
    refine xs0E h (fun  h4 h => ?_) (fun r h4 h => ?_)
    · refine V.pick [1, 2, 3, 4, 0] rfl ?_
      refine fX6_mayTake_L14_ci (hS.le (by decide)) h4 ?_
      refine V_iconst dX6_mayTake_64 ?_
      exact V_iretb (b := true) dX6_mayTake_65 rfl (by decide) (q_pB h)
    · refine V.pick [1, 2, 3, 4, 0] rfl ?_
      refine fX6_mayTake_L14_cr (hS.le (by decide)) h4 ?_
      exact q_pB h
  · refine V_iconst dX6_mayTake_9 ?_
    exact V_iretb (b := false) dX6_mayTake_10 rfl (by decide) (q_pB h)
def fX6_take (M : xM) (v1 : Int) (v2 : Int) (v3 : Int) (v4 : Int) : Option xM := xwt M 13 60 (M 12 0) v1 fun M1 => xwt M1 14 60 (M1 12 0) v2 fun M2 => xwt M2 15 60 (M2 12 0) v3 fun M3 => xwt M3 16 60 (M3 12 0) v4 fun M4 => xlet (xup M4 12 0 ((M4 12 0) + 1)) fun M5 => some M5
set_option maxRecDepth 20000 in
set_option maxHeartbeats 1000000 in
theorem fX6_take_c {S : xS} {kp : Option Nat} (hS : xSk kp 17 S) {M : xM} {v1 : Int} {v2 : Int} {v3 : Int} {v4 : Int} {E : xM} (h : fX6_take M v1 v2 v3 v4 = some E) :
    V Y_X6_take 0 0 0 0 (xarg 0 [vR (some 12), vI v1, vI v2, vI v3, vI v4]) [] S M (xqR S E none) := by
  unfold fX6_take at h
  show V Y_X6_take 0 0 0 0 [(0, vR (some 12)), (1, vI v1), (2, vI v2), (3, vI v3), (4, vI v4)] [] S M _
  refine V_aload_n dX6_take_0 rfl (xm 0 rfl) ?_
  refine V_getR dX6_take_1 fl_X6_11 (sk_12 hS (by decide)) rfl ?_
  refine V_aload_n dX6_take_4 rfl (xm 0 rfl) ?_
  refine V_getI (kI := 0) dX6_take_5 fl_X6_24 (sk_12 hS (by decide)) rfl rfl ?_
  refine V_iload_n dX6_take_8 rfl (xm 1 rfl) ?_
  refine T_iast dX6_take_9 (sk_13 hS (by decide)) rfl h (fun M1 h => ?_)
  refine V_aload_n dX6_take_10 rfl (xm 0 rfl) ?_
  refine V_getR dX6_take_11 fl_X6_15 (sk_12 hS (by decide)) rfl ?_
  refine V_aload_n dX6_take_14 rfl (xm 0 rfl) ?_
  refine V_getI (kI := 0) dX6_take_15 fl_X6_24 (sk_12 hS (by decide)) rfl rfl ?_
  refine V_iload_n dX6_take_18 rfl (xm 2 rfl) ?_
  refine T_iast dX6_take_19 (sk_14 hS (by decide)) rfl h (fun M2 h => ?_)
  refine V_aload_n dX6_take_20 rfl (xm 0 rfl) ?_
  refine V_getR dX6_take_21 fl_X6_18 (sk_12 hS (by decide)) rfl ?_
  refine V_aload_n dX6_take_24 rfl (xm 0 rfl) ?_
  refine V_getI (kI := 0) dX6_take_25 fl_X6_24 (sk_12 hS (by decide)) rfl rfl ?_
  refine V_iload_n dX6_take_28 rfl (xm 3 rfl) ?_
  refine T_iast dX6_take_29 (sk_15 hS (by decide)) rfl h (fun M3 h => ?_)
  refine V_aload_n dX6_take_30 rfl (xm 0 rfl) ?_
  refine V_getR dX6_take_31 fl_X6_21 (sk_12 hS (by decide)) rfl ?_
  refine V_aload_n dX6_take_34 rfl (xm 0 rfl) ?_
  refine V_getI (kI := 0) dX6_take_35 fl_X6_24 (sk_12 hS (by decide)) rfl rfl ?_
  refine V_iload dX6_take_38 (xm 4 rfl) ?_
  refine T_iast dX6_take_40 (sk_16 hS (by decide)) rfl h (fun M4 h => ?_)
  refine V_aload_n dX6_take_41 rfl (xm 0 rfl) ?_
  refine V_dup dX6_take_42 rfl ?_
  refine V_getI (kI := 0) dX6_take_43 fl_X6_24 (sk_12 hS (by decide)) rfl rfl ?_
  refine V_iconst dX6_take_46 ?_
  refine V_iadd dX6_take_47 ?_
  refine T_putI (kI := 0) dX6_take_48 fp_X6_24 (sk_12 hS (by decide)) rfl rfl h (fun M5 h => ?_)
  exact V_ret dX6_take_51 rfl (q_v h)
def fX11_sell (M : xM) (v1 : Int) (v2 : Int) (v3 : Int) (v4 : Int) (v5 : Int) : Option (Bool × xM) := (if (fX4_has M v1) = true then (if (fX4_has M v2) = true then (if wr v1 = wr v2 then some (false, M) else (if wr v3 < wr (M 1 2) then some (false, M) else (if (fX11_isSpan v3 v4) = true then (if (fX11_within v5 0 9999) = true then (xb (fX6_mayTake M v1 v3 v4) fun r2 => (if r2 = true then (xb (fX6_take M v1 v2 v3 v4) fun M4 => xrd M4 9 10 v2 fun r5 => xwt M4 9 10 v2 (r5 - v5) fun M6 => xrd M6 9 10 v1 fun r7 => xwt M6 9 10 v1 (r7 + v5) fun M8 => xb (fX0_forget M8) fun M10 => some (true, M10)) else some (false, M))) else some (false, M)) else some (false, M)))) else some (false, M)) else some (false, M))
set_option maxRecDepth 20000 in
set_option maxHeartbeats 1000000 in
theorem fX11_sell_c {S : xS} {kp : Option Nat} (hS : xSk kp 94 S) {M : xM} {v1 : Int} {v2 : Int} {v3 : Int} {v4 : Int} {v5 : Int} {E : Bool × xM} (h : fX11_sell M v1 v2 v3 v4 v5 = some E) :
    V Y_X11_sell 3 0 0 0 (xarg 0 [vR (some 0), vI v1, vI v2, vI v3, vI v4, vI v5]) [] S M (xqR S E.2 (some (vI (b2i E.1)))) := by
  unfold fX11_sell at h
  show V Y_X11_sell 3 0 0 0 [(0, vR (some 0)), (1, vI v1), (2, vI v2), (3, vI v3), (4, vI v4), (5, vI v5)] [] S M _
  refine V_aload_n dX11_sell_0 rfl (xm 0 rfl) ?_
  refine V_getR dX11_sell_1 fl_X11_12 (sk_0 hS (by decide)) rfl ?_
  refine V_getR dX11_sell_4 fl_X11_82 (sk_1 hS (by decide)) rfl ?_
  refine V_iload_n dX11_sell_7 rfl (xm 1 rfl) ?_
  refine T_callVI dX11_sell_8 ok_X4_has (by exact ⟨by decide, rfl⟩) lk_X11_145.1 lk_X11_145.2 (sk_5 hS (by decide)) (hV := ((fX4_has_c (hS.le (by decide)) rfl).mono (by decide) (Nat.le_refl _) (Nat.le_refl _))) rfl (Nat.le_of_ble_eq_true rfl) rfl (Nat.le_of_ble_eq_true rfl) ?_
  refine V_if_eqB (tgt := 82) dX11_sell_11 (by decide) h (fun _ h => ?_) (fun _ h => ?_)
  · refine V_aload_n dX11_sell_14 rfl (xm 0 rfl) ?_
    refine V_getR dX11_sell_15 fl_X11_12 (sk_0 hS (by decide)) rfl ?_
    refine V_getR dX11_sell_18 fl_X11_82 (sk_1 hS (by decide)) rfl ?_
    refine V_iload_n dX11_sell_21 rfl (xm 2 rfl) ?_
    refine T_callVI dX11_sell_22 ok_X4_has (by exact ⟨by decide, rfl⟩) lk_X11_145.1 lk_X11_145.2 (sk_5 hS (by decide)) (hV := ((fX4_has_c (hS.le (by decide)) rfl).mono (by decide) (Nat.le_refl _) (Nat.le_refl _))) rfl (Nat.le_of_ble_eq_true rfl) rfl (Nat.le_of_ble_eq_true rfl) ?_
    refine V_if_eqB (tgt := 82) dX11_sell_25 (by decide) h (fun _ h => ?_) (fun _ h => ?_)
    · refine V_iload_n dX11_sell_28 rfl (xm 1 rfl) ?_
      refine V_iload_n dX11_sell_29 rfl (xm 2 rfl) ?_
      refine V_icmp_eq (tgt := 82) dX11_sell_30 (by decide) h (fun _ h => ?_) (fun _ h => ?_)
      · refine V_iconst dX11_sell_82 ?_
        exact V_iretb (b := false) dX11_sell_83 rfl (by decide) (q_wB h)
      · refine V_iload_n dX11_sell_33 rfl (xm 3 rfl) ?_
        refine V_aload_n dX11_sell_34 rfl (xm 0 rfl) ?_
        refine V_getR dX11_sell_35 fl_X11_12 (sk_0 hS (by decide)) rfl ?_
        refine V_getI (kI := 2) dX11_sell_38 fl_X11_103 (sk_1 hS (by decide)) rfl rfl ?_
        refine V_icmp_lt (tgt := 82) dX11_sell_41 (by decide) h (fun _ h => ?_) (fun _ h => ?_)
        · refine V_iconst dX11_sell_82 ?_
          exact V_iretb (b := false) dX11_sell_83 rfl (by decide) (q_wB h)
        · refine V_iload_n dX11_sell_44 rfl (xm 3 rfl) ?_
          refine V_iload dX11_sell_45 (xm 4 rfl) ?_
          refine T_callSI (host := "") dX11_sell_47 ok_X11_isSpan lk_X11_156.1 lk_X11_156.2 (hV := ((fX11_isSpan_c (hS.le (by decide)) rfl).mono (by decide) (Nat.le_refl _) (Nat.le_refl _))) rfl (Nat.le_of_ble_eq_true rfl) rfl (Nat.le_of_ble_eq_true rfl) ?_
          refine V_if_eqB (tgt := 82) dX11_sell_50 (by decide) h (fun _ h => ?_) (fun _ h => ?_)
          · refine V_iload dX11_sell_53 (xm 5 rfl) ?_
            refine V_iconst dX11_sell_55 ?_
            refine V_sipush dX11_sell_56 (by decide) ?_
            refine T_callSI (host := "") dX11_sell_59 ok_X11_within lk_X11_60.1 lk_X11_60.2 (hV := ((fX11_within_c (hS.le (by decide)) rfl).mono (by decide) (Nat.le_refl _) (Nat.le_refl _))) rfl (Nat.le_of_ble_eq_true rfl) rfl (Nat.le_of_ble_eq_true rfl) ?_
            refine V_if_eqB (tgt := 82) dX11_sell_62 (by decide) h (fun _ h => ?_) (fun _ h => ?_)
            · refine V_aload_n dX11_sell_65 rfl (xm 0 rfl) ?_
              refine V_getR dX11_sell_66 fl_X11_12 (sk_0 hS (by decide)) rfl ?_
              refine V_getR dX11_sell_69 fl_X11_159 (sk_1 hS (by decide)) rfl ?_
              refine V_iload_n dX11_sell_72 rfl (xm 1 rfl) ?_
              refine V_iload_n dX11_sell_73 rfl (xm 3 rfl) ?_
              refine V_iload dX11_sell_74 (xm 4 rfl) ?_
              refine xbE h (fun r2 h1 h => ?_)
              refine T_callVI dX11_sell_76 ok_X6_mayTake (by exact ⟨by decide, rfl⟩) lk_X11_163.1 lk_X11_163.2 (sk_12 hS (by decide)) (hV := ((fX6_mayTake_c (hS.le (by decide)) h1).mono (by decide) (Nat.le_refl _) (Nat.le_refl _))) rfl (Nat.le_of_ble_eq_true rfl) rfl (Nat.le_of_ble_eq_true rfl) ?_
              refine V_if_neB (tgt := 84) dX11_sell_79 (by decide) h (fun _ h => ?_) (fun _ h => ?_)
              · refine V_aload_n dX11_sell_84 rfl (xm 0 rfl) ?_
                refine V_getR dX11_sell_85 fl_X11_12 (sk_0 hS (by decide)) rfl ?_
                refine V_getR dX11_sell_88 fl_X11_159 (sk_1 hS (by decide)) rfl ?_
                refine V_iload_n dX11_sell_91 rfl (xm 1 rfl) ?_
                refine V_iload_n dX11_sell_92 rfl (xm 2 rfl) ?_
                refine V_iload_n dX11_sell_93 rfl (xm 3 rfl) ?_
                refine V_iload dX11_sell_94 (xm 4 rfl) ?_
                refine xbE h (fun M4 h3 h => ?_)
                refine T_callVv dX11_sell_96 ok_X6_take (by exact ⟨by decide, rfl⟩) lk_X11_168.1 lk_X11_168.2 (sk_12 hS (by decide)) (hV := ((fX6_take_c (hS.le (by decide)) h3).mono (by decide) (Nat.le_refl _) (Nat.le_refl _))) rfl (Nat.le_of_ble_eq_true rfl) rfl (Nat.le_of_ble_eq_true rfl) ?_
                refine V_aload_n dX11_sell_99 rfl (xm 0 rfl) ?_
                refine V_getR dX11_sell_100 fl_X11_12 (sk_0 hS (by decide)) rfl ?_
                refine V_getR dX11_sell_103 fl_X11_82 (sk_1 hS (by decide)) rfl ?_
                refine V_getR dX11_sell_106 fl_X11_172 (sk_5 hS (by decide)) rfl ?_
                refine V_iload_n dX11_sell_109 rfl (xm 2 rfl) ?_
                refine V_dup2 dX11_sell_110 rfl rfl ?_
                refine T_iald dX11_sell_111 (sk_9 hS (by decide)) rfl h (fun r5 h => ?_)
                refine V_iload dX11_sell_112 (xm 5 rfl) ?_
                refine V_isub dX11_sell_114 ?_
                refine T_iast dX11_sell_115 (sk_9 hS (by decide)) rfl h (fun M6 h => ?_)
                refine V_aload_n dX11_sell_116 rfl (xm 0 rfl) ?_
                refine V_getR dX11_sell_117 fl_X11_12 (sk_0 hS (by decide)) rfl ?_
                refine V_getR dX11_sell_120 fl_X11_82 (sk_1 hS (by decide)) rfl ?_
                refine V_getR dX11_sell_123 fl_X11_172 (sk_5 hS (by decide)) rfl ?_
                refine V_iload_n dX11_sell_126 rfl (xm 1 rfl) ?_
                refine V_dup2 dX11_sell_127 rfl rfl ?_
                refine T_iald dX11_sell_128 (sk_9 hS (by decide)) rfl h (fun r7 h => ?_)
                refine V_iload dX11_sell_129 (xm 5 rfl) ?_
                refine V_iadd dX11_sell_131 ?_
                refine T_iast dX11_sell_132 (sk_9 hS (by decide)) rfl h (fun M8 h => ?_)
                refine V_aload_n dX11_sell_133 rfl (xm 0 rfl) ?_
                refine V_getR dX11_sell_134 fl_X11_53 (sk_0 hS (by decide)) rfl ?_
                refine xbE h (fun M10 h9 h => ?_)
                refine T_callVv dX11_sell_137 ok_X0_forget (by exact ⟨by decide, rfl⟩) lk_X11_67.1 lk_X11_67.2 (sk_79 hS (by decide)) (hV := ((fX0_forget_c (hS.le (by decide)) h9).mono (by decide) (Nat.le_refl _) (Nat.le_refl _))) rfl (Nat.le_of_ble_eq_true rfl) rfl (Nat.le_of_ble_eq_true rfl) ?_
                refine V_iconst dX11_sell_140 ?_
                exact V_iretb (b := true) dX11_sell_141 rfl (by decide) (q_wB h)
              · refine V_iconst dX11_sell_82 ?_
                exact V_iretb (b := false) dX11_sell_83 rfl (by decide) (q_wB h)
            · refine V_iconst dX11_sell_82 ?_
              exact V_iretb (b := false) dX11_sell_83 rfl (by decide) (q_wB h)
          · refine V_iconst dX11_sell_82 ?_
            exact V_iretb (b := false) dX11_sell_83 rfl (by decide) (q_wB h)
    · refine V_iconst dX11_sell_82 ?_
      exact V_iretb (b := false) dX11_sell_83 rfl (by decide) (q_wB h)
  · refine V_iconst dX11_sell_82 ?_
    exact V_iretb (b := false) dX11_sell_83 rfl (by decide) (q_wB h)
def fX5_mayTake_L4 (n : Nat) (M : xM) (v1 : Int) (v2 : Int) (v3 : Int) : Option (Int) := match n with
  | 0 => none
  | n + 1 => (if wr v3 < wr (M 17 0) then (xrd M 19 24 v3 fun r1 => (if wr r1 = wr v1 then fX5_mayTake_L4 n M v1 (v2 + 1) (v3 + 1) else fX5_mayTake_L4 n M v1 v2 (v3 + 1))) else some v2)
set_option maxRecDepth 20000 in
set_option maxHeartbeats 1000000 in
theorem fX5_mayTake_L4_c {S : xS} {kp : Option Nat} (hS : xSk kp 20 S) {Q : Option xV → xS → xM → Prop} :
    ∀ (n : Nat) (M : xM) (v1 : Int) (v2 : Int) (v3 : Int) {x2 : Int}, fX5_mayTake_L4 n M v1 v2 v3 = some x2 → V Y_X5_mayTake 0 0 0 31 [(0, vR (some 17)), (2, vI x2)] [] S M Q → V Y_X5_mayTake 0 0 0 4 [(0, vR (some 17)), (1, vI v1), (2, vI v2), (3, vI v3)] [] S M Q := by
  intro n
  induction n with
  | zero =>
    intro M v1 v2 v3 x2 h k
    cases h
  | succ n ih =>
    intro M v1 v2 v3 x2 h k
    rw [fX5_mayTake_L4] at h
    refine V_iload_n dX5_mayTake_4 rfl (xm 3 rfl) ?_
    refine V_aload_n dX5_mayTake_5 rfl (xm 0 rfl) ?_
    refine V_getI (kI := 0) dX5_mayTake_6 fl_X5_27 (sk_17 hS (by decide)) rfl rfl ?_
    refine V_icmp_ge (tgt := 31) dX5_mayTake_9 (by decide) h (fun _ h => ?_) (fun _ h => ?_)
    · refine V_aload_n dX5_mayTake_12 rfl (xm 0 rfl) ?_
      refine V_getR dX5_mayTake_13 fl_X5_15 (sk_17 hS (by decide)) rfl ?_
      refine V_iload_n dX5_mayTake_16 rfl (xm 3 rfl) ?_
      refine T_iald dX5_mayTake_17 (sk_19 hS (by decide)) rfl h (fun r1 h => ?_)
      refine V_iload_n dX5_mayTake_18 rfl (xm 1 rfl) ?_
      refine V_icmp_ne (tgt := 25) dX5_mayTake_19 (by decide) h (fun _ h => ?_) (fun _ h => ?_)
      · refine V_iinc (ls' := [(2, vI (v2 + 1)), (0, vR (some 17)), (1, vI v1), (3, vI v3)]) dX5_mayTake_22 (xm 2 rfl) (by decide) rfl ?_
        refine V_iinc (ls' := [(3, vI (v3 + 1)), (2, vI (v2 + 1)), (0, vR (some 17)), (1, vI v1)]) dX5_mayTake_25 (xm 3 rfl) (by decide) rfl ?_
        refine V_goto (tgt := 4) dX5_mayTake_28 (by decide) ?_
        refine V.pick [2, 3, 1, 0] rfl ?_
        exact ih M v1 (v2 + 1) (v3 + 1) h k
      · refine V_iinc (ls' := [(3, vI (v3 + 1)), (0, vR (some 17)), (1, vI v1), (2, vI v2)]) dX5_mayTake_25 (xm 3 rfl) (by decide) rfl ?_
        refine V_goto (tgt := 4) dX5_mayTake_28 (by decide) ?_
        refine V.pick [1, 2, 3, 0] rfl ?_
        exact ih M v1 v2 (v3 + 1) h k
    · cases h
      refine V.pick [0, 2] rfl ?_
      exact k
theorem fX5_mayTake_L4_ci {S : xS} {kp : Option Nat} (hS : xSk kp 20 S) {Q : Option xV → xS → xM → Prop} {n : Nat} {M : xM} {v1 : Int} {v2 : Int} {v3 : Int} {x2 : Int} (hl : fX5_mayTake_L4 n M v1 v2 v3 = some x2) (k : V Y_X5_mayTake 0 0 0 31 [(0, vR (some 17)), (2, vI x2)] [] S M Q) : V Y_X5_mayTake 0 0 0 4 [(0, vR (some 17)), (1, vI v1), (2, vI v2), (3, vI v3)] [] S M Q := fX5_mayTake_L4_c hS _ _ _ _ _ hl k
def fX5_mayTake (M : xM) (v1 : Int) : Option Bool := xb (fX5_mayTake_L4 xfuel M v1 0 0) fun y2 => (if wr (M 17 0) < wr 24 then (if wr y2 < wr 10 then some true else some false) else some false)
set_option maxRecDepth 20000 in
set_option maxHeartbeats 1000000 in
theorem fX5_mayTake_c {S : xS} {kp : Option Nat} (hS : xSk kp 20 S) {M : xM} {v1 : Int} {E : Bool} (h : fX5_mayTake M v1 = some E) :
    V Y_X5_mayTake 0 0 0 0 (xarg 0 [vR (some 17), vI v1]) [] S M (xqR S M (some (vI (b2i E)))) := by
  unfold fX5_mayTake at h
  show V Y_X5_mayTake 0 0 0 0 [(0, vR (some 17)), (1, vI v1)] [] S M _
  refine V_iconst dX5_mayTake_0 ?_
  refine V_istore_n (ls' := [(2, vI 0), (0, vR (some 17)), (1, vI v1)]) dX5_mayTake_1 rfl (by decide) rfl ?_
  refine V_iconst dX5_mayTake_2 ?_
  refine V_istore_n (ls' := [(3, vI 0), (2, vI 0), (0, vR (some 17)), (1, vI v1)]) dX5_mayTake_3 rfl (by decide) rfl ?_
  refine xbE h (fun y2 h3 h => ?_)
  refine V.pick [2, 3, 1, 0] rfl ?_
  refine fX5_mayTake_L4_ci (hS.le (by decide)) h3 ?_
  refine V_aload_n dX5_mayTake_31 rfl (xm 0 rfl) ?_
  refine V_getI (kI := 0) dX5_mayTake_32 fl_X5_27 (sk_17 hS (by decide)) rfl rfl ?_
  refine V_bipush dX5_mayTake_35 (by decide) ?_
  refine V_icmp_ge (tgt := 50) dX5_mayTake_37 (by decide) h (fun _ h => ?_) (fun _ h => ?_)
  · refine V_iload_n dX5_mayTake_40 rfl (xm 1 rfl) ?_
    refine V_bipush dX5_mayTake_41 (by decide) ?_
    refine V_icmp_ge (tgt := 50) dX5_mayTake_43 (by decide) h (fun _ h => ?_) (fun _ h => ?_)
    · refine V_iconst dX5_mayTake_46 ?_
      refine V_goto (tgt := 51) dX5_mayTake_47 (by decide) ?_
      exact V_iretb (b := true) dX5_mayTake_51 rfl (by decide) (q_pB h)
    · refine V_iconst dX5_mayTake_50 ?_
      exact V_iretb (b := false) dX5_mayTake_51 rfl (by decide) (q_pB h)
  · refine V_iconst dX5_mayTake_50 ?_
    exact V_iretb (b := false) dX5_mayTake_51 rfl (by decide) (q_pB h)
def fX5_take (M : xM) (v1 : Int) (v2 : Int) (v3 : Int) (v4 : Int) : Option (Int × xM) := xwt M 19 24 (M 17 0) v1 fun M1 => xwt M1 18 24 (M 17 0) v2 fun M2 => xwt M2 20 24 (M 17 0) v3 fun M3 => xwt M3 21 24 (M 17 0) v4 fun M4 => xlet (xup M4 17 2 (xand (M4 17 2) (xxor (xshl 1 (M 17 0)) ((-1))))) fun M5 => xlet (xup M5 17 0 ((M5 17 0) + 1)) fun M6 => some (M 17 0, M6)
set_option maxRecDepth 20000 in
set_option maxHeartbeats 1000000 in
theorem fX5_take_c {S : xS} {kp : Option Nat} (hS : xSk kp 22 S) {M : xM} {v1 : Int} {v2 : Int} {v3 : Int} {v4 : Int} {E : Int × xM} (h : fX5_take M v1 v2 v3 v4 = some E) :
    V Y_X5_take 0 0 0 0 (xarg 0 [vR (some 17), vI v1, vI v2, vI v3, vI v4]) [] S M (xqR S E.2 (some (vI E.1))) := by
  unfold fX5_take at h
  show V Y_X5_take 0 0 0 0 [(0, vR (some 17)), (1, vI v1), (2, vI v2), (3, vI v3), (4, vI v4)] [] S M _
  refine V_aload_n dX5_take_0 rfl (xm 0 rfl) ?_
  refine V_getI (kI := 0) dX5_take_1 fl_X5_27 (sk_17 hS (by decide)) rfl rfl ?_
  refine V_istore (ls' := [(5, vI (M 17 0)), (0, vR (some 17)), (1, vI v1), (2, vI v2), (3, vI v3), (4, vI v4)]) dX5_take_4 (by decide) rfl ?_
  refine V_aload_n dX5_take_6 rfl (xm 1 rfl) ?_
  refine V_getR dX5_take_7 fl_X5_15 (sk_17 hS (by decide)) rfl ?_
  refine V_iload dX5_take_10 (xm 0 rfl) ?_
  refine V_iload_n dX5_take_12 rfl (xm 2 rfl) ?_
  refine T_iast dX5_take_13 (sk_19 hS (by decide)) rfl h (fun M1 h => ?_)
  refine V_aload_n dX5_take_14 rfl (xm 1 rfl) ?_
  refine V_getR dX5_take_15 fl_X5_11 (sk_17 hS (by decide)) rfl ?_
  refine V_iload dX5_take_18 (xm 0 rfl) ?_
  refine V_iload_n dX5_take_20 rfl (xm 3 rfl) ?_
  refine T_iast dX5_take_21 (sk_18 hS (by decide)) rfl h (fun M2 h => ?_)
  refine V_aload_n dX5_take_22 rfl (xm 1 rfl) ?_
  refine V_getR dX5_take_23 fl_X5_18 (sk_17 hS (by decide)) rfl ?_
  refine V_iload dX5_take_26 (xm 0 rfl) ?_
  refine V_iload_n dX5_take_28 rfl (xm 4 rfl) ?_
  refine T_iast dX5_take_29 (sk_20 hS (by decide)) rfl h (fun M3 h => ?_)
  refine V_aload_n dX5_take_30 rfl (xm 1 rfl) ?_
  refine V_getR dX5_take_31 fl_X5_21 (sk_17 hS (by decide)) rfl ?_
  refine V_iload dX5_take_34 (xm 0 rfl) ?_
  refine V_iload dX5_take_36 (xm 5 rfl) ?_
  refine T_iast dX5_take_38 (sk_21 hS (by decide)) rfl h (fun M4 h => ?_)
  refine V_aload_n dX5_take_39 rfl (xm 1 rfl) ?_
  refine V_dup dX5_take_40 rfl ?_
  refine V_getI (kI := 2) dX5_take_41 fl_X5_31 (sk_17 hS (by decide)) rfl rfl ?_
  refine V_iconst dX5_take_44 ?_
  refine V_iload dX5_take_45 (xm 0 rfl) ?_
  refine V_ishl dX5_take_47 ?_
  refine V_iconst dX5_take_48 ?_
  refine V_ixor dX5_take_49 ?_
  refine V_iand dX5_take_50 ?_
  refine T_putI (kI := 2) dX5_take_51 fp_X5_31 (sk_17 hS (by decide)) rfl rfl h (fun M5 h => ?_)
  refine V_aload_n dX5_take_54 rfl (xm 1 rfl) ?_
  refine V_dup dX5_take_55 rfl ?_
  refine V_getI (kI := 0) dX5_take_56 fl_X5_27 (sk_17 hS (by decide)) rfl rfl ?_
  refine V_iconst dX5_take_59 ?_
  refine V_iadd dX5_take_60 ?_
  refine T_putI (kI := 0) dX5_take_61 fp_X5_27 (sk_17 hS (by decide)) rfl rfl h (fun M6 h => ?_)
  refine V_iload dX5_take_64 (xm 0 rfl) ?_
  exact V_ireti dX5_take_66 rfl (q_wI h)
