set_option maxRecDepth 20000 in
set_option maxHeartbeats 1000000 in
theorem fX12_back_c {S : xS} {kp : Option Nat} (hS : xSk kp 111 S) {M : xM} {v1 : Int} {v2 : Int} {v3 : Int} {E : Int × xM} (h : fX12_back M v1 v2 v3 = some E) :
    V Y_X12_back 3 0 0 0 (xarg 0 [vR (some 94), vI v1, vI v2, vI v3]) [] S M (xqR S E.2 (some (vL E.1))) := by
  unfold fX12_back at h
  show V Y_X12_back 3 0 0 0 [(0, vR (some 94)), (1, vI v1), (2, vI v2), (3, vI v3)] [] S M _
  refine V_iload_n dX12_back_0 rfl (xm 1 rfl) ?_
  refine T_callSI (host := "") dX12_back_1 ok_X12_isDay lk_X12_229.1 lk_X12_229.2 (hV := ((fX12_isDay_c (hS.le (by decide)) rfl).mono (by decide) (Nat.le_refl _) (Nat.le_refl _))) rfl (Nat.le_of_ble_eq_true rfl) rfl (Nat.le_of_ble_eq_true rfl) ?_
  refine V_if_eqB (tgt := 26) dX12_back_4 (by decide) h (fun _ h => ?_) (fun _ h => ?_)
  · refine V_iload_n dX12_back_7 rfl (xm 2 rfl) ?_
    refine T_callSI (host := "") dX12_back_8 ok_X12_isDay lk_X12_229.1 lk_X12_229.2 (hV := ((fX12_isDay_c (hS.le (by decide)) rfl).mono (by decide) (Nat.le_refl _) (Nat.le_refl _))) rfl (Nat.le_of_ble_eq_true rfl) rfl (Nat.le_of_ble_eq_true rfl) ?_
    refine V_if_eqB (tgt := 26) dX12_back_11 (by decide) h (fun _ h => ?_) (fun _ h => ?_)
    · refine V_iload_n dX12_back_14 rfl (xm 2 rfl) ?_
      refine V_iload_n dX12_back_15 rfl (xm 1 rfl) ?_
      refine V_isub dX12_back_16 ?_
      refine V_iconst dX12_back_17 ?_
      refine V_bipush dX12_back_18 (by decide) ?_
      refine T_callSI (host := "") dX12_back_20 ok_X12_isIn lk_X12_70.1 lk_X12_70.2 (hV := ((fX12_isIn_c (hS.le (by decide)) rfl).mono (by decide) (Nat.le_refl _) (Nat.le_refl _))) rfl (Nat.le_of_ble_eq_true rfl) rfl (Nat.le_of_ble_eq_true rfl) ?_
      refine V_if_neB (tgt := 30) dX12_back_23 (by decide) h (fun _ h => ?_) (fun _ h => ?_)
      · refine V_iload_n dX12_back_30 rfl (xm 2 rfl) ?_
        refine V_iload_n dX12_back_31 rfl (xm 1 rfl) ?_
        refine V_isub dX12_back_32 ?_
        refine V_iconst dX12_back_33 ?_
        refine V_iadd dX12_back_34 ?_
        refine V_istore (ls' := [(4, vI ((v2 - v1) + 1)), (0, vR (some 94)), (1, vI v1), (2, vI v2), (3, vI v3)]) dX12_back_35 (by decide) rfl ?_
        refine V_iload_n dX12_back_37 rfl (xm 4 rfl) ?_
        refine V_iconst dX12_back_38 ?_
        refine V_iconst dX12_back_39 ?_
        refine T_callSI (host := "") dX12_back_40 ok_X12_isIn lk_X12_70.1 lk_X12_70.2 (hV := ((fX12_isIn_c (hS.le (by decide)) rfl).mono (by decide) (Nat.le_refl _) (Nat.le_refl _))) rfl (Nat.le_of_ble_eq_true rfl) rfl (Nat.le_of_ble_eq_true rfl) ?_
        refine xjE h (fun j1 hj1 h => ?_)
        have kj1 : ∀ (u : Unit), j1 u = some E → V Y_X12_back 3 0 0 64 [(0, vR (some 94)), (1, vI v1), (2, vI v2), (3, vI v3)] [] S M (xqR S E.2 (some (vL E.1))) := by
          intro u h
          rw [hj1] at h
          refine V_aload_n dX12_back_64 rfl (xm 0 rfl) ?_
          refine V_iload_n dX12_back_65 rfl (xm 1 rfl) ?_
          refine V_iload_n dX12_back_66 rfl (xm 2 rfl) ?_
          refine xbE h (fun M3 h2 h => ?_)
          refine T_callVv dX12_back_67 ok_X12_laysWays (by exact ⟨by decide, rfl⟩) lk_X12_329.1 lk_X12_329.2 (sk_94 hS (by decide)) (hV := ((fX12_laysWays_c (hS.le (by decide)) h2).mono (by decide) (Nat.le_refl _) (Nat.le_refl _))) rfl (Nat.le_of_ble_eq_true rfl) rfl (Nat.le_of_ble_eq_true rfl) ?_
          refine V_lconst (x := 0) dX12_back_70 (by decide) ?_
          refine V_lstore (ls' := [(5, vL 0), (0, vR (some 94)), (1, vI v1), (2, vI v2), (3, vI v3)]) dX12_back_71 (by decide) rfl ?_
          refine V_iconst dX12_back_73 ?_
          refine V_istore (ls' := [(7, vI ((-1))), (5, vL 0), (0, vR (some 94)), (1, vI v1), (2, vI v2), (3, vI v3)]) dX12_back_74 (by decide) rfl ?_
          refine V_aload_n dX12_back_76 rfl (xm 2 rfl) ?_
          refine V_getR dX12_back_77 fl_X12_7 (sk_94 hS (by decide)) rfl ?_
          refine V_iconst dX12_back_80 ?_
          refine V_ialdK (j := 0) dX12_back_81 (sk_95 hS (by decide)) (by decide) (by decide) ?_
          refine V_iconst dX12_back_82 ?_
          refine V_isub dX12_back_83 ?_
          refine V_istore (ls' := [(8, vI ((M3 95 0) - 1)), (7, vI ((-1))), (5, vL 0), (0, vR (some 94)), (1, vI v1), (2, vI v2), (3, vI v3)]) dX12_back_84 (by decide) rfl ?_
          refine xb2E h (fun y6 y7 h8 h => ?_)
          refine V.pick [3, 4, 6, 2, 1, 0] rfl ?_
          refine fX12_back_L86_ci (hS.le (by decide)) h8 ?_
          refine V_iload_n dX12_back_130 rfl (xm 2 rfl) ?_
          refine V_if_ne (tgt := 152) dX12_back_131 (by decide) h (fun _ h => ?_) (fun _ h => ?_)
          · refine V_lload dX12_back_134 (xm 3 rfl) ?_
            refine V_ldc2 (n := 100000000000000000) dX12_back_136 (xsg7 151 rfl rfl : Cond.constantLong RX12 325 100000000000000000 ∈ xT) (by decide) ?_
            refine V_lcmp dX12_back_139 ?_
            refine V_if_le (tgt := 149) dX12_back_140 (by decide) h (fun _ h => ?_) (fun _ h => ?_)
            · refine V_ldc2 (n := 100000000000000000) dX12_back_143 (xsg7 151 rfl rfl : Cond.constantLong RX12 325 100000000000000000 ∈ xT) (by decide) ?_
              refine V_goto (tgt := 151) dX12_back_146 (by decide) ?_
              exact V_lret dX12_back_151 rfl (q_wL h)
            · refine V_lload dX12_back_149 (xm 3 rfl) ?_
              exact V_lret dX12_back_151 rfl (q_wL h)
          · refine V_iload_n dX12_back_152 rfl (xm 2 rfl) ?_
            refine V_iconst dX12_back_153 ?_
            refine V_icmp_eq (tgt := 163) dX12_back_154 (by decide) h (fun _ h => ?_) (fun _ h => ?_)
            · refine V_iload dX12_back_163 (xm 4 rfl) ?_
              refine V_i2l dX12_back_165 ?_
              exact V_lret dX12_back_166 rfl (q_wL h)
            · refine V_iload dX12_back_157 (xm 4 rfl) ?_
              refine V_iconst dX12_back_159 ?_
              refine V_icmp_ne (tgt := 167) dX12_back_160 (by decide) h (fun _ h => ?_) (fun _ h => ?_)
              · refine V_iload dX12_back_163 (xm 4 rfl) ?_
                refine V_i2l dX12_back_165 ?_
                exact V_lret dX12_back_166 rfl (q_wL h)
              · refine V_iload dX12_back_167 (xm 4 rfl) ?_
                refine V_istore (ls' := [(8, vI y7), (0, vR (some 94)), (1, vI v1), (3, vI v3), (5, vL y6), (7, vI y7)]) dX12_back_169 (by decide) rfl ?_
                refine V_iconst dX12_back_171 ?_
                refine V_istore (ls' := [(9, vI 0), (8, vI y7), (0, vR (some 94)), (1, vI v1), (3, vI v3), (5, vL y6), (7, vI y7)]) dX12_back_172 (by decide) rfl ?_
                refine V_iconst dX12_back_174 ?_
                refine V_istore (ls' := [(10, vI 0), (9, vI 0), (8, vI y7), (0, vR (some 94)), (1, vI v1), (3, vI v3), (5, vL y6), (7, vI y7)]) dX12_back_175 (by decide) rfl ?_
                refine xbE h (fun y20 h21 h => ?_)
                refine V.pick [3, 4, 5, 2, 1, 0] rfl ?_
                refine fX12_back_L177_ci (hS.le (by decide)) h21 ?_
                refine V_iload dX12_back_272 (xm 0 rfl) ?_
                refine V_i2l dX12_back_274 ?_
                refine V_ldc2 (n := 2) dX12_back_275 (xsg7 152 rfl rfl : Cond.constantLong RX12 332 2 ∈ xT) (by decide) ?_
                refine V_ladd dX12_back_278 ?_
                exact V_lret dX12_back_279 rfl (q_wL h)
        refine V_if_neB (tgt := 64) dX12_back_43 (by decide) h (fun _ h => ?_) (fun _ h => ?_)
        · refine V.pick [1, 2, 3, 4] rfl ?_
          exact kj1 () h
        · refine V_iload_n dX12_back_46 rfl (xm 4 rfl) ?_
          refine V_bipush dX12_back_47 (by decide) ?_
          refine V_bipush dX12_back_49 (by decide) ?_
          refine V_iload dX12_back_51 (xm 0 rfl) ?_
          refine V_iadd dX12_back_53 ?_
          refine T_callSI (host := "") dX12_back_54 ok_X12_isIn lk_X12_70.1 lk_X12_70.2 (hV := ((fX12_isIn_c (hS.le (by decide)) rfl).mono (by decide) (Nat.le_refl _) (Nat.le_refl _))) rfl (Nat.le_of_ble_eq_true rfl) rfl (Nat.le_of_ble_eq_true rfl) ?_
          refine V_if_neB (tgt := 64) dX12_back_57 (by decide) h (fun _ h => ?_) (fun _ h => ?_)
          · refine V.pick [1, 2, 3, 4] rfl ?_
            exact kj1 () h
          · refine V_ldc2 (n := (-1)) dX12_back_60 (xsg7 142 rfl rfl : Cond.constantLong RX12 327 (-1) ∈ xT) (by decide) ?_
            exact V_lret dX12_back_63 rfl (q_wL h)
      · refine V_ldc2 (n := (-1)) dX12_back_26 (xsg7 142 rfl rfl : Cond.constantLong RX12 327 (-1) ∈ xT) (by decide) ?_
        exact V_lret dX12_back_29 rfl (q_wL h)
    · refine V_ldc2 (n := (-1)) dX12_back_26 (xsg7 142 rfl rfl : Cond.constantLong RX12 327 (-1) ∈ xT) (by decide) ?_
      exact V_lret dX12_back_29 rfl (q_wL h)
  · refine V_ldc2 (n := (-1)) dX12_back_26 (xsg7 142 rfl rfl : Cond.constantLong RX12 327 (-1) ∈ xT) (by decide) ?_
    exact V_lret dX12_back_29 rfl (q_wL h)
def fX12_image_L15 (n : Nat) (M : xM) (v1 : Int) (v2 : Int) : Option (xM) := match n with
  | 0 => none
  | n + 1 => (if wr v2 < wr 5820 then (if wr v1 = 0 then (xrd M 96 5820 v2 fun r2 => xwt M 95 5820 v2 r2 fun M3 => fX12_image_L15 n M3 v1 (v2 + 1)) else (xrd M 95 5820 v2 fun r4 => xwt M 96 5820 v2 r4 fun M5 => fX12_image_L15 n M5 v1 (v2 + 1))) else some M)
set_option maxRecDepth 20000 in
set_option maxHeartbeats 1000000 in
theorem fX12_image_L15_c {S : xS} {kp : Option Nat} (hS : xSk kp 97 S) {Q : Option xV → xS → xM → Prop} :
    ∀ (n : Nat) (M : xM) (v1 : Int) (v2 : Int) {Mz : xM}, fX12_image_L15 n M v1 v2 = some Mz → V Y_X12_image 1 0 0 59 [(0, vR (some 94)), (1, vI v1)] [] S Mz Q → V Y_X12_image 1 0 0 15 [(0, vR (some 94)), (1, vI v1), (2, vI v2)] [] S M Q := by
  intro n
  induction n with
  | zero =>
    intro M v1 v2 Mz h k
    cases h
  | succ n ih =>
    intro M v1 v2 Mz h k
    rw [fX12_image_L15] at h
    refine V_iload_n dX12_image_15 rfl (xm 2 rfl) ?_
    refine V_sipush dX12_image_16 (by decide) ?_
    refine V_icmp_ge (tgt := 59) dX12_image_19 (by decide) h (fun _ h => ?_) (fun _ h => ?_)
    · refine V_iload_n dX12_image_22 rfl (xm 1 rfl) ?_
      refine V_if_eq (tgt := 41) dX12_image_23 (by decide) h (fun _ h => ?_) (fun _ h => ?_)
      · refine V_aload_n dX12_image_41 rfl (xm 0 rfl) ?_
        refine V_getR dX12_image_42 fl_X12_7 (sk_94 hS (by decide)) rfl ?_
        refine V_iload_n dX12_image_45 rfl (xm 2 rfl) ?_
        refine V_aload_n dX12_image_46 rfl (xm 0 rfl) ?_
        refine V_getR dX12_image_47 fl_X12_13 (sk_94 hS (by decide)) rfl ?_
        refine V_iload_n dX12_image_50 rfl (xm 2 rfl) ?_
        refine T_iald dX12_image_51 (sk_96 hS (by decide)) rfl h (fun r2 h => ?_)
        refine T_iast dX12_image_52 (sk_95 hS (by decide)) rfl h (fun M3 h => ?_)
        refine V_iinc (ls' := [(2, vI (v2 + 1)), (0, vR (some 94)), (1, vI v1)]) dX12_image_53 (xm 2 rfl) (by decide) rfl ?_
        refine V_goto (tgt := 15) dX12_image_56 (by decide) ?_
        refine V.pick [1, 2, 0] rfl ?_
        exact ih M3 v1 (v2 + 1) h k
      · refine V_aload_n dX12_image_26 rfl (xm 0 rfl) ?_
        refine V_getR dX12_image_27 fl_X12_13 (sk_94 hS (by decide)) rfl ?_
        refine V_iload_n dX12_image_30 rfl (xm 2 rfl) ?_
        refine V_aload_n dX12_image_31 rfl (xm 0 rfl) ?_
        refine V_getR dX12_image_32 fl_X12_7 (sk_94 hS (by decide)) rfl ?_
        refine V_iload_n dX12_image_35 rfl (xm 2 rfl) ?_
        refine T_iald dX12_image_36 (sk_95 hS (by decide)) rfl h (fun r4 h => ?_)
        refine T_iast dX12_image_37 (sk_96 hS (by decide)) rfl h (fun M5 h => ?_)
        refine V_goto (tgt := 53) dX12_image_38 (by decide) ?_
        refine V_iinc (ls' := [(2, vI (v2 + 1)), (0, vR (some 94)), (1, vI v1)]) dX12_image_53 (xm 2 rfl) (by decide) rfl ?_
        refine V_goto (tgt := 15) dX12_image_56 (by decide) ?_
        refine V.pick [1, 2, 0] rfl ?_
        exact ih M5 v1 (v2 + 1) h k
    · cases h
      refine V.pick [0, 1] rfl ?_
      exact k
theorem fX12_image_L15_ci {S : xS} {kp : Option Nat} (hS : xSk kp 97 S) {Q : Option xV → xS → xM → Prop} {n : Nat} {M : xM} {v1 : Int} {v2 : Int} {Mz : xM} (hl : fX12_image_L15 n M v1 v2 = some Mz) (k : V Y_X12_image 1 0 0 59 [(0, vR (some 94)), (1, vI v1)] [] S Mz Q) : V Y_X12_image 1 0 0 15 [(0, vR (some 94)), (1, vI v1), (2, vI v2)] [] S M Q := fX12_image_L15_c hS _ _ _ _ hl k
def fX12_image (M : xM) (v1 : Int) : Option (Bool × xM) := xj (fun (_ : Unit) => xb (fX12_image_L15 xfuel M v1 0) fun M6 => xj (fun (M8 : xM) => xlet (xup M8 94 4 1) fun M10 => some (true, M10)) fun j9 => (if wr v1 = 0 then (xb (fX12_forgets M6) fun M12 => j9 M12) else j9 M6)) fun j1 => (if wr v1 = 0 then (if wr (M 94 4) = 0 then some (false, M) else j1 ()) else j1 ())
set_option maxRecDepth 20000 in
set_option maxHeartbeats 1000000 in
theorem fX12_image_c {S : xS} {kp : Option Nat} (hS : xSk kp 97 S) {M : xM} {v1 : Int} {E : Bool × xM} (h : fX12_image M v1 = some E) :
    V Y_X12_image 1 0 0 0 (xarg 0 [vR (some 94), vI v1]) [] S M (xqR S E.2 (some (vI (b2i E.1)))) := by
  unfold fX12_image at h
  show V Y_X12_image 1 0 0 0 [(0, vR (some 94)), (1, vI v1)] [] S M _
  refine V_iload_n dX12_image_0 rfl (xm 1 rfl) ?_
  refine xjE h (fun j1 hj1 h => ?_)
  have kj1 : ∀ (u : Unit), j1 u = some E → V Y_X12_image 1 0 0 13 [(0, vR (some 94)), (1, vI v1)] [] S M (xqR S E.2 (some (vI (b2i E.1)))) := by
    intro u h
    rw [hj1] at h
    refine V_iconst dX12_image_13 ?_
    refine V_istore_n (ls' := [(2, vI 0), (0, vR (some 94)), (1, vI v1)]) dX12_image_14 rfl (by decide) rfl ?_
    refine xbE h (fun M6 h7 h => ?_)
    refine V.pick [1, 2, 0] rfl ?_
    refine fX12_image_L15_ci (hS.le (by decide)) h7 ?_
    refine V_iload_n dX12_image_59 rfl (xm 1 rfl) ?_
    refine xjE h (fun j9 hj9 h => ?_)
    have kj9 : ∀ (M8 : xM), j9 M8 = some E → V Y_X12_image 1 0 0 67 [(0, vR (some 94))] [] S M8 (xqR S E.2 (some (vI (b2i E.1)))) := by
      intro M8 h
      rw [hj9] at h
      refine V_aload_n dX12_image_67 rfl (xm 0 rfl) ?_
      refine V_iconst dX12_image_68 ?_
      refine T_putZ (kI := 4) (b := true) dX12_image_69 fp_X12_334 (sk_94 hS (by decide)) rfl rfl (by decide) h (fun M10 h => ?_)
      refine V_iconst dX12_image_72 ?_
      exact V_iretb (b := true) dX12_image_73 rfl (by decide) (q_wB h)
    refine V_if_ne (tgt := 67) dX12_image_60 (by decide) h (fun _ h => ?_) (fun _ h => ?_)
    · refine V_aload_n dX12_image_63 rfl (xm 0 rfl) ?_
      refine xbE h (fun M12 h11 h => ?_)
      refine T_callVv dX12_image_64 ok_X12_forgets (by exact ⟨by decide, rfl⟩) lk_X12_78.1 lk_X12_78.2 (sk_94 hS (by decide)) (hV := ((fX12_forgets_c (hS.le (by decide)) h11).mono (by decide) (Nat.le_refl _) (Nat.le_refl _))) rfl (Nat.le_of_ble_eq_true rfl) rfl (Nat.le_of_ble_eq_true rfl) ?_
      refine V.pick [0] rfl ?_
      exact kj9 M12 h
    · refine V.pick [0] rfl ?_
      exact kj9 M6 h
  refine V_if_ne (tgt := 13) dX12_image_1 (by decide) h (fun _ h => ?_) (fun _ h => ?_)
  · refine V_aload_n dX12_image_4 rfl (xm 0 rfl) ?_
    refine V_getI (kI := 4) dX12_image_5 fl_X12_334 (sk_94 hS (by decide)) rfl rfl ?_
    refine V_if_ne (tgt := 13) dX12_image_8 (by decide) h (fun _ h => ?_) (fun _ h => ?_)
    · refine V_iconst dX12_image_11 ?_
      exact V_iretb (b := false) dX12_image_12 rfl (by decide) (q_wB h)
    · refine V.pick [0, 1] rfl ?_
      exact kj1 () h
  · refine V.pick [0, 1] rfl ?_
    exact kj1 () h
def fX12_look (M : xM) (v1 : Int) : Option Int := (if (fX12_isIn v1 0 8) = true then (xrd M 95 5820 v1 fun r1 => some r1) else (if wr v1 = wr 9 then some (M 94 3) else (if (fX12_isIn v1 10 13) = true then (xrd M 95 5820 ((2320 + v1) - 10) fun r2 => some r2) else (if (fX12_isIn v1 20 (19 + (M 95 5))) = true then (xrd M 95 5820 ((60 + v1) - 20) fun r3 => some r3) else some ((-100000))))))
set_option maxRecDepth 20000 in
set_option maxHeartbeats 1000000 in
theorem fX12_look_c {S : xS} {kp : Option Nat} (hS : xSk kp 96 S) {M : xM} {v1 : Int} {E : Int} (h : fX12_look M v1 = some E) :
    V Y_X12_look 1 0 0 0 (xarg 0 [vR (some 94), vI v1]) [] S M (xqR S M (some (vI E))) := by
  unfold fX12_look at h
  show V Y_X12_look 1 0 0 0 [(0, vR (some 94)), (1, vI v1)] [] S M _
  refine V_iload_n dX12_look_0 rfl (xm 1 rfl) ?_
  refine V_iconst dX12_look_1 ?_
  refine V_bipush dX12_look_2 (by decide) ?_
  refine T_callSI (host := "") dX12_look_4 ok_X12_isIn lk_X12_70.1 lk_X12_70.2 (hV := ((fX12_isIn_c (hS.le (by decide)) rfl).mono (by decide) (Nat.le_refl _) (Nat.le_refl _))) rfl (Nat.le_of_ble_eq_true rfl) rfl (Nat.le_of_ble_eq_true rfl) ?_
  refine V_if_eqB (tgt := 17) dX12_look_7 (by decide) h (fun _ h => ?_) (fun _ h => ?_)
  · refine V_aload_n dX12_look_10 rfl (xm 0 rfl) ?_
    refine V_getR dX12_look_11 fl_X12_7 (sk_94 hS (by decide)) rfl ?_
    refine V_iload_n dX12_look_14 rfl (xm 1 rfl) ?_
    refine T_iald dX12_look_15 (sk_95 hS (by decide)) rfl h (fun r1 h => ?_)
    exact V_ireti dX12_look_16 rfl (q_pI h)
  · refine V_iload_n dX12_look_17 rfl (xm 1 rfl) ?_
    refine V_bipush dX12_look_18 (by decide) ?_
    refine V_icmp_ne (tgt := 28) dX12_look_20 (by decide) h (fun _ h => ?_) (fun _ h => ?_)
    · refine V_aload_n dX12_look_23 rfl (xm 0 rfl) ?_
      refine V_getI (kI := 3) dX12_look_24 fl_X12_67 (sk_94 hS (by decide)) rfl rfl ?_
      exact V_ireti dX12_look_27 rfl (q_pI h)
    · refine V_iload_n dX12_look_28 rfl (xm 1 rfl) ?_
      refine V_bipush dX12_look_29 (by decide) ?_
      refine V_bipush dX12_look_31 (by decide) ?_
      refine T_callSI (host := "") dX12_look_33 ok_X12_isIn lk_X12_70.1 lk_X12_70.2 (hV := ((fX12_isIn_c (hS.le (by decide)) rfl).mono (by decide) (Nat.le_refl _) (Nat.le_refl _))) rfl (Nat.le_of_ble_eq_true rfl) rfl (Nat.le_of_ble_eq_true rfl) ?_
      refine V_if_eqB (tgt := 53) dX12_look_36 (by decide) h (fun _ h => ?_) (fun _ h => ?_)
      · refine V_aload_n dX12_look_39 rfl (xm 0 rfl) ?_
        refine V_getR dX12_look_40 fl_X12_7 (sk_94 hS (by decide)) rfl ?_
        refine V_sipush dX12_look_43 (by decide) ?_
        refine V_iload_n dX12_look_46 rfl (xm 1 rfl) ?_
        refine V_iadd dX12_look_47 ?_
        refine V_bipush dX12_look_48 (by decide) ?_
        refine V_isub dX12_look_50 ?_
        refine T_iald dX12_look_51 (sk_95 hS (by decide)) rfl h (fun r2 h => ?_)
        exact V_ireti dX12_look_52 rfl (q_pI h)
      · refine V_iload_n dX12_look_53 rfl (xm 1 rfl) ?_
        refine V_bipush dX12_look_54 (by decide) ?_
        refine V_bipush dX12_look_56 (by decide) ?_
        refine V_aload_n dX12_look_58 rfl (xm 0 rfl) ?_
        refine V_getR dX12_look_59 fl_X12_7 (sk_94 hS (by decide)) rfl ?_
        refine V_iconst dX12_look_62 ?_
        refine V_ialdK (j := 5) dX12_look_63 (sk_95 hS (by decide)) (by decide) (by decide) ?_
        refine V_iadd dX12_look_64 ?_
        refine T_callSI (host := "") dX12_look_65 ok_X12_isIn lk_X12_70.1 lk_X12_70.2 (hV := ((fX12_isIn_c (hS.le (by decide)) rfl).mono (by decide) (Nat.le_refl _) (Nat.le_refl _))) rfl (Nat.le_of_ble_eq_true rfl) rfl (Nat.le_of_ble_eq_true rfl) ?_
        refine V_if_eqB (tgt := 86) dX12_look_68 (by decide) h (fun _ h => ?_) (fun _ h => ?_)
        · refine V_aload_n dX12_look_71 rfl (xm 0 rfl) ?_
          refine V_getR dX12_look_72 fl_X12_7 (sk_94 hS (by decide)) rfl ?_
          refine V_bipush dX12_look_75 (by decide) ?_
          refine V_iload_n dX12_look_77 rfl (xm 1 rfl) ?_
          refine V_iadd dX12_look_78 ?_
          refine V_bipush dX12_look_79 (by decide) ?_
          refine V_isub dX12_look_81 ?_
          refine T_iald dX12_look_82 (sk_95 hS (by decide)) rfl h (fun r3 h => ?_)
          refine V_goto (tgt := 88) dX12_look_83 (by decide) ?_
          exact V_ireti dX12_look_88 rfl (q_pI h)
        · refine V_ldc (n := (-100000)) dX12_look_86 (xsg6 211 rfl rfl : Cond.constant RX12 236 (-100000) ∈ xT) (by decide) ?_
          exact V_ireti dX12_look_88 rfl (q_pI h)
def fX11_within (v0 : Int) (v1 : Int) (v2 : Int) : Bool := (if wr v0 < wr v1 then false else (if wr v2 < wr v0 then false else true))
set_option maxRecDepth 20000 in
set_option maxHeartbeats 1000000 in
theorem fX11_within_c {S : xS} {kp : Option Nat} (hS : xSk kp 0 S) {M : xM} {v0 : Int} {v1 : Int} {v2 : Int} {E : Bool} (h : fX11_within v0 v1 v2 = E) :
    V Y_X11_within 0 0 0 0 (xarg 0 [vI v0, vI v1, vI v2]) [] S M (xqR S M (some (vI (b2i E)))) := by
  unfold fX11_within at h
  show V Y_X11_within 0 0 0 0 [(0, vI v0), (1, vI v1), (2, vI v2)] [] S M _
  refine V_iload_n dX11_within_0 rfl (xm 0 rfl) ?_
  refine V_iload_n dX11_within_1 rfl (xm 1 rfl) ?_
  refine V_icmp_lt (tgt := 14) dX11_within_2 (by decide) h (fun _ h => ?_) (fun _ h => ?_)
  · refine V_iconst dX11_within_14 ?_
    exact V_iretb (b := false) dX11_within_15 rfl (by decide) (q_tB h)
  · refine V_iload_n dX11_within_5 rfl (xm 0 rfl) ?_
    refine V_iload_n dX11_within_6 rfl (xm 2 rfl) ?_
    refine V_icmp_gt (tgt := 14) dX11_within_7 (by decide) h (fun _ h => ?_) (fun _ h => ?_)
    · refine V_iconst dX11_within_14 ?_
      exact V_iretb (b := false) dX11_within_15 rfl (by decide) (q_tB h)
    · refine V_iconst dX11_within_10 ?_
      refine V_goto (tgt := 15) dX11_within_11 (by decide) ?_
      exact V_iretb (b := true) dX11_within_15 rfl (by decide) (q_tB h)
def fJ7_fill_53178_L5 (n : Nat) (M : xM) (v1 : Int) (v2 : Int) (v3 : Int) : Option (xM) := match n with
  | 0 => none
  | n + 1 => (if wr v2 < wr v3 then (xwt M 2 864 v2 v1 fun M1 => fJ7_fill_53178_L5 n M1 v1 (v2 + 1) v3) else some M)
set_option maxRecDepth 20000 in
set_option maxHeartbeats 1000000 in
theorem fJ7_fill_53178_L5_c {S : xS} {kp : Option Nat} (hS : xSk kp 3 S) {Q : Option xV → xS → xM → Prop} :
    ∀ (n : Nat) (M : xM) (v1 : Int) (v2 : Int) (v3 : Int) {Mz : xM}, fJ7_fill_53178_L5 n M v1 v2 v3 = some Mz → V Y_J7_fill_53178 0 0 0 20 [] [] S Mz Q → V Y_J7_fill_53178 0 0 0 5 [(0, vR (some 2)), (1, vI v1), (2, vI v2), (3, vI v3)] [] S M Q := by
  intro n
  induction n with
  | zero =>
    intro M v1 v2 v3 Mz h k
    cases h
  | succ n ih =>
    intro M v1 v2 v3 Mz h k
    rw [fJ7_fill_53178_L5] at h
    refine V_iload_n dJ7_fill_53178_5 rfl (xm 2 rfl) ?_
    refine V_iload_n dJ7_fill_53178_6 rfl (xm 3 rfl) ?_
    refine V_icmp_ge (tgt := 20) dJ7_fill_53178_7 (by decide) h (fun _ h => ?_) (fun _ h => ?_)
    · refine V_aload_n dJ7_fill_53178_10 rfl (xm 0 rfl) ?_
      refine V_iload_n dJ7_fill_53178_11 rfl (xm 2 rfl) ?_
      refine V_iload_n dJ7_fill_53178_12 rfl (xm 1 rfl) ?_
      refine T_iast dJ7_fill_53178_13 (sk_2 hS (by decide)) rfl h (fun M1 h => ?_)
      refine V_iinc (ls' := [(2, vI (v2 + 1)), (0, vR (some 2)), (1, vI v1), (3, vI v3)]) dJ7_fill_53178_14 (xm 2 rfl) (by decide) rfl ?_
      refine V_goto (tgt := 5) dJ7_fill_53178_17 (by decide) ?_
      refine V.pick [1, 2, 0, 3] rfl ?_
      exact ih M1 v1 (v2 + 1) v3 h k
    · cases h
      refine V.pick [] rfl ?_
      exact k
theorem fJ7_fill_53178_L5_ci {S : xS} {kp : Option Nat} (hS : xSk kp 3 S) {Q : Option xV → xS → xM → Prop} {n : Nat} {M : xM} {v1 : Int} {v2 : Int} {v3 : Int} {Mz : xM} (hl : fJ7_fill_53178_L5 n M v1 v2 v3 = some Mz) (k : V Y_J7_fill_53178 0 0 0 20 [] [] S Mz Q) : V Y_J7_fill_53178 0 0 0 5 [(0, vR (some 2)), (1, vI v1), (2, vI v2), (3, vI v3)] [] S M Q := fJ7_fill_53178_L5_c hS _ _ _ _ _ hl k
def fJ7_fill_53178 (M : xM) (v1 : Int) : Option xM := xb (fJ7_fill_53178_L5 xfuel M v1 0 864) fun M2 => some M2
set_option maxRecDepth 20000 in
set_option maxHeartbeats 1000000 in
theorem fJ7_fill_53178_c {S : xS} {kp : Option Nat} (hS : xSk kp 3 S) {M : xM} {v1 : Int} {E : xM} (h : fJ7_fill_53178 M v1 = some E) :
    V Y_J7_fill_53178 0 0 0 0 (xarg 0 [vR (some 2), vI v1]) [] S M (xqR S E none) := by
  unfold fJ7_fill_53178 at h
  show V Y_J7_fill_53178 0 0 0 0 [(0, vR (some 2)), (1, vI v1)] [] S M _
  refine V_iconst dJ7_fill_53178_0 ?_
  refine V_istore_n (ls' := [(2, vI 0), (0, vR (some 2)), (1, vI v1)]) dJ7_fill_53178_1 rfl (by decide) rfl ?_
  refine V_aload_n dJ7_fill_53178_2 rfl (xm 1 rfl) ?_
  refine V_alen (x := 864) dJ7_fill_53178_3 (sk_2 hS (by decide)) (by decide) rfl ?_
  refine V_istore_n (ls' := [(3, vI 864), (2, vI 0), (0, vR (some 2)), (1, vI v1)]) dJ7_fill_53178_4 rfl (by decide) rfl ?_
  refine xbE h (fun M2 h3 h => ?_)
  refine V.pick [2, 3, 1, 0] rfl ?_
  refine fJ7_fill_53178_L5_ci (hS.le (by decide)) h3 ?_
  exact V_ret dJ7_fill_53178_20 rfl (q_v h)
def fJ7_fill_53178_i2_L5 (n : Nat) (M : xM) (v1 : Int) (v2 : Int) (v3 : Int) : Option (xM) := match n with
  | 0 => none
  | n + 1 => (if wr v2 < wr v3 then (xwt M 4 60 v2 v1 fun M1 => fJ7_fill_53178_i2_L5 n M1 v1 (v2 + 1) v3) else some M)
set_option maxRecDepth 20000 in
set_option maxHeartbeats 1000000 in
theorem fJ7_fill_53178_i2_L5_c {S : xS} {kp : Option Nat} (hS : xSk kp 5 S) {Q : Option xV → xS → xM → Prop} :
    ∀ (n : Nat) (M : xM) (v1 : Int) (v2 : Int) (v3 : Int) {Mz : xM}, fJ7_fill_53178_i2_L5 n M v1 v2 v3 = some Mz → V Y_J7_fill_53178 0 0 0 20 [] [] S Mz Q → V Y_J7_fill_53178 0 0 0 5 [(0, vR (some 4)), (1, vI v1), (2, vI v2), (3, vI v3)] [] S M Q := by
  intro n
  induction n with
  | zero =>
    intro M v1 v2 v3 Mz h k
    cases h
  | succ n ih =>
    intro M v1 v2 v3 Mz h k
    rw [fJ7_fill_53178_i2_L5] at h
    refine V_iload_n dJ7_fill_53178_5 rfl (xm 2 rfl) ?_
    refine V_iload_n dJ7_fill_53178_6 rfl (xm 3 rfl) ?_
    refine V_icmp_ge (tgt := 20) dJ7_fill_53178_7 (by decide) h (fun _ h => ?_) (fun _ h => ?_)
    · refine V_aload_n dJ7_fill_53178_10 rfl (xm 0 rfl) ?_
      refine V_iload_n dJ7_fill_53178_11 rfl (xm 2 rfl) ?_
      refine V_iload_n dJ7_fill_53178_12 rfl (xm 1 rfl) ?_
      refine T_iast dJ7_fill_53178_13 (sk_4 hS (by decide)) rfl h (fun M1 h => ?_)
      refine V_iinc (ls' := [(2, vI (v2 + 1)), (0, vR (some 4)), (1, vI v1), (3, vI v3)]) dJ7_fill_53178_14 (xm 2 rfl) (by decide) rfl ?_
      refine V_goto (tgt := 5) dJ7_fill_53178_17 (by decide) ?_
      refine V.pick [1, 2, 0, 3] rfl ?_
      exact ih M1 v1 (v2 + 1) v3 h k
    · cases h
      refine V.pick [] rfl ?_
      exact k
theorem fJ7_fill_53178_i2_L5_ci {S : xS} {kp : Option Nat} (hS : xSk kp 5 S) {Q : Option xV → xS → xM → Prop} {n : Nat} {M : xM} {v1 : Int} {v2 : Int} {v3 : Int} {Mz : xM} (hl : fJ7_fill_53178_i2_L5 n M v1 v2 v3 = some Mz) (k : V Y_J7_fill_53178 0 0 0 20 [] [] S Mz Q) : V Y_J7_fill_53178 0 0 0 5 [(0, vR (some 4)), (1, vI v1), (2, vI v2), (3, vI v3)] [] S M Q := fJ7_fill_53178_i2_L5_c hS _ _ _ _ _ hl k
def fJ7_fill_53178_i2 (M : xM) (v1 : Int) : Option xM := xb (fJ7_fill_53178_i2_L5 xfuel M v1 0 60) fun M2 => some M2
set_option maxRecDepth 20000 in
set_option maxHeartbeats 1000000 in
theorem fJ7_fill_53178_i2_c {S : xS} {kp : Option Nat} (hS : xSk kp 5 S) {M : xM} {v1 : Int} {E : xM} (h : fJ7_fill_53178_i2 M v1 = some E) :
    V Y_J7_fill_53178 0 0 0 0 (xarg 0 [vR (some 4), vI v1]) [] S M (xqR S E none) := by
  unfold fJ7_fill_53178_i2 at h
  show V Y_J7_fill_53178 0 0 0 0 [(0, vR (some 4)), (1, vI v1)] [] S M _
  refine V_iconst dJ7_fill_53178_0 ?_
  refine V_istore_n (ls' := [(2, vI 0), (0, vR (some 4)), (1, vI v1)]) dJ7_fill_53178_1 rfl (by decide) rfl ?_
  refine V_aload_n dJ7_fill_53178_2 rfl (xm 1 rfl) ?_
  refine V_alen (x := 60) dJ7_fill_53178_3 (sk_4 hS (by decide)) (by decide) rfl ?_
  refine V_istore_n (ls' := [(3, vI 60), (2, vI 0), (0, vR (some 4)), (1, vI v1)]) dJ7_fill_53178_4 rfl (by decide) rfl ?_
  refine xbE h (fun M2 h3 h => ?_)
  refine V.pick [2, 3, 1, 0] rfl ?_
  refine fJ7_fill_53178_i2_L5_ci (hS.le (by decide)) h3 ?_
  exact V_ret dJ7_fill_53178_20 rfl (q_v h)
def fX9_clear (M : xM) (o0 : Nat) : Option xM := xlet (xup M o0 0 0) fun M1 => xlet (xup M1 o0 1 0) fun M2 => xlet (xup M2 o0 2 0) fun M3 => some M3
set_option maxRecDepth 20000 in
set_option maxHeartbeats 1000000 in
theorem fX9_clear_c {S : xS} {kp : Option Nat} (hS : xSk kp 0 S) {M : xM} {o0 : Nat} (hw0 : S[o0]? = some (9, 4, [none, none, none, some (some (o0 + 1))])) (hc0 : S[o0 + 1]? = some (100, 400, [])) {E : xM} (h : fX9_clear M o0 = some E) :
    V Y_X9_clear 0 0 0 0 (xarg 0 [vR (some o0)]) [] S M (xqR S E none) := by
  unfold fX9_clear at h
  show V Y_X9_clear 0 0 0 0 [(0, vR (some o0))] [] S M _
  refine V_aload_n dX9_clear_0 rfl (xm 0 rfl) ?_
  refine V_iconst dX9_clear_1 ?_
  refine T_putI (kI := 0) dX9_clear_2 fp_X9_15 hw0 rfl rfl h (fun M1 h => ?_)
  refine V_aload_n dX9_clear_5 rfl (xm 0 rfl) ?_
  refine V_iconst dX9_clear_6 ?_
  refine T_putI (kI := 1) dX9_clear_7 fp_X9_19 hw0 rfl rfl h (fun M2 h => ?_)
  refine V_aload_n dX9_clear_10 rfl (xm 0 rfl) ?_
  refine V_iconst dX9_clear_11 ?_
  refine T_putZ (kI := 2) (b := false) dX9_clear_12 fp_X9_22 hw0 rfl rfl (by decide) h (fun M3 h => ?_)
  exact V_ret dX9_clear_15 rfl (q_v h)
def fX1_begin_L81 (n : Nat) (M : xM) (v2 : Int) : Option (xM) := match n with
  | 0 => none
  | n + 1 => (if wr v2 < wr 4 then (xix 4 v2 (xb (fX9_clear M (28 + 2 * (wr v2).toNat)) fun M17 => fX1_begin_L81 n M17 (v2 + 1))) else some M)
set_option maxRecDepth 20000 in
set_option maxHeartbeats 1000000 in
theorem fX1_begin_L81_c {S : xS} {kp : Option Nat} (hS : xSk kp 36 S) {Q : Option xV → xS → xM → Prop} :
    ∀ (n : Nat) (M : xM) (v2 : Int) {Mz : xM}, fX1_begin_L81 n M v2 = some Mz → V Y_X1_begin 1 0 0 101 [] [] S Mz Q → V Y_X1_begin 1 0 0 81 [(0, vR (some 1)), (2, vI v2)] [] S M Q := by
  intro n
  induction n with
  | zero =>
    intro M v2 Mz h k
    cases h
  | succ n ih =>
    intro M v2 Mz h k
    rw [fX1_begin_L81] at h
    refine V_iload_n dX1_begin_81 rfl (xm 1 rfl) ?_
    refine V_iconst dX1_begin_82 ?_
    refine V_icmp_ge (tgt := 101) dX1_begin_83 (by decide) h (fun _ h => ?_) (fun _ h => ?_)
    · refine V_aload_n dX1_begin_86 rfl (xm 0 rfl) ?_
      refine V_getR dX1_begin_87 fl_X1_54 (sk_1 hS (by decide)) rfl ?_
      refine V_iload_n dX1_begin_90 rfl (xm 1 rfl) ?_
      obtain ⟨c15, h⟩ := xixE h
      refine V_aald (r := 28 + 2 * (wr v2).toNat) dX1_begin_91 (sk_27 hS (by decide)) (by decide) c15 (rw_27 c15) ?_
      refine xbE h (fun M17 h16 h => ?_)
      refine T_callVv dX1_begin_92 ok_X9_clear (by exact ⟨by decide, rfl⟩) lk_X1_95.1 lk_X1_95.2 (rs_27 hS (by decide) c15) (hV := ((fX9_clear_c (hS.le (by decide)) (rs_27 hS (by decide) c15) (rc_27 hS (by decide) c15) h16).mono (by decide) (Nat.le_refl _) (Nat.le_refl _))) rfl (Nat.le_of_ble_eq_true rfl) rfl (Nat.le_of_ble_eq_true rfl) ?_
      refine V_iinc (ls' := [(2, vI (v2 + 1)), (0, vR (some 1))]) dX1_begin_95 (xm 1 rfl) (by decide) rfl ?_
      refine V_goto (tgt := 81) dX1_begin_98 (by decide) ?_
      refine V.pick [1, 0] rfl ?_
      exact ih M17 (v2 + 1) h k
    · cases h
      refine V.pick [] rfl ?_
      exact k
theorem fX1_begin_L81_ci {S : xS} {kp : Option Nat} (hS : xSk kp 36 S) {Q : Option xV → xS → xM → Prop} {n : Nat} {M : xM} {v2 : Int} {Mz : xM} (hl : fX1_begin_L81 n M v2 = some Mz) (k : V Y_X1_begin 1 0 0 101 [] [] S Mz Q) : V Y_X1_begin 1 0 0 81 [(0, vR (some 1)), (2, vI v2)] [] S M Q := fX1_begin_L81_c hS _ _ _ hl k
def fX1_begin (M : xM) (v1 : Int) : Option xM := xlet (xup M 1 0 v1) fun M1 => xlet (xup M1 1 1 0) fun M2 => xlet (xup M2 1 2 0) fun M3 => xlet (xup M3 1 3 99) fun M4 => xlet (xup M4 1 4 0) fun M5 => xlet (xup M5 1 5 0) fun M6 => xb (fJ7_fill_53178 M6 0) fun M8 => xb (fJ7_fill_53178_i2 M8 0) fun M10 => xlet (xup M10 5 0 0) fun M11 => xlet (xup M11 12 0 0) fun M12 => xlet (xup M12 17 0 0) fun M13 => xlet (xup M13 23 0 0) fun M14 => xb (fX1_begin_L81 xfuel M14 0) fun M18 => some M18
set_option maxRecDepth 20000 in
set_option maxHeartbeats 1000000 in
theorem fX1_begin_c {S : xS} {kp : Option Nat} (hS : xSk kp 36 S) {M : xM} {v1 : Int} {E : xM} (h : fX1_begin M v1 = some E) :
    V Y_X1_begin 1 0 0 0 (xarg 0 [vR (some 1), vI v1]) [] S M (xqR S E none) := by
  unfold fX1_begin at h
  show V Y_X1_begin 1 0 0 0 [(0, vR (some 1)), (1, vI v1)] [] S M _
  refine V_aload_n dX1_begin_0 rfl (xm 0 rfl) ?_
  refine V_iload_n dX1_begin_1 rfl (xm 1 rfl) ?_
  refine T_putI (kI := 0) dX1_begin_2 fp_X1_64 (sk_1 hS (by decide)) rfl rfl h (fun M1 h => ?_)
  refine V_aload_n dX1_begin_5 rfl (xm 0 rfl) ?_
  refine V_iconst dX1_begin_6 ?_
  refine T_putI (kI := 1) dX1_begin_7 fp_X1_68 (sk_1 hS (by decide)) rfl rfl h (fun M2 h => ?_)
  refine V_aload_n dX1_begin_10 rfl (xm 0 rfl) ?_
  refine V_iconst dX1_begin_11 ?_
  refine T_putI (kI := 2) dX1_begin_12 fp_X1_71 (sk_1 hS (by decide)) rfl rfl h (fun M3 h => ?_)
  refine V_aload_n dX1_begin_15 rfl (xm 0 rfl) ?_
  refine V_bipush dX1_begin_16 (by decide) ?_
  refine T_putI (kI := 3) dX1_begin_18 fp_X1_74 (sk_1 hS (by decide)) rfl rfl h (fun M4 h => ?_)
  refine V_aload_n dX1_begin_21 rfl (xm 0 rfl) ?_
  refine V_iconst dX1_begin_22 ?_
  refine T_putI (kI := 4) dX1_begin_23 fp_X1_77 (sk_1 hS (by decide)) rfl rfl h (fun M5 h => ?_)
  refine V_aload_n dX1_begin_26 rfl (xm 0 rfl) ?_
  refine V_iconst dX1_begin_27 ?_
  refine T_putI (kI := 5) dX1_begin_28 fp_X1_80 (sk_1 hS (by decide)) rfl rfl h (fun M6 h => ?_)
  refine V_aload_n dX1_begin_31 rfl (xm 0 rfl) ?_
  refine V_getR dX1_begin_32 fl_X1_11 (sk_1 hS (by decide)) rfl ?_
  refine V_iconst dX1_begin_35 ?_
  refine xbE h (fun M8 h7 h => ?_)
  refine T_callSv (host := "") dX1_begin_36 ok_J7_fill_53178 lk_X1_83.1 lk_X1_83.2 (hV := ((fJ7_fill_53178_c (hS.le (by decide)) h7).mono (by decide) (Nat.le_refl _) (Nat.le_refl _))) rfl (Nat.le_of_ble_eq_true rfl) rfl (Nat.le_of_ble_eq_true rfl) ?_
  refine V_aload_n dX1_begin_39 rfl (xm 0 rfl) ?_
  refine V_getR dX1_begin_40 fl_X1_20 (sk_1 hS (by decide)) rfl ?_
  refine V_iconst dX1_begin_43 ?_
  refine xbE h (fun M10 h9 h => ?_)
  refine T_callSv (host := "") dX1_begin_44 ok_J7_fill_53178 lk_X1_83.1 lk_X1_83.2 (hV := ((fJ7_fill_53178_i2_c (hS.le (by decide)) h9).mono (by decide) (Nat.le_refl _) (Nat.le_refl _))) rfl (Nat.le_of_ble_eq_true rfl) rfl (Nat.le_of_ble_eq_true rfl) ?_
  refine V_aload_n dX1_begin_47 rfl (xm 0 rfl) ?_
  refine V_getR dX1_begin_48 fl_X1_26 (sk_1 hS (by decide)) rfl ?_
  refine V_iconst dX1_begin_51 ?_
  refine T_putI (kI := 0) dX1_begin_52 fp_X1_89 (sk_5 hS (by decide)) rfl rfl h (fun M11 h => ?_)
  refine V_aload_n dX1_begin_55 rfl (xm 0 rfl) ?_
  refine V_getR dX1_begin_56 fl_X1_33 (sk_1 hS (by decide)) rfl ?_
  refine V_iconst dX1_begin_59 ?_
  refine T_putI (kI := 0) dX1_begin_60 fp_X1_92 (sk_12 hS (by decide)) rfl rfl h (fun M12 h => ?_)
  refine V_aload_n dX1_begin_63 rfl (xm 0 rfl) ?_
  refine V_getR dX1_begin_64 fl_X1_40 (sk_1 hS (by decide)) rfl ?_
  refine V_iconst dX1_begin_67 ?_
  refine T_putI (kI := 0) dX1_begin_68 fp_X1_93 (sk_17 hS (by decide)) rfl rfl h (fun M13 h => ?_)
  refine V_aload_n dX1_begin_71 rfl (xm 0 rfl) ?_
  refine V_getR dX1_begin_72 fl_X1_47 (sk_1 hS (by decide)) rfl ?_
  refine V_iconst dX1_begin_75 ?_
  refine T_putI (kI := 0) dX1_begin_76 fp_X1_94 (sk_23 hS (by decide)) rfl rfl h (fun M14 h => ?_)
  refine V_iconst dX1_begin_79 ?_
  refine V_istore_n (ls' := [(2, vI 0), (0, vR (some 1)), (1, vI v1)]) dX1_begin_80 rfl (by decide) rfl ?_
  refine xbE h (fun M18 h19 h => ?_)
  refine V.pick [1, 0] rfl ?_
  refine fX1_begin_L81_ci (hS.le (by decide)) h19 ?_
  exact V_ret dX1_begin_101 rfl (q_v h)
def fJ7_fill_53178_i3_L5 (n : Nat) (M : xM) (v1 : Int) (v2 : Int) (v3 : Int) : Option (xM) := match n with
  | 0 => none
  | n + 1 => (if wr v2 < wr v3 then (xwt M 47 4 v2 v1 fun M1 => fJ7_fill_53178_i3_L5 n M1 v1 (v2 + 1) v3) else some M)
set_option maxRecDepth 20000 in
set_option maxHeartbeats 1000000 in
theorem fJ7_fill_53178_i3_L5_c {S : xS} {kp : Option Nat} (hS : xSk kp 48 S) {Q : Option xV → xS → xM → Prop} :
    ∀ (n : Nat) (M : xM) (v1 : Int) (v2 : Int) (v3 : Int) {Mz : xM}, fJ7_fill_53178_i3_L5 n M v1 v2 v3 = some Mz → V Y_J7_fill_53178 0 0 0 20 [] [] S Mz Q → V Y_J7_fill_53178 0 0 0 5 [(0, vR (some 47)), (1, vI v1), (2, vI v2), (3, vI v3)] [] S M Q := by
  intro n
  induction n with
  | zero =>
    intro M v1 v2 v3 Mz h k
    cases h
  | succ n ih =>
    intro M v1 v2 v3 Mz h k
    rw [fJ7_fill_53178_i3_L5] at h
    refine V_iload_n dJ7_fill_53178_5 rfl (xm 2 rfl) ?_
    refine V_iload_n dJ7_fill_53178_6 rfl (xm 3 rfl) ?_
    refine V_icmp_ge (tgt := 20) dJ7_fill_53178_7 (by decide) h (fun _ h => ?_) (fun _ h => ?_)
    · refine V_aload_n dJ7_fill_53178_10 rfl (xm 0 rfl) ?_
      refine V_iload_n dJ7_fill_53178_11 rfl (xm 2 rfl) ?_
      refine V_iload_n dJ7_fill_53178_12 rfl (xm 1 rfl) ?_
      refine T_iast dJ7_fill_53178_13 (sk_47 hS (by decide)) rfl h (fun M1 h => ?_)
      refine V_iinc (ls' := [(2, vI (v2 + 1)), (0, vR (some 47)), (1, vI v1), (3, vI v3)]) dJ7_fill_53178_14 (xm 2 rfl) (by decide) rfl ?_
      refine V_goto (tgt := 5) dJ7_fill_53178_17 (by decide) ?_
      refine V.pick [1, 2, 0, 3] rfl ?_
      exact ih M1 v1 (v2 + 1) v3 h k
    · cases h
      refine V.pick [] rfl ?_
      exact k
theorem fJ7_fill_53178_i3_L5_ci {S : xS} {kp : Option Nat} (hS : xSk kp 48 S) {Q : Option xV → xS → xM → Prop} {n : Nat} {M : xM} {v1 : Int} {v2 : Int} {v3 : Int} {Mz : xM} (hl : fJ7_fill_53178_i3_L5 n M v1 v2 v3 = some Mz) (k : V Y_J7_fill_53178 0 0 0 20 [] [] S Mz Q) : V Y_J7_fill_53178 0 0 0 5 [(0, vR (some 47)), (1, vI v1), (2, vI v2), (3, vI v3)] [] S M Q := fJ7_fill_53178_i3_L5_c hS _ _ _ _ _ hl k
def fJ7_fill_53178_i3 (M : xM) (v1 : Int) : Option xM := xb (fJ7_fill_53178_i3_L5 xfuel M v1 0 4) fun M2 => some M2
set_option maxRecDepth 20000 in
set_option maxHeartbeats 1000000 in
theorem fJ7_fill_53178_i3_c {S : xS} {kp : Option Nat} (hS : xSk kp 48 S) {M : xM} {v1 : Int} {E : xM} (h : fJ7_fill_53178_i3 M v1 = some E) :
    V Y_J7_fill_53178 0 0 0 0 (xarg 0 [vR (some 47), vI v1]) [] S M (xqR S E none) := by
  unfold fJ7_fill_53178_i3 at h
  show V Y_J7_fill_53178 0 0 0 0 [(0, vR (some 47)), (1, vI v1)] [] S M _
  refine V_iconst dJ7_fill_53178_0 ?_
  refine V_istore_n (ls' := [(2, vI 0), (0, vR (some 47)), (1, vI v1)]) dJ7_fill_53178_1 rfl (by decide) rfl ?_
  refine V_aload_n dJ7_fill_53178_2 rfl (xm 1 rfl) ?_
  refine V_alen (x := 4) dJ7_fill_53178_3 (sk_47 hS (by decide)) (by decide) rfl ?_
  refine V_istore_n (ls' := [(3, vI 4), (2, vI 0), (0, vR (some 47)), (1, vI v1)]) dJ7_fill_53178_4 rfl (by decide) rfl ?_
  refine xbE h (fun M2 h3 h => ?_)
  refine V.pick [2, 3, 1, 0] rfl ?_
  refine fJ7_fill_53178_i3_L5_ci (hS.le (by decide)) h3 ?_
  exact V_ret dJ7_fill_53178_20 rfl (q_v h)
def fX10_forget (M : xM)  : Option xM := xb (fJ7_fill_53178_i3 M ((-1))) fun M2 => some M2
set_option maxRecDepth 20000 in
set_option maxHeartbeats 1000000 in
theorem fX10_forget_c {S : xS} {kp : Option Nat} (hS : xSk kp 48 S) {M : xM} {E : xM} (h : fX10_forget M = some E) :
    V Y_X10_forget 1 0 0 0 (xarg 0 [vR (some 43)]) [] S M (xqR S E none) := by
  unfold fX10_forget at h
  show V Y_X10_forget 1 0 0 0 [(0, vR (some 43))] [] S M _
  refine V_aload_n dX10_forget_0 rfl (xm 0 rfl) ?_
  refine V_getR dX10_forget_1 fl_X10_21 (sk_43 hS (by decide)) rfl ?_
  refine V_iconst dX10_forget_4 ?_
  refine xbE h (fun M2 h1 h => ?_)
  refine T_callSv (host := "") dX10_forget_5 ok_J7_fill_53178 lk_X10_32.1 lk_X10_32.2 (hV := ((fJ7_fill_53178_i3_c (hS.le (by decide)) h1).mono (by decide) (Nat.le_refl _) (Nat.le_refl _))) rfl (Nat.le_of_ble_eq_true rfl) rfl (Nat.le_of_ble_eq_true rfl) ?_
  exact V_ret dX10_forget_8 rfl (q_v h)
def fX0_forget (M : xM)  : Option xM := xlet (xup M 79 0 0) fun M1 => some M1
set_option maxRecDepth 20000 in
set_option maxHeartbeats 1000000 in
theorem fX0_forget_c {S : xS} {kp : Option Nat} (hS : xSk kp 80 S) {M : xM} {E : xM} (h : fX0_forget M = some E) :
    V Y_X0_forget 0 0 0 0 (xarg 0 [vR (some 79)]) [] S M (xqR S E none) := by
  unfold fX0_forget at h
  show V Y_X0_forget 0 0 0 0 [(0, vR (some 79))] [] S M _
  refine V_aload_n dX0_forget_0 rfl (xm 0 rfl) ?_
  refine V_iconst dX0_forget_1 ?_
  refine T_putI (kI := 0) dX0_forget_2 fp_X0_26 (sk_79 hS (by decide)) rfl rfl h (fun M1 h => ?_)
  exact V_ret dX0_forget_5 rfl (q_v h)
def fX11_notches (M : xM) (v1 : Int) : Option (Bool × xM) := (if (fX11_within v1 4 24) = true then (xb (fX1_begin M v1) fun M2 => xb (fX10_forget M2) fun M4 => xb (fX0_forget M4) fun M6 => some (true, M6)) else some (false, M))
set_option maxRecDepth 20000 in
set_option maxHeartbeats 1000000 in
theorem fX11_notches_c {S : xS} {kp : Option Nat} (hS : xSk kp 94 S) {M : xM} {v1 : Int} {E : Bool × xM} (h : fX11_notches M v1 = some E) :
    V Y_X11_notches 2 0 0 0 (xarg 0 [vR (some 0), vI v1]) [] S M (xqR S E.2 (some (vI (b2i E.1)))) := by
  unfold fX11_notches at h
  show V Y_X11_notches 2 0 0 0 [(0, vR (some 0)), (1, vI v1)] [] S M _
  refine V_iload_n dX11_notches_0 rfl (xm 1 rfl) ?_
  refine V_iconst dX11_notches_1 ?_
  refine V_bipush dX11_notches_2 (by decide) ?_
  refine T_callSI (host := "") dX11_notches_4 ok_X11_within lk_X11_60.1 lk_X11_60.2 (hV := ((fX11_within_c (hS.le (by decide)) rfl).mono (by decide) (Nat.le_refl _) (Nat.le_refl _))) rfl (Nat.le_of_ble_eq_true rfl) rfl (Nat.le_of_ble_eq_true rfl) ?_
  refine V_if_neB (tgt := 12) dX11_notches_7 (by decide) h (fun _ h => ?_) (fun _ h => ?_)
  · refine V_aload_n dX11_notches_12 rfl (xm 0 rfl) ?_
    refine V_getR dX11_notches_13 fl_X11_12 (sk_0 hS (by decide)) rfl ?_
    refine V_iload_n dX11_notches_16 rfl (xm 1 rfl) ?_
    refine xbE h (fun M2 h1 h => ?_)
    refine T_callVv dX11_notches_17 ok_X1_begin (by exact ⟨by decide, rfl⟩) lk_X11_16.1 lk_X11_16.2 (sk_1 hS (by decide)) (hV := ((fX1_begin_c (hS.le (by decide)) h1).mono (by decide) (Nat.le_refl _) (Nat.le_refl _))) rfl (Nat.le_of_ble_eq_true rfl) rfl (Nat.le_of_ble_eq_true rfl) ?_
    refine V_aload_n dX11_notches_20 rfl (xm 0 rfl) ?_
    refine V_getR dX11_notches_21 fl_X11_30 (sk_0 hS (by decide)) rfl ?_
    refine xbE h (fun M4 h3 h => ?_)
    refine T_callVv dX11_notches_24 ok_X10_forget (by exact ⟨by decide, rfl⟩) lk_X11_64.1 lk_X11_64.2 (sk_43 hS (by decide)) (hV := ((fX10_forget_c (hS.le (by decide)) h3).mono (by decide) (Nat.le_refl _) (Nat.le_refl _))) rfl (Nat.le_of_ble_eq_true rfl) rfl (Nat.le_of_ble_eq_true rfl) ?_
    refine V_aload_n dX11_notches_27 rfl (xm 0 rfl) ?_
    refine V_getR dX11_notches_28 fl_X11_53 (sk_0 hS (by decide)) rfl ?_
    refine xbE h (fun M6 h5 h => ?_)
    refine T_callVv dX11_notches_31 ok_X0_forget (by exact ⟨by decide, rfl⟩) lk_X11_67.1 lk_X11_67.2 (sk_79 hS (by decide)) (hV := ((fX0_forget_c (hS.le (by decide)) h5).mono (by decide) (Nat.le_refl _) (Nat.le_refl _))) rfl (Nat.le_of_ble_eq_true rfl) rfl (Nat.le_of_ble_eq_true rfl) ?_
    refine V_iconst dX11_notches_34 ?_
    exact V_iretb (b := true) dX11_notches_35 rfl (by decide) (q_wB h)
  · refine V_iconst dX11_notches_10 ?_
    exact V_iretb (b := false) dX11_notches_11 rfl (by decide) (q_wB h)
def fX1_hasAngle (M : xM) (v1 : Int) : Bool := (fX11_within v1 0 ((M 1 0) - 1))
set_option maxRecDepth 20000 in
set_option maxHeartbeats 1000000 in
theorem fX1_hasAngle_c {S : xS} {kp : Option Nat} (hS : xSk kp 2 S) {M : xM} {v1 : Int} {E : Bool} (h : fX1_hasAngle M v1 = E) :
    V Y_X1_hasAngle 1 0 0 0 (xarg 0 [vR (some 1), vI v1]) [] S M (xqR S M (some (vI (b2i E)))) := by
  unfold fX1_hasAngle at h
  show V Y_X1_hasAngle 1 0 0 0 [(0, vR (some 1)), (1, vI v1)] [] S M _
  refine V_iload_n dX1_hasAngle_0 rfl (xm 1 rfl) ?_
  refine V_iconst dX1_hasAngle_1 ?_
  refine V_aload_n dX1_hasAngle_2 rfl (xm 0 rfl) ?_
  refine V_getI (kI := 0) dX1_hasAngle_3 fl_X1_64 (sk_1 hS (by decide)) rfl rfl ?_
  refine V_iconst dX1_hasAngle_6 ?_
  refine V_isub dX1_hasAngle_7 ?_
  refine T_callSNI (host := "TurnedIsland") dX1_hasAngle_8 ok_X11_within lk_X1_120.1 lk_X1_120.2 (hV := ((fX11_within_c (hS.le (by decide)) rfl).mono (by decide) (Nat.le_refl _) (Nat.le_refl _))) rfl (Nat.le_of_ble_eq_true rfl) rfl (Nat.le_of_ble_eq_true rfl) ?_
  exact V_iretb (b := (fX11_within v1 0 ((M 1 0) - 1))) dX1_hasAngle_11 rfl rfl (q_tB h)
def fX1_skyCell (v0 : Int) (v1 : Int) (v2 : Int) : Int := (((v0 * 12) + v1) * 24) + v2
set_option maxRecDepth 20000 in
set_option maxHeartbeats 1000000 in
theorem fX1_skyCell_c {S : xS} {kp : Option Nat} (hS : xSk kp 0 S) {M : xM} {v0 : Int} {v1 : Int} {v2 : Int} {E : Int} (h : fX1_skyCell v0 v1 v2 = E) :
    V Y_X1_skyCell 0 0 0 0 (xarg 0 [vI v0, vI v1, vI v2]) [] S M (xqR S M (some (vI E))) := by
  unfold fX1_skyCell at h
  show V Y_X1_skyCell 0 0 0 0 [(0, vI v0), (1, vI v1), (2, vI v2)] [] S M _
  refine V_iload_n dX1_skyCell_0 rfl (xm 0 rfl) ?_
  refine V_bipush dX1_skyCell_1 (by decide) ?_
  refine V_imul dX1_skyCell_3 ?_
  refine V_iload_n dX1_skyCell_4 rfl (xm 1 rfl) ?_
  refine V_iadd dX1_skyCell_5 ?_
  refine V_bipush dX1_skyCell_6 (by decide) ?_
  refine V_imul dX1_skyCell_8 ?_
  refine V_iload_n dX1_skyCell_9 rfl (xm 2 rfl) ?_
  refine V_iadd dX1_skyCell_10 ?_
  exact V_ireti dX1_skyCell_11 rfl (q_tI h)
def fX11_sky (M : xM) (v1 : Int) (v2 : Int) (v3 : Int) (v4 : Int) : Option (Bool × xM) := (if (fX11_within v1 0 2) = true then (if (fX11_within v2 0 11) = true then (if (fX1_hasAngle M v3) = true then (if (fX11_within v4 ((-9)) 9) = true then (xwt M 2 864 (fX1_skyCell v1 v2 v3) v4 fun M1 => xb (fX10_forget M1) fun M3 => xb (fX0_forget M3) fun M5 => some (true, M5)) else some (false, M)) else some (false, M)) else some (false, M)) else some (false, M))
set_option maxRecDepth 20000 in
set_option maxHeartbeats 1000000 in
theorem fX11_sky_c {S : xS} {kp : Option Nat} (hS : xSk kp 94 S) {M : xM} {v1 : Int} {v2 : Int} {v3 : Int} {v4 : Int} {E : Bool × xM} (h : fX11_sky M v1 v2 v3 v4 = some E) :
    V Y_X11_sky 2 0 0 0 (xarg 0 [vR (some 0), vI v1, vI v2, vI v3, vI v4]) [] S M (xqR S E.2 (some (vI (b2i E.1)))) := by
  unfold fX11_sky at h
  show V Y_X11_sky 2 0 0 0 [(0, vR (some 0)), (1, vI v1), (2, vI v2), (3, vI v3), (4, vI v4)] [] S M _
  refine V_iload_n dX11_sky_0 rfl (xm 1 rfl) ?_
  refine V_iconst dX11_sky_1 ?_
  refine V_iconst dX11_sky_2 ?_
  refine T_callSI (host := "") dX11_sky_3 ok_X11_within lk_X11_60.1 lk_X11_60.2 (hV := ((fX11_within_c (hS.le (by decide)) rfl).mono (by decide) (Nat.le_refl _) (Nat.le_refl _))) rfl (Nat.le_of_ble_eq_true rfl) rfl (Nat.le_of_ble_eq_true rfl) ?_
  refine V_if_eqB (tgt := 42) dX11_sky_6 (by decide) h (fun _ h => ?_) (fun _ h => ?_)
  · refine V_iload_n dX11_sky_9 rfl (xm 2 rfl) ?_
    refine V_iconst dX11_sky_10 ?_
    refine V_bipush dX11_sky_11 (by decide) ?_
    refine T_callSI (host := "") dX11_sky_13 ok_X11_within lk_X11_60.1 lk_X11_60.2 (hV := ((fX11_within_c (hS.le (by decide)) rfl).mono (by decide) (Nat.le_refl _) (Nat.le_refl _))) rfl (Nat.le_of_ble_eq_true rfl) rfl (Nat.le_of_ble_eq_true rfl) ?_
    refine V_if_eqB (tgt := 42) dX11_sky_16 (by decide) h (fun _ h => ?_) (fun _ h => ?_)
    · refine V_aload_n dX11_sky_19 rfl (xm 0 rfl) ?_
      refine V_getR dX11_sky_20 fl_X11_12 (sk_0 hS (by decide)) rfl ?_
      refine V_iload_n dX11_sky_23 rfl (xm 3 rfl) ?_
      refine T_callVI dX11_sky_24 ok_X1_hasAngle (by exact ⟨by decide, rfl⟩) lk_X11_68.1 lk_X11_68.2 (sk_1 hS (by decide)) (hV := ((fX1_hasAngle_c (hS.le (by decide)) rfl).mono (by decide) (Nat.le_refl _) (Nat.le_refl _))) rfl (Nat.le_of_ble_eq_true rfl) rfl (Nat.le_of_ble_eq_true rfl) ?_
      refine V_if_eqB (tgt := 42) dX11_sky_27 (by decide) h (fun _ h => ?_) (fun _ h => ?_)
      · refine V_iload dX11_sky_30 (xm 4 rfl) ?_
        refine V_bipush dX11_sky_32 (by decide) ?_
        refine V_bipush dX11_sky_34 (by decide) ?_
        refine T_callSI (host := "") dX11_sky_36 ok_X11_within lk_X11_60.1 lk_X11_60.2 (hV := ((fX11_within_c (hS.le (by decide)) rfl).mono (by decide) (Nat.le_refl _) (Nat.le_refl _))) rfl (Nat.le_of_ble_eq_true rfl) rfl (Nat.le_of_ble_eq_true rfl) ?_
        refine V_if_neB (tgt := 44) dX11_sky_39 (by decide) h (fun _ h => ?_) (fun _ h => ?_)
        · refine V_aload_n dX11_sky_44 rfl (xm 0 rfl) ?_
          refine V_getR dX11_sky_45 fl_X11_12 (sk_0 hS (by decide)) rfl ?_
          refine V_getR dX11_sky_48 fl_X11_72 (sk_1 hS (by decide)) rfl ?_
          refine V_iload_n dX11_sky_51 rfl (xm 1 rfl) ?_
          refine V_iload_n dX11_sky_52 rfl (xm 2 rfl) ?_
          refine V_iload_n dX11_sky_53 rfl (xm 3 rfl) ?_
          refine T_callSI (host := "") dX11_sky_54 ok_X1_skyCell lk_X11_76.1 lk_X11_76.2 (hV := ((fX1_skyCell_c (hS.le (by decide)) rfl).mono (by decide) (Nat.le_refl _) (Nat.le_refl _))) rfl (Nat.le_of_ble_eq_true rfl) rfl (Nat.le_of_ble_eq_true rfl) ?_
          refine V_iload dX11_sky_57 (xm 4 rfl) ?_
          refine T_iast dX11_sky_59 (sk_2 hS (by decide)) rfl h (fun M1 h => ?_)
          refine V_aload_n dX11_sky_60 rfl (xm 0 rfl) ?_
          refine V_getR dX11_sky_61 fl_X11_30 (sk_0 hS (by decide)) rfl ?_
          refine xbE h (fun M3 h2 h => ?_)
          refine T_callVv dX11_sky_64 ok_X10_forget (by exact ⟨by decide, rfl⟩) lk_X11_64.1 lk_X11_64.2 (sk_43 hS (by decide)) (hV := ((fX10_forget_c (hS.le (by decide)) h2).mono (by decide) (Nat.le_refl _) (Nat.le_refl _))) rfl (Nat.le_of_ble_eq_true rfl) rfl (Nat.le_of_ble_eq_true rfl) ?_
          refine V_aload_n dX11_sky_67 rfl (xm 0 rfl) ?_
          refine V_getR dX11_sky_68 fl_X11_53 (sk_0 hS (by decide)) rfl ?_
          refine xbE h (fun M5 h4 h => ?_)
          refine T_callVv dX11_sky_71 ok_X0_forget (by exact ⟨by decide, rfl⟩) lk_X11_67.1 lk_X11_67.2 (sk_79 hS (by decide)) (hV := ((fX0_forget_c (hS.le (by decide)) h4).mono (by decide) (Nat.le_refl _) (Nat.le_refl _))) rfl (Nat.le_of_ble_eq_true rfl) rfl (Nat.le_of_ble_eq_true rfl) ?_
          refine V_iconst dX11_sky_74 ?_
          exact V_iretb (b := true) dX11_sky_75 rfl (by decide) (q_wB h)
        · refine V_iconst dX11_sky_42 ?_
          exact V_iretb (b := false) dX11_sky_43 rfl (by decide) (q_wB h)
      · refine V_iconst dX11_sky_42 ?_
        exact V_iretb (b := false) dX11_sky_43 rfl (by decide) (q_wB h)
    · refine V_iconst dX11_sky_42 ?_
      exact V_iretb (b := false) dX11_sky_43 rfl (by decide) (q_wB h)
  · refine V_iconst dX11_sky_42 ?_
    exact V_iretb (b := false) dX11_sky_43 rfl (by decide) (q_wB h)
