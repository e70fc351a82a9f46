def fX12_promise_L55 (n : Nat) (M : xM) (v1 : Int) (v2 : Int) (v3 : Int) (v4 : Int) (v5 : Int) (v6 : Int) : Option (Int) := match n with
  | 0 => none
  | n + 1 => (if wr v6 < wr (M 95 7) then (xrd M 95 5820 (370 + (5 * v6)) fun r1 => (if wr r1 = wr v1 then fX12_promise_L55 n M v1 v2 v3 v4 (v5 + 1) (v6 + 1) else fX12_promise_L55 n M v1 v2 v3 v4 (v5 + 0) (v6 + 1))) else some v5)
set_option maxRecDepth 20000 in
set_option maxHeartbeats 1000000 in
theorem fX12_promise_L55_c {S : xS} {kp : Option Nat} (hS : xSk kp 96 S) {Q : Option xV → xS → xM → Prop} :
    ∀ (n : Nat) (M : xM) (v1 : Int) (v2 : Int) (v3 : Int) (v4 : Int) (v5 : Int) (v6 : Int) {x5 : Int}, fX12_promise_L55 n M v1 v2 v3 v4 v5 v6 = some x5 → V Y_X12_promise 2 0 0 100 [(0, vR (some 94)), (1, vI v1), (2, vI v2), (3, vI v3), (4, vI v4), (5, vI x5)] [] S M Q → V Y_X12_promise 2 0 0 55 [(0, vR (some 94)), (1, vI v1), (2, vI v2), (3, vI v3), (4, vI v4), (5, vI v5), (6, vI v6)] [] S M Q := by
  intro n
  induction n with
  | zero =>
    intro M v1 v2 v3 v4 v5 v6 x5 h k
    cases h
  | succ n ih =>
    intro M v1 v2 v3 v4 v5 v6 x5 h k
    rw [fX12_promise_L55] at h
    refine V_iload dX12_promise_55 (xm 6 rfl) ?_
    refine V_aload_n dX12_promise_57 rfl (xm 0 rfl) ?_
    refine V_getR dX12_promise_58 fl_X12_7 (sk_94 hS (by decide)) rfl ?_
    refine V_bipush dX12_promise_61 (by decide) ?_
    refine V_ialdK (j := 7) dX12_promise_63 (sk_95 hS (by decide)) (by decide) (by decide) ?_
    refine V_icmp_ge (tgt := 100) dX12_promise_64 (by decide) h (fun _ h => ?_) (fun _ h => ?_)
    · refine V_iload dX12_promise_67 (xm 5 rfl) ?_
      refine V_aload_n dX12_promise_69 rfl (xm 0 rfl) ?_
      refine V_getR dX12_promise_70 fl_X12_7 (sk_94 hS (by decide)) rfl ?_
      refine V_sipush dX12_promise_73 (by decide) ?_
      refine V_iconst dX12_promise_76 ?_
      refine V_iload dX12_promise_77 (xm 6 rfl) ?_
      refine V_imul dX12_promise_79 ?_
      refine V_iadd dX12_promise_80 ?_
      refine T_iald dX12_promise_81 (sk_95 hS (by decide)) rfl h (fun r1 h => ?_)
      refine V_iload_n dX12_promise_82 rfl (xm 1 rfl) ?_
      refine V_icmp_ne (tgt := 90) dX12_promise_83 (by decide) h (fun _ h => ?_) (fun _ h => ?_)
      · refine V_iconst dX12_promise_86 ?_
        refine V_goto (tgt := 91) dX12_promise_87 (by decide) ?_
        refine V_iadd dX12_promise_91 ?_
        refine V_istore (ls' := [(5, vI (v5 + 1)), (0, vR (some 94)), (1, vI v1), (2, vI v2), (3, vI v3), (4, vI v4), (6, vI v6)]) dX12_promise_92 (by decide) rfl ?_
        refine V_iinc (ls' := [(6, vI (v6 + 1)), (5, vI (v5 + 1)), (0, vR (some 94)), (1, vI v1), (2, vI v2), (3, vI v3), (4, vI v4)]) dX12_promise_94 (xm 6 rfl) (by decide) rfl ?_
        refine V_goto (tgt := 55) dX12_promise_97 (by decide) ?_
        refine V.pick [2, 3, 4, 5, 6, 1, 0] rfl ?_
        exact ih M v1 v2 v3 v4 (v5 + 1) (v6 + 1) h k
      · refine V_iconst dX12_promise_90 ?_
        refine V_iadd dX12_promise_91 ?_
        refine V_istore (ls' := [(5, vI (v5 + 0)), (0, vR (some 94)), (1, vI v1), (2, vI v2), (3, vI v3), (4, vI v4), (6, vI v6)]) dX12_promise_92 (by decide) rfl ?_
        refine V_iinc (ls' := [(6, vI (v6 + 1)), (5, vI (v5 + 0)), (0, vR (some 94)), (1, vI v1), (2, vI v2), (3, vI v3), (4, vI v4)]) dX12_promise_94 (xm 6 rfl) (by decide) rfl ?_
        refine V_goto (tgt := 55) dX12_promise_97 (by decide) ?_
        refine V.pick [2, 3, 4, 5, 6, 1, 0] rfl ?_
        exact ih M v1 v2 v3 v4 (v5 + 0) (v6 + 1) h k
    · cases h
      refine V.pick [0, 1, 2, 3, 4, 5] rfl ?_
      exact k
theorem fX12_promise_L55_ci {S : xS} {kp : Option Nat} (hS : xSk kp 96 S) {Q : Option xV → xS → xM → Prop} {n : Nat} {M : xM} {v1 : Int} {v2 : Int} {v3 : Int} {v4 : Int} {v5 : Int} {v6 : Int} {x5 : Int} (hl : fX12_promise_L55 n M v1 v2 v3 v4 v5 v6 = some x5) (k : V Y_X12_promise 2 0 0 100 [(0, vR (some 94)), (1, vI v1), (2, vI v2), (3, vI v3), (4, vI v4), (5, vI x5)] [] S M Q) : V Y_X12_promise 2 0 0 55 [(0, vR (some 94)), (1, vI v1), (2, vI v2), (3, vI v3), (4, vI v4), (5, vI v5), (6, vI v6)] [] S M Q := fX12_promise_L55_c hS _ _ _ _ _ _ _ _ hl k
def fX12_promise (M : xM) (v1 : Int) (v2 : Int) (v3 : Int) (v4 : Int) : Option (Int × xM) := (if (fX12_isPlot M v1) = true then (if (fX12_isIn v2 ((-1)) 1) = true then (if (fX12_isIn v3 0 v4) = true then (if wr 9999 < wr v4 then some ((-1), M) else (if wr (M 95 7) = wr 24 then some ((-1), M) else (xb (fX12_promise_L55 xfuel M v1 v2 v3 v4 0 0) fun y2 => (if wr y2 = wr 10 then some ((-1), M) else (xwt M 95 5820 (370 + (5 * (M 95 7))) v1 fun M4 => xwt M4 95 5820 ((370 + (5 * (M 95 7))) + 1) v2 fun M5 => xwt M5 95 5820 ((370 + (5 * (M 95 7))) + 2) v3 fun M6 => xwt M6 95 5820 ((370 + (5 * (M 95 7))) + 3) v4 fun M7 => xwt M7 95 5820 ((370 + (5 * (M 95 7))) + 4) 0 fun M8 => xlet (xup M8 95 7 ((M8 95 7) + 1)) fun M9 => xb (fX12_forgets M9) fun M11 => some ((M11 95 7) - 1, M11)))))) else some ((-1), M)) else some ((-1), M)) else some ((-1), M))
set_option maxRecDepth 20000 in
set_option maxHeartbeats 1000000 in
theorem fX12_promise_c {S : xS} {kp : Option Nat} (hS : xSk kp 96 S) {M : xM} {v1 : Int} {v2 : Int} {v3 : Int} {v4 : Int} {E : Int × xM} (h : fX12_promise M v1 v2 v3 v4 = some E) :
    V Y_X12_promise 2 0 0 0 (xarg 0 [vR (some 94), vI v1, vI v2, vI v3, vI v4]) [] S M (xqR S E.2 (some (vI E.1))) := by
  unfold fX12_promise at h
  show V Y_X12_promise 2 0 0 0 [(0, vR (some 94)), (1, vI v1), (2, vI v2), (3, vI v3), (4, vI v4)] [] S M _
  refine V_aload_n dX12_promise_0 rfl (xm 0 rfl) ?_
  refine V_iload_n dX12_promise_1 rfl (xm 1 rfl) ?_
  refine T_callVI dX12_promise_2 ok_X12_isPlot (by exact ⟨by decide, rfl⟩) lk_X12_226.1 lk_X12_226.2 (sk_94 hS (by decide)) (hV := ((fX12_isPlot_c (hS.le (by decide)) rfl).mono (by decide) (Nat.le_refl _) (Nat.le_refl _))) rfl (Nat.le_of_ble_eq_true rfl) rfl (Nat.le_of_ble_eq_true rfl) ?_
  refine V_if_eqB (tgt := 47) dX12_promise_5 (by decide) h (fun _ h => ?_) (fun _ h => ?_)
  · refine V_iload_n dX12_promise_8 rfl (xm 2 rfl) ?_
    refine V_iconst dX12_promise_9 ?_
    refine V_iconst dX12_promise_10 ?_
    refine T_callSI (host := "") dX12_promise_11 ok_X12_isIn lk_X12_70.1 lk_X12_70.2 (hV := ((fX12_isIn_c (hS.le (by decide)) rfl).mono (by decide) (Nat.le_refl _) (Nat.le_refl _))) rfl (Nat.le_of_ble_eq_true rfl) rfl (Nat.le_of_ble_eq_true rfl) ?_
    refine V_if_eqB (tgt := 47) dX12_promise_14 (by decide) h (fun _ h => ?_) (fun _ h => ?_)
    · refine V_iload_n dX12_promise_17 rfl (xm 3 rfl) ?_
      refine V_iconst dX12_promise_18 ?_
      refine V_iload dX12_promise_19 (xm 4 rfl) ?_
      refine T_callSI (host := "") dX12_promise_21 ok_X12_isIn lk_X12_70.1 lk_X12_70.2 (hV := ((fX12_isIn_c (hS.le (by decide)) rfl).mono (by decide) (Nat.le_refl _) (Nat.le_refl _))) rfl (Nat.le_of_ble_eq_true rfl) rfl (Nat.le_of_ble_eq_true rfl) ?_
      refine V_if_eqB (tgt := 47) dX12_promise_24 (by decide) h (fun _ h => ?_) (fun _ h => ?_)
      · refine V_iload dX12_promise_27 (xm 4 rfl) ?_
        refine V_sipush dX12_promise_29 (by decide) ?_
        refine V_icmp_gt (tgt := 47) dX12_promise_32 (by decide) h (fun _ h => ?_) (fun _ h => ?_)
        · refine V_iconst dX12_promise_47 ?_
          exact V_ireti dX12_promise_48 rfl (q_wI h)
        · refine V_aload_n dX12_promise_35 rfl (xm 0 rfl) ?_
          refine V_getR dX12_promise_36 fl_X12_7 (sk_94 hS (by decide)) rfl ?_
          refine V_bipush dX12_promise_39 (by decide) ?_
          refine V_ialdK (j := 7) dX12_promise_41 (sk_95 hS (by decide)) (by decide) (by decide) ?_
          refine V_bipush dX12_promise_42 (by decide) ?_
          refine V_icmp_ne (tgt := 49) dX12_promise_44 (by decide) h (fun _ h => ?_) (fun _ h => ?_)
          · refine V_iconst dX12_promise_47 ?_
            exact V_ireti dX12_promise_48 rfl (q_wI h)
          · refine V_iconst dX12_promise_49 ?_
            refine V_istore (ls' := [(5, vI 0), (0, vR (some 94)), (1, vI v1), (2, vI v2), (3, vI v3), (4, vI v4)]) dX12_promise_50 (by decide) rfl ?_
            refine V_iconst dX12_promise_52 ?_
            refine V_istore (ls' := [(6, vI 0), (5, vI 0), (0, vR (some 94)), (1, vI v1), (2, vI v2), (3, vI v3), (4, vI v4)]) dX12_promise_53 (by decide) rfl ?_
            refine xbE h (fun y2 h3 h => ?_)
            refine V.pick [2, 3, 4, 5, 6, 1, 0] rfl ?_
            refine fX12_promise_L55_ci (hS.le (by decide)) h3 ?_
            refine V_iload dX12_promise_100 (xm 5 rfl) ?_
            refine V_bipush dX12_promise_102 (by decide) ?_
            refine V_icmp_ne (tgt := 109) dX12_promise_104 (by decide) h (fun _ h => ?_) (fun _ h => ?_)
            · refine V_iconst dX12_promise_107 ?_
              exact V_ireti dX12_promise_108 rfl (q_wI h)
            · refine V_sipush dX12_promise_109 (by decide) ?_
              refine V_iconst dX12_promise_112 ?_
              refine V_aload_n dX12_promise_113 rfl (xm 0 rfl) ?_
              refine V_getR dX12_promise_114 fl_X12_7 (sk_94 hS (by decide)) rfl ?_
              refine V_bipush dX12_promise_117 (by decide) ?_
              refine V_ialdK (j := 7) dX12_promise_119 (sk_95 hS (by decide)) (by decide) (by decide) ?_
              refine V_imul dX12_promise_120 ?_
              refine V_iadd dX12_promise_121 ?_
              refine V_istore (ls' := [(6, vI (370 + (5 * (M 95 7)))), (0, vR (some 94)), (1, vI v1), (2, vI v2), (3, vI v3), (4, vI v4), (5, vI y2)]) dX12_promise_122 (by decide) rfl ?_
              refine V_aload_n dX12_promise_124 rfl (xm 1 rfl) ?_
              refine V_getR dX12_promise_125 fl_X12_7 (sk_94 hS (by decide)) rfl ?_
              refine V_iload dX12_promise_128 (xm 0 rfl) ?_
              refine V_iload_n dX12_promise_130 rfl (xm 2 rfl) ?_
              refine T_iast dX12_promise_131 (sk_95 hS (by decide)) rfl h (fun M4 h => ?_)
              refine V_aload_n dX12_promise_132 rfl (xm 1 rfl) ?_
              refine V_getR dX12_promise_133 fl_X12_7 (sk_94 hS (by decide)) rfl ?_
              refine V_iload dX12_promise_136 (xm 0 rfl) ?_
              refine V_iconst dX12_promise_138 ?_
              refine V_iadd dX12_promise_139 ?_
              refine V_iload_n dX12_promise_140 rfl (xm 3 rfl) ?_
              refine T_iast dX12_promise_141 (sk_95 hS (by decide)) rfl h (fun M5 h => ?_)
              refine V_aload_n dX12_promise_142 rfl (xm 1 rfl) ?_
              refine V_getR dX12_promise_143 fl_X12_7 (sk_94 hS (by decide)) rfl ?_
              refine V_iload dX12_promise_146 (xm 0 rfl) ?_
              refine V_iconst dX12_promise_148 ?_
              refine V_iadd dX12_promise_149 ?_
              refine V_iload_n dX12_promise_150 rfl (xm 4 rfl) ?_
              refine T_iast dX12_promise_151 (sk_95 hS (by decide)) rfl h (fun M6 h => ?_)
              refine V_aload_n dX12_promise_152 rfl (xm 1 rfl) ?_
              refine V_getR dX12_promise_153 fl_X12_7 (sk_94 hS (by decide)) rfl ?_
              refine V_iload dX12_promise_156 (xm 0 rfl) ?_
              refine V_iconst dX12_promise_158 ?_
              refine V_iadd dX12_promise_159 ?_
              refine V_iload dX12_promise_160 (xm 5 rfl) ?_
              refine T_iast dX12_promise_162 (sk_95 hS (by decide)) rfl h (fun M7 h => ?_)
              refine V_aload_n dX12_promise_163 rfl (xm 1 rfl) ?_
              refine V_getR dX12_promise_164 fl_X12_7 (sk_94 hS (by decide)) rfl ?_
              refine V_iload dX12_promise_167 (xm 0 rfl) ?_
              refine V_iconst dX12_promise_169 ?_
              refine V_iadd dX12_promise_170 ?_
              refine V_iconst dX12_promise_171 ?_
              refine T_iast dX12_promise_172 (sk_95 hS (by decide)) rfl h (fun M8 h => ?_)
              refine V_aload_n dX12_promise_173 rfl (xm 1 rfl) ?_
              refine V_getR dX12_promise_174 fl_X12_7 (sk_94 hS (by decide)) rfl ?_
              refine V_bipush dX12_promise_177 (by decide) ?_
              refine V_dup2 dX12_promise_179 rfl rfl ?_
              refine V_ialdK (j := 7) dX12_promise_180 (sk_95 hS (by decide)) (by decide) (by decide) ?_
              refine V_iconst dX12_promise_181 ?_
              refine V_iadd dX12_promise_182 ?_
              refine xletE h (fun M9 eM9 h => ?_)
              refine V_iastK (j := 7) dX12_promise_183 (sk_95 hS (by decide)) (by decide) (by decide) ?_
              rw [← eM9]
              refine V_aload_n dX12_promise_184 rfl (xm 1 rfl) ?_
              refine xbE h (fun M11 h10 h => ?_)
              refine T_callVv dX12_promise_185 ok_X12_forgets (by exact ⟨by decide, rfl⟩) lk_X12_78.1 lk_X12_78.2 (sk_94 hS (by decide)) (hV := ((fX12_forgets_c (hS.le (by decide)) h10).mono (by decide) (Nat.le_refl _) (Nat.le_refl _))) rfl (Nat.le_of_ble_eq_true rfl) rfl (Nat.le_of_ble_eq_true rfl) ?_
              refine V_aload_n dX12_promise_188 rfl (xm 1 rfl) ?_
              refine V_getR dX12_promise_189 fl_X12_7 (sk_94 hS (by decide)) rfl ?_
              refine V_bipush dX12_promise_192 (by decide) ?_
              refine V_ialdK (j := 7) dX12_promise_194 (sk_95 hS (by decide)) (by decide) (by decide) ?_
              refine V_iconst dX12_promise_195 ?_
              refine V_isub dX12_promise_196 ?_
              exact V_ireti dX12_promise_197 rfl (q_wI h)
      · refine V_iconst dX12_promise_47 ?_
        exact V_ireti dX12_promise_48 rfl (q_wI h)
    · refine V_iconst dX12_promise_47 ?_
      exact V_ireti dX12_promise_48 rfl (q_wI h)
  · refine V_iconst dX12_promise_47 ?_
    exact V_ireti dX12_promise_48 rfl (q_wI h)
def fX12_stands (M : xM) (v1 : Int) : Option Bool := xrd M 95 5820 ((370 + (5 * v1)) + 4) fun r1 => (if wr r1 = 0 then some true else some false)
set_option maxRecDepth 20000 in
set_option maxHeartbeats 1000000 in
theorem fX12_stands_c {S : xS} {kp : Option Nat} (hS : xSk kp 96 S) {M : xM} {v1 : Int} {E : Bool} (h : fX12_stands M v1 = some E) :
    V Y_X12_stands 0 0 0 0 (xarg 0 [vR (some 94), vI v1]) [] S M (xqR S M (some (vI (b2i E)))) := by
  unfold fX12_stands at h
  show V Y_X12_stands 0 0 0 0 [(0, vR (some 94)), (1, vI v1)] [] S M _
  refine V_aload_n dX12_stands_0 rfl (xm 0 rfl) ?_
  refine V_getR dX12_stands_1 fl_X12_7 (sk_94 hS (by decide)) rfl ?_
  refine V_sipush dX12_stands_4 (by decide) ?_
  refine V_iconst dX12_stands_7 ?_
  refine V_iload_n dX12_stands_8 rfl (xm 1 rfl) ?_
  refine V_imul dX12_stands_9 ?_
  refine V_iadd dX12_stands_10 ?_
  refine V_iconst dX12_stands_11 ?_
  refine V_iadd dX12_stands_12 ?_
  refine T_iald dX12_stands_13 (sk_95 hS (by decide)) rfl h (fun r1 h => ?_)
  refine V_if_ne (tgt := 21) dX12_stands_14 (by decide) h (fun _ h => ?_) (fun _ h => ?_)
  · refine V_iconst dX12_stands_17 ?_
    refine V_goto (tgt := 22) dX12_stands_18 (by decide) ?_
    exact V_iretb (b := true) dX12_stands_22 rfl (by decide) (q_pB h)
  · refine V_iconst dX12_stands_21 ?_
    exact V_iretb (b := false) dX12_stands_22 rfl (by decide) (q_pB h)
def fX12_drop (M : xM) (v1 : Int) : Option (Bool × xM) := (if (fX12_isIn v1 0 ((M 95 7) - 1)) = true then (xb (fX12_stands M v1) fun r2 => (if r2 = true then (xwt M 95 5820 ((370 + (5 * v1)) + 4) 1 fun M3 => xb (fX12_forgets M3) fun M5 => some (true, M5)) else some (false, M))) else some (false, M))
set_option maxRecDepth 20000 in
set_option maxHeartbeats 1000000 in
theorem fX12_drop_c {S : xS} {kp : Option Nat} (hS : xSk kp 96 S) {M : xM} {v1 : Int} {E : Bool × xM} (h : fX12_drop M v1 = some E) :
    V Y_X12_drop 1 0 0 0 (xarg 0 [vR (some 94), vI v1]) [] S M (xqR S E.2 (some (vI (b2i E.1)))) := by
  unfold fX12_drop at h
  show V Y_X12_drop 1 0 0 0 [(0, vR (some 94)), (1, vI v1)] [] S M _
  refine V_iload_n dX12_drop_0 rfl (xm 1 rfl) ?_
  refine V_iconst dX12_drop_1 ?_
  refine V_aload_n dX12_drop_2 rfl (xm 0 rfl) ?_
  refine V_getR dX12_drop_3 fl_X12_7 (sk_94 hS (by decide)) rfl ?_
  refine V_bipush dX12_drop_6 (by decide) ?_
  refine V_ialdK (j := 7) dX12_drop_8 (sk_95 hS (by decide)) (by decide) (by decide) ?_
  refine V_iconst dX12_drop_9 ?_
  refine V_isub dX12_drop_10 ?_
  refine T_callSI (host := "") dX12_drop_11 ok_X12_isIn lk_X12_70.1 lk_X12_70.2 (hV := ((fX12_isIn_c (hS.le (by decide)) rfl).mono (by decide) (Nat.le_refl _) (Nat.le_refl _))) rfl (Nat.le_of_ble_eq_true rfl) rfl (Nat.le_of_ble_eq_true rfl) ?_
  refine V_if_eqB (tgt := 25) dX12_drop_14 (by decide) h (fun _ h => ?_) (fun _ h => ?_)
  · refine V_aload_n dX12_drop_17 rfl (xm 0 rfl) ?_
    refine V_iload_n dX12_drop_18 rfl (xm 1 rfl) ?_
    refine xbE h (fun r2 h1 h => ?_)
    refine T_callVI dX12_drop_19 ok_X12_stands (by exact ⟨by decide, rfl⟩) lk_X12_246.1 lk_X12_246.2 (sk_94 hS (by decide)) (hV := ((fX12_stands_c (hS.le (by decide)) h1).mono (by decide) (Nat.le_refl _) (Nat.le_refl _))) rfl (Nat.le_of_ble_eq_true rfl) rfl (Nat.le_of_ble_eq_true rfl) ?_
    refine V_if_neB (tgt := 27) dX12_drop_22 (by decide) h (fun _ h => ?_) (fun _ h => ?_)
    · refine V_aload_n dX12_drop_27 rfl (xm 0 rfl) ?_
      refine V_getR dX12_drop_28 fl_X12_7 (sk_94 hS (by decide)) rfl ?_
      refine V_sipush dX12_drop_31 (by decide) ?_
      refine V_iconst dX12_drop_34 ?_
      refine V_iload_n dX12_drop_35 rfl (xm 1 rfl) ?_
      refine V_imul dX12_drop_36 ?_
      refine V_iadd dX12_drop_37 ?_
      refine V_iconst dX12_drop_38 ?_
      refine V_iadd dX12_drop_39 ?_
      refine V_iconst dX12_drop_40 ?_
      refine T_iast dX12_drop_41 (sk_95 hS (by decide)) rfl h (fun M3 h => ?_)
      refine V_aload_n dX12_drop_42 rfl (xm 0 rfl) ?_
      refine xbE h (fun M5 h4 h => ?_)
      refine T_callVv dX12_drop_43 ok_X12_forgets (by exact ⟨by decide, rfl⟩) lk_X12_78.1 lk_X12_78.2 (sk_94 hS (by decide)) (hV := ((fX12_forgets_c (hS.le (by decide)) h4).mono (by decide) (Nat.le_refl _) (Nat.le_refl _))) rfl (Nat.le_of_ble_eq_true rfl) rfl (Nat.le_of_ble_eq_true rfl) ?_
      refine V_iconst dX12_drop_46 ?_
      exact V_iretb (b := true) dX12_drop_47 rfl (by decide) (q_wB h)
    · refine V_iconst dX12_drop_25 ?_
      exact V_iretb (b := false) dX12_drop_26 rfl (by decide) (q_wB h)
  · refine V_iconst dX12_drop_25 ?_
    exact V_iretb (b := false) dX12_drop_26 rfl (by decide) (q_wB h)
def fX12_voteOf_L2 (n : Nat) (M : xM) (v1 : Int) (v2 : Int) : Option ((Unit) ⊕ (Int)) := match n with
  | 0 => none
  | n + 1 => (if wr v2 < wr (M 95 7) then (xrd M 95 5820 (370 + (5 * v2)) fun r1 => (if wr r1 = wr v1 then (xb (fX12_stands M v2) fun r3 => (if r3 = true then (xrd M 95 5820 ((370 + (5 * v2)) + 2) fun r4 => xrd M 95 5820 ((370 + (5 * v2)) + 3) fun r5 => (if (fX12_isIn (M 95 2) r4 r5) = true then (xrd M 95 5820 ((370 + (5 * v2)) + 1) fun r6 => some (.inr r6)) else fX12_voteOf_L2 n M v1 (v2 + 1))) else fX12_voteOf_L2 n M v1 (v2 + 1))) else fX12_voteOf_L2 n M v1 (v2 + 1))) else some (.inl ()))
set_option maxRecDepth 20000 in
set_option maxHeartbeats 1000000 in
theorem fX12_voteOf_L2_c {S : xS} {kp : Option Nat} (hS : xSk kp 96 S) {Q : Option xV → xS → xM → Prop} :
    ∀ (n : Nat) (M : xM) (v1 : Int) (v2 : Int) {E : (Unit) ⊕ (Int)}, fX12_voteOf_L2 n M v1 v2 = some E → (E = .inl () → V Y_X12_voteOf 3 0 0 82 [(0, vR (some 94)), (1, vI v1)] [] S M Q) → (∀ (w : Int), E = .inr w → Q (some (vI w)) S M) → V Y_X12_voteOf 3 0 0 2 [(0, vR (some 94)), (1, vI v1), (2, vI v2)] [] S M Q := by
  intro n
  induction n with
  | zero =>
    intro M v1 v2 E h k kr
    cases h
  | succ n ih =>
    intro M v1 v2 E h k kr
    rw [fX12_voteOf_L2] at h
    refine V_iload_n dX12_voteOf_2 rfl (xm 2 rfl) ?_
    refine V_aload_n dX12_voteOf_3 rfl (xm 0 rfl) ?_
    refine V_getR dX12_voteOf_4 fl_X12_7 (sk_94 hS (by decide)) rfl ?_
    refine V_bipush dX12_voteOf_7 (by decide) ?_
    refine V_ialdK (j := 7) dX12_voteOf_9 (sk_95 hS (by decide)) (by decide) (by decide) ?_
    refine V_icmp_ge (tgt := 82) dX12_voteOf_10 (by decide) h (fun _ h => ?_) (fun _ h => ?_)
    · refine V_sipush dX12_voteOf_13 (by decide) ?_
      refine V_iconst dX12_voteOf_16 ?_
      refine V_iload_n dX12_voteOf_17 rfl (xm 2 rfl) ?_
      refine V_imul dX12_voteOf_18 ?_
      refine V_iadd dX12_voteOf_19 ?_
      refine V_istore_n (ls' := [(3, vI (370 + (5 * v2))), (0, vR (some 94)), (1, vI v1), (2, vI v2)]) dX12_voteOf_20 rfl (by decide) rfl ?_
      refine V_aload_n dX12_voteOf_21 rfl (xm 1 rfl) ?_
      refine V_getR dX12_voteOf_22 fl_X12_7 (sk_94 hS (by decide)) rfl ?_
      refine V_iload_n dX12_voteOf_25 rfl (xm 0 rfl) ?_
      refine T_iald dX12_voteOf_26 (sk_95 hS (by decide)) rfl h (fun r1 h => ?_)
      refine V_iload_n dX12_voteOf_27 rfl (xm 2 rfl) ?_
      refine V_icmp_ne (tgt := 76) dX12_voteOf_28 (by decide) h (fun _ h => ?_) (fun _ h => ?_)
      · refine V_aload_n dX12_voteOf_31 rfl (xm 1 rfl) ?_
        refine V_iload_n dX12_voteOf_32 rfl (xm 3 rfl) ?_
        refine xbE h (fun r3 h2 h => ?_)
        refine T_callVI dX12_voteOf_33 ok_X12_stands (by exact ⟨by decide, rfl⟩) lk_X12_246.1 lk_X12_246.2 (sk_94 hS (by decide)) (hV := ((fX12_stands_c (hS.le (by decide)) h2).mono (by decide) (Nat.le_refl _) (Nat.le_refl _))) rfl (Nat.le_of_ble_eq_true rfl) rfl (Nat.le_of_ble_eq_true rfl) ?_
        refine V_if_eqB (tgt := 76) dX12_voteOf_36 (by decide) h (fun _ h => ?_) (fun _ h => ?_)
        · refine V_aload_n dX12_voteOf_39 rfl (xm 1 rfl) ?_
          refine V_getR dX12_voteOf_40 fl_X12_7 (sk_94 hS (by decide)) rfl ?_
          refine V_iconst dX12_voteOf_43 ?_
          refine V_ialdK (j := 2) dX12_voteOf_44 (sk_95 hS (by decide)) (by decide) (by decide) ?_
          refine V_aload_n dX12_voteOf_45 rfl (xm 1 rfl) ?_
          refine V_getR dX12_voteOf_46 fl_X12_7 (sk_94 hS (by decide)) rfl ?_
          refine V_iload_n dX12_voteOf_49 rfl (xm 0 rfl) ?_
          refine V_iconst dX12_voteOf_50 ?_
          refine V_iadd dX12_voteOf_51 ?_
          refine T_iald dX12_voteOf_52 (sk_95 hS (by decide)) rfl h (fun r4 h => ?_)
          refine V_aload_n dX12_voteOf_53 rfl (xm 1 rfl) ?_
          refine V_getR dX12_voteOf_54 fl_X12_7 (sk_94 hS (by decide)) rfl ?_
          refine V_iload_n dX12_voteOf_57 rfl (xm 0 rfl) ?_
          refine V_iconst dX12_voteOf_58 ?_
          refine V_iadd dX12_voteOf_59 ?_
          refine T_iald dX12_voteOf_60 (sk_95 hS (by decide)) rfl h (fun r5 h => ?_)
          refine T_callSI (host := "") dX12_voteOf_61 ok_X12_isIn lk_X12_70.1 lk_X12_70.2 (hV := ((fX12_isIn_c (hS.le (by decide)) rfl).mono (by decide) (Nat.le_refl _) (Nat.le_refl _))) rfl (Nat.le_of_ble_eq_true rfl) rfl (Nat.le_of_ble_eq_true rfl) ?_
          refine V_if_eqB (tgt := 76) dX12_voteOf_64 (by decide) h (fun _ h => ?_) (fun _ h => ?_)
          · refine V_aload_n dX12_voteOf_67 rfl (xm 1 rfl) ?_
            refine V_getR dX12_voteOf_68 fl_X12_7 (sk_94 hS (by decide)) rfl ?_
            refine V_iload_n dX12_voteOf_71 rfl (xm 0 rfl) ?_
            refine V_iconst dX12_voteOf_72 ?_
            refine V_iadd dX12_voteOf_73 ?_
            refine T_iald dX12_voteOf_74 (sk_95 hS (by decide)) rfl h (fun r6 h => ?_)
            exact V_ireti dX12_voteOf_75 rfl (kr r6 (Option.some.inj h).symm)
          · refine V_iinc (ls' := [(2, vI (v2 + 1)), (3, vI (370 + (5 * v2))), (0, vR (some 94)), (1, vI v1)]) dX12_voteOf_76 (xm 3 rfl) (by decide) rfl ?_
            refine V_goto (tgt := 2) dX12_voteOf_79 (by decide) ?_
            refine V.pick [2, 3, 0] rfl ?_
            exact ih M v1 (v2 + 1) h k kr
        · refine V_iinc (ls' := [(2, vI (v2 + 1)), (3, vI (370 + (5 * v2))), (0, vR (some 94)), (1, vI v1)]) dX12_voteOf_76 (xm 3 rfl) (by decide) rfl ?_
          refine V_goto (tgt := 2) dX12_voteOf_79 (by decide) ?_
          refine V.pick [2, 3, 0] rfl ?_
          exact ih M v1 (v2 + 1) h k kr
      · refine V_iinc (ls' := [(2, vI (v2 + 1)), (3, vI (370 + (5 * v2))), (0, vR (some 94)), (1, vI v1)]) dX12_voteOf_76 (xm 3 rfl) (by decide) rfl ?_
        refine V_goto (tgt := 2) dX12_voteOf_79 (by decide) ?_
        refine V.pick [2, 3, 0] rfl ?_
        exact ih M v1 (v2 + 1) h k kr
    · refine V.pick [0, 1] rfl ?_
      exact k  (Option.some.inj h).symm
theorem fX12_voteOf_L2_ci {S : xS} {kp : Option Nat} (hS : xSk kp 96 S) {Q : Option xV → xS → xM → Prop} {n : Nat} {M : xM} {v1 : Int} {v2 : Int} (hl : fX12_voteOf_L2 n M v1 v2 = some (.inl ())) (k : V Y_X12_voteOf 3 0 0 82 [(0, vR (some 94)), (1, vI v1)] [] S M Q) : V Y_X12_voteOf 3 0 0 2 [(0, vR (some 94)), (1, vI v1), (2, vI v2)] [] S M Q := fX12_voteOf_L2_c hS _ _ _ _ hl (fun  e => by cases e; exact k) (fun _ e => by cases e)
theorem fX12_voteOf_L2_cr {S : xS} {kp : Option Nat} (hS : xSk kp 96 S) {Q : Option xV → xS → xM → Prop} {n : Nat} {M : xM} {v1 : Int} {v2 : Int} {w : Int} (hl : fX12_voteOf_L2 n M v1 v2 = some (.inr w)) (k : Q (some (vI w)) S M) : V Y_X12_voteOf 3 0 0 2 [(0, vR (some 94)), (1, vI v1), (2, vI v2)] [] S M Q := fX12_voteOf_L2_c hS _ _ _ _ hl (fun  e => by cases e) (fun _ e => by cases e; exact k)
def fX12_voteOf (M : xM) (v1 : Int) : Option (Int × xM) := xs0 (fX12_voteOf_L2 xfuel M v1 0) (xb2 (fX12_worthOf M v1 (M 95 2) (M 95 1) 0) fun r9 M10 => xb (fX12_modulo M10 ((M10 95 1) + 1)) fun r12 => xb2 (fX12_worthOf M10 v1 (M10 95 2) r12 1) fun r14 M15 => xb (fX12_modulo M15 ((M15 95 1) - 1)) fun r17 => xb2 (fX12_worthOf M15 v1 (M15 95 2) r17 ((-1))) fun r19 M20 => xj (fun (_ : Unit) => (if wr r14 < wr r19 then some ((-1), M20) else some (1, M20))) fun j21 => (if wr r9 < wr r14 then j21 () else (if wr r9 < wr r19 then j21 () else some (0, M20)))) (fun r => some (r, M))
set_option maxRecDepth 20000 in
set_option maxHeartbeats 1000000 in
theorem fX12_voteOf_c {S : xS} {kp : Option Nat} (hS : xSk kp 103 S) {M : xM} {v1 : Int} {E : Int × xM} (h : fX12_voteOf M v1 = some E) :
    V Y_X12_voteOf 3 0 0 0 (xarg 0 [vR (some 94), vI v1]) [] S M (xqR S E.2 (some (vI E.1))) := by
  unfold fX12_voteOf at h
  show V Y_X12_voteOf 3 0 0 0 [(0, vR (some 94)), (1, vI v1)] [] S M _
  refine V_iconst dX12_voteOf_0 ?_
  refine V_istore_n (ls' := [(2, vI 0), (0, vR (some 94)), (1, vI v1)]) dX12_voteOf_1 rfl (by decide) rfl ?_
  refine xs0E h (fun  h7 h => ?_) (fun r h7 h => ?_)
  · refine V.pick [1, 2, 0] rfl ?_
    refine fX12_voteOf_L2_ci (hS.le (by decide)) h7 ?_
    refine V_aload_n dX12_voteOf_82 rfl (xm 0 rfl) ?_
    refine V_iload_n dX12_voteOf_83 rfl (xm 1 rfl) ?_
    refine V_aload_n dX12_voteOf_84 rfl (xm 0 rfl) ?_
    refine V_getR dX12_voteOf_85 fl_X12_7 (sk_94 hS (by decide)) rfl ?_
    refine V_iconst dX12_voteOf_88 ?_
    refine V_ialdK (j := 2) dX12_voteOf_89 (sk_95 hS (by decide)) (by decide) (by decide) ?_
    refine V_aload_n dX12_voteOf_90 rfl (xm 0 rfl) ?_
    refine V_getR dX12_voteOf_91 fl_X12_7 (sk_94 hS (by decide)) rfl ?_
    refine V_iconst dX12_voteOf_94 ?_
    refine V_ialdK (j := 1) dX12_voteOf_95 (sk_95 hS (by decide)) (by decide) (by decide) ?_
    refine V_iconst dX12_voteOf_96 ?_
    refine xb2E h (fun r9 M10 h8 h => ?_)
    refine T_callVI dX12_voteOf_97 ok_X12_worthOf (by exact ⟨by decide, rfl⟩) lk_X12_232.1 lk_X12_232.2 (sk_94 hS (by decide)) (hV := ((fX12_worthOf_c (hS.le (by decide)) h8).mono (by decide) (Nat.le_refl _) (Nat.le_refl _))) rfl (Nat.le_of_ble_eq_true rfl) rfl (Nat.le_of_ble_eq_true rfl) ?_
    refine V_istore_n (ls' := [(2, vI r9), (0, vR (some 94)), (1, vI v1)]) dX12_voteOf_100 rfl (by decide) rfl ?_
    refine V_aload_n dX12_voteOf_101 rfl (xm 1 rfl) ?_
    refine V_iload_n dX12_voteOf_102 rfl (xm 2 rfl) ?_
    refine V_aload_n dX12_voteOf_103 rfl (xm 1 rfl) ?_
    refine V_getR dX12_voteOf_104 fl_X12_7 (sk_94 hS (by decide)) rfl ?_
    refine V_iconst dX12_voteOf_107 ?_
    refine V_ialdK (j := 2) dX12_voteOf_108 (sk_95 hS (by decide)) (by decide) (by decide) ?_
    refine V_aload_n dX12_voteOf_109 rfl (xm 1 rfl) ?_
    refine V_aload_n dX12_voteOf_110 rfl (xm 1 rfl) ?_
    refine V_getR dX12_voteOf_111 fl_X12_7 (sk_94 hS (by decide)) rfl ?_
    refine V_iconst dX12_voteOf_114 ?_
    refine V_ialdK (j := 1) dX12_voteOf_115 (sk_95 hS (by decide)) (by decide) (by decide) ?_
    refine V_iconst dX12_voteOf_116 ?_
    refine V_iadd dX12_voteOf_117 ?_
    refine xbE h (fun r12 h11 h => ?_)
    refine T_callVI dX12_voteOf_118 ok_X12_modulo (by exact ⟨by decide, rfl⟩) lk_X12_216.1 lk_X12_216.2 (sk_94 hS (by decide)) (hV := ((fX12_modulo_c (hS.le (by decide)) h11).mono (by decide) (Nat.le_refl _) (Nat.le_refl _))) rfl (Nat.le_of_ble_eq_true rfl) rfl (Nat.le_of_ble_eq_true rfl) ?_
    refine V_iconst dX12_voteOf_121 ?_
    refine xb2E h (fun r14 M15 h13 h => ?_)
    refine T_callVI dX12_voteOf_122 ok_X12_worthOf (by exact ⟨by decide, rfl⟩) lk_X12_232.1 lk_X12_232.2 (sk_94 hS (by decide)) (hV := ((fX12_worthOf_c (hS.le (by decide)) h13).mono (by decide) (Nat.le_refl _) (Nat.le_refl _))) rfl (Nat.le_of_ble_eq_true rfl) rfl (Nat.le_of_ble_eq_true rfl) ?_
    refine V_istore_n (ls' := [(3, vI r14), (2, vI r9), (0, vR (some 94)), (1, vI v1)]) dX12_voteOf_125 rfl (by decide) rfl ?_
    refine V_aload_n dX12_voteOf_126 rfl (xm 2 rfl) ?_
    refine V_iload_n dX12_voteOf_127 rfl (xm 3 rfl) ?_
    refine V_aload_n dX12_voteOf_128 rfl (xm 2 rfl) ?_
    refine V_getR dX12_voteOf_129 fl_X12_7 (sk_94 hS (by decide)) rfl ?_
    refine V_iconst dX12_voteOf_132 ?_
    refine V_ialdK (j := 2) dX12_voteOf_133 (sk_95 hS (by decide)) (by decide) (by decide) ?_
    refine V_aload_n dX12_voteOf_134 rfl (xm 2 rfl) ?_
    refine V_aload_n dX12_voteOf_135 rfl (xm 2 rfl) ?_
    refine V_getR dX12_voteOf_136 fl_X12_7 (sk_94 hS (by decide)) rfl ?_
    refine V_iconst dX12_voteOf_139 ?_
    refine V_ialdK (j := 1) dX12_voteOf_140 (sk_95 hS (by decide)) (by decide) (by decide) ?_
    refine V_iconst dX12_voteOf_141 ?_
    refine V_isub dX12_voteOf_142 ?_
    refine xbE h (fun r17 h16 h => ?_)
    refine T_callVI dX12_voteOf_143 ok_X12_modulo (by exact ⟨by decide, rfl⟩) lk_X12_216.1 lk_X12_216.2 (sk_94 hS (by decide)) (hV := ((fX12_modulo_c (hS.le (by decide)) h16).mono (by decide) (Nat.le_refl _) (Nat.le_refl _))) rfl (Nat.le_of_ble_eq_true rfl) rfl (Nat.le_of_ble_eq_true rfl) ?_
    refine V_iconst dX12_voteOf_146 ?_
    refine xb2E h (fun r19 M20 h18 h => ?_)
    refine T_callVI dX12_voteOf_147 ok_X12_worthOf (by exact ⟨by decide, rfl⟩) lk_X12_232.1 lk_X12_232.2 (sk_94 hS (by decide)) (hV := ((fX12_worthOf_c (hS.le (by decide)) h18).mono (by decide) (Nat.le_refl _) (Nat.le_refl _))) rfl (Nat.le_of_ble_eq_true rfl) rfl (Nat.le_of_ble_eq_true rfl) ?_
    refine V_istore (ls' := [(4, vI r19), (3, vI r14), (2, vI r9), (0, vR (some 94)), (1, vI v1)]) dX12_voteOf_150 (by decide) rfl ?_
    refine V_iload_n dX12_voteOf_152 rfl (xm 2 rfl) ?_
    refine V_iload_n dX12_voteOf_153 rfl (xm 1 rfl) ?_
    refine xjE h (fun j21 hj21 h => ?_)
    have kj21 : ∀ (u : Unit), j21 u = some E → V Y_X12_voteOf 3 0 0 165 [(3, vI r14), (4, vI r19)] [] S M20 (xqR S E.2 (some (vI E.1))) := by
      intro u h
      rw [hj21] at h
      refine V_iload_n dX12_voteOf_165 rfl (xm 0 rfl) ?_
      refine V_iload dX12_voteOf_166 (xm 1 rfl) ?_
      refine V_icmp_lt (tgt := 175) dX12_voteOf_168 (by decide) h (fun _ h => ?_) (fun _ h => ?_)
      · refine V_iconst dX12_voteOf_175 ?_
        exact V_ireti dX12_voteOf_176 rfl (q_wI h)
      · refine V_iconst dX12_voteOf_171 ?_
        refine V_goto (tgt := 176) dX12_voteOf_172 (by decide) ?_
        exact V_ireti dX12_voteOf_176 rfl (q_wI h)
    refine V_icmp_lt (tgt := 165) dX12_voteOf_154 (by decide) h (fun _ h => ?_) (fun _ h => ?_)
    · refine V.pick [1, 0] rfl ?_
      exact kj21 () h
    · refine V_iload_n dX12_voteOf_157 rfl (xm 2 rfl) ?_
      refine V_iload dX12_voteOf_158 (xm 0 rfl) ?_
      refine V_icmp_lt (tgt := 165) dX12_voteOf_160 (by decide) h (fun _ h => ?_) (fun _ h => ?_)
      · refine V.pick [1, 0] rfl ?_
        exact kj21 () h
      · refine V_iconst dX12_voteOf_163 ?_
        exact V_ireti dX12_voteOf_164 rfl (q_wI h)
  · refine V.pick [1, 2, 0] rfl ?_
    refine fX12_voteOf_L2_cr (hS.le (by decide)) h7 ?_
    exact q_wI h
def fX12_votes (M : xM) (v1 : Int) : Option (Int × xM) := (if (fX12_isPlot M v1) = true then (xb (fX12_holderOf M v1 (M 95 2)) fun r2 => xb2 (fX12_voteOf M r2) fun r4 M5 => some (r4 + 2, M5)) else some ((-1), M))
set_option maxRecDepth 20000 in
set_option maxHeartbeats 1000000 in
theorem fX12_votes_c {S : xS} {kp : Option Nat} (hS : xSk kp 103 S) {M : xM} {v1 : Int} {E : Int × xM} (h : fX12_votes M v1 = some E) :
    V Y_X12_votes 4 0 0 0 (xarg 0 [vR (some 94), vI v1]) [] S M (xqR S E.2 (some (vI E.1))) := by
  unfold fX12_votes at h
  show V Y_X12_votes 4 0 0 0 [(0, vR (some 94)), (1, vI v1)] [] S M _
  refine V_aload_n dX12_votes_0 rfl (xm 0 rfl) ?_
  refine V_iload_n dX12_votes_1 rfl (xm 1 rfl) ?_
  refine T_callVI dX12_votes_2 ok_X12_isPlot (by exact ⟨by decide, rfl⟩) lk_X12_226.1 lk_X12_226.2 (sk_94 hS (by decide)) (hV := ((fX12_isPlot_c (hS.le (by decide)) rfl).mono (by decide) (Nat.le_refl _) (Nat.le_refl _))) rfl (Nat.le_of_ble_eq_true rfl) rfl (Nat.le_of_ble_eq_true rfl) ?_
  refine V_if_eqB (tgt := 28) dX12_votes_5 (by decide) h (fun _ h => ?_) (fun _ h => ?_)
  · refine V_aload_n dX12_votes_8 rfl (xm 0 rfl) ?_
    refine V_aload_n dX12_votes_9 rfl (xm 0 rfl) ?_
    refine V_iload_n dX12_votes_10 rfl (xm 1 rfl) ?_
    refine V_aload_n dX12_votes_11 rfl (xm 0 rfl) ?_
    refine V_getR dX12_votes_12 fl_X12_7 (sk_94 hS (by decide)) rfl ?_
    refine V_iconst dX12_votes_15 ?_
    refine V_ialdK (j := 2) dX12_votes_16 (sk_95 hS (by decide)) (by decide) (by decide) ?_
    refine xbE h (fun r2 h1 h => ?_)
    refine T_callVI dX12_votes_17 ok_X12_holderOf (by exact ⟨by decide, rfl⟩) lk_X12_240.1 lk_X12_240.2 (sk_94 hS (by decide)) (hV := ((fX12_holderOf_c (hS.le (by decide)) h1).mono (by decide) (Nat.le_refl _) (Nat.le_refl _))) rfl (Nat.le_of_ble_eq_true rfl) rfl (Nat.le_of_ble_eq_true rfl) ?_
    refine xb2E h (fun r4 M5 h3 h => ?_)
    refine T_callVI dX12_votes_20 ok_X12_voteOf (by exact ⟨by decide, rfl⟩) lk_X12_249.1 lk_X12_249.2 (sk_94 hS (by decide)) (hV := ((fX12_voteOf_c (hS.le (by decide)) h3).mono (by decide) (Nat.le_refl _) (Nat.le_refl _))) rfl (Nat.le_of_ble_eq_true rfl) rfl (Nat.le_of_ble_eq_true rfl) ?_
    refine V_iconst dX12_votes_23 ?_
    refine V_iadd dX12_votes_24 ?_
    refine V_goto (tgt := 29) dX12_votes_25 (by decide) ?_
    exact V_ireti dX12_votes_29 rfl (q_wI h)
  · refine V_iconst dX12_votes_28 ?_
    exact V_ireti dX12_votes_29 rfl (q_wI h)
def fX12_weighs_L4 (n : Nat) (M : xM) (v1 : Int) (v2 : Int) (v3 : Int) : Option (Int) := match n with
  | 0 => none
  | n + 1 => (if wr v3 < wr (M 95 5) then (xb (fX12_of0 M v3 1) fun r2 => fX12_weighs_L4 n M v1 (v2 + ((xand (xshr v1 v3) 1) * r2)) (v3 + 1)) else some v2)
set_option maxRecDepth 20000 in
set_option maxHeartbeats 1000000 in
theorem fX12_weighs_L4_c {S : xS} {kp : Option Nat} (hS : xSk kp 96 S) {Q : Option xV → xS → xM → Prop} :
    ∀ (n : Nat) (M : xM) (v1 : Int) (v2 : Int) (v3 : Int) {x2 : Int}, fX12_weighs_L4 n M v1 v2 v3 = some x2 → V Y_X12_weighs 1 0 0 35 [(2, vI x2)] [] S M Q → V Y_X12_weighs 1 0 0 4 [(0, vR (some 94)), (1, vI v1), (2, vI v2), (3, vI v3)] [] S M Q := by
  intro n
  induction n with
  | zero =>
    intro M v1 v2 v3 x2 h k
    cases h
  | succ n ih =>
    intro M v1 v2 v3 x2 h k
    rw [fX12_weighs_L4] at h
    refine V_iload_n dX12_weighs_4 rfl (xm 3 rfl) ?_
    refine V_aload_n dX12_weighs_5 rfl (xm 0 rfl) ?_
    refine V_getR dX12_weighs_6 fl_X12_7 (sk_94 hS (by decide)) rfl ?_
    refine V_iconst dX12_weighs_9 ?_
    refine V_ialdK (j := 5) dX12_weighs_10 (sk_95 hS (by decide)) (by decide) (by decide) ?_
    refine V_icmp_ge (tgt := 35) dX12_weighs_11 (by decide) h (fun _ h => ?_) (fun _ h => ?_)
    · refine V_iload_n dX12_weighs_14 rfl (xm 2 rfl) ?_
      refine V_iload_n dX12_weighs_15 rfl (xm 1 rfl) ?_
      refine V_iload_n dX12_weighs_16 rfl (xm 3 rfl) ?_
      refine V_ishr dX12_weighs_17 ?_
      refine V_iconst dX12_weighs_18 ?_
      refine V_iand dX12_weighs_19 ?_
      refine V_aload_n dX12_weighs_20 rfl (xm 0 rfl) ?_
      refine V_iload_n dX12_weighs_21 rfl (xm 3 rfl) ?_
      refine V_iconst dX12_weighs_22 ?_
      refine xbE h (fun r2 h1 h => ?_)
      refine T_callVI dX12_weighs_23 ok_X12_of0 (by exact ⟨by decide, rfl⟩) lk_X12_212.1 lk_X12_212.2 (sk_94 hS (by decide)) (hV := ((fX12_of0_c (hS.le (by decide)) h1).mono (by decide) (Nat.le_refl _) (Nat.le_refl _))) rfl (Nat.le_of_ble_eq_true rfl) rfl (Nat.le_of_ble_eq_true rfl) ?_
      refine V_imul dX12_weighs_26 ?_
      refine V_iadd dX12_weighs_27 ?_
      refine V_istore_n (ls' := [(2, vI (v2 + ((xand (xshr v1 v3) 1) * r2))), (0, vR (some 94)), (1, vI v1), (3, vI v3)]) dX12_weighs_28 rfl (by decide) rfl ?_
      refine V_iinc (ls' := [(3, vI (v3 + 1)), (2, vI (v2 + ((xand (xshr v1 v3) 1) * r2))), (0, vR (some 94)), (1, vI v1)]) dX12_weighs_29 (xm 3 rfl) (by decide) rfl ?_
      refine V_goto (tgt := 4) dX12_weighs_32 (by decide) ?_
      refine V.pick [2, 3, 1, 0] rfl ?_
      exact ih M v1 (v2 + ((xand (xshr v1 v3) 1) * r2)) (v3 + 1) h k
    · cases h
      refine V.pick [2] rfl ?_
      exact k
theorem fX12_weighs_L4_ci {S : xS} {kp : Option Nat} (hS : xSk kp 96 S) {Q : Option xV → xS → xM → Prop} {n : Nat} {M : xM} {v1 : Int} {v2 : Int} {v3 : Int} {x2 : Int} (hl : fX12_weighs_L4 n M v1 v2 v3 = some x2) (k : V Y_X12_weighs 1 0 0 35 [(2, vI x2)] [] S M Q) : V Y_X12_weighs 1 0 0 4 [(0, vR (some 94)), (1, vI v1), (2, vI v2), (3, vI v3)] [] S M Q := fX12_weighs_L4_c hS _ _ _ _ _ hl k
def fX12_weighs (M : xM) (v1 : Int) : Option Int := xb (fX12_weighs_L4 xfuel M v1 0 0) fun y3 => some y3
set_option maxRecDepth 20000 in
set_option maxHeartbeats 1000000 in
theorem fX12_weighs_c {S : xS} {kp : Option Nat} (hS : xSk kp 96 S) {M : xM} {v1 : Int} {E : Int} (h : fX12_weighs M v1 = some E) :
    V Y_X12_weighs 1 0 0 0 (xarg 0 [vR (some 94), vI v1]) [] S M (xqR S M (some (vI E))) := by
  unfold fX12_weighs at h
  show V Y_X12_weighs 1 0 0 0 [(0, vR (some 94)), (1, vI v1)] [] S M _
  refine V_iconst dX12_weighs_0 ?_
  refine V_istore_n (ls' := [(2, vI 0), (0, vR (some 94)), (1, vI v1)]) dX12_weighs_1 rfl (by decide) rfl ?_
  refine V_iconst dX12_weighs_2 ?_
  refine V_istore_n (ls' := [(3, vI 0), (2, vI 0), (0, vR (some 94)), (1, vI v1)]) dX12_weighs_3 rfl (by decide) rfl ?_
  refine xbE h (fun y3 h4 h => ?_)
  refine V.pick [2, 3, 1, 0] rfl ?_
  refine fX12_weighs_L4_ci (hS.le (by decide)) h4 ?_
  refine V_iload_n dX12_weighs_35 rfl (xm 0 rfl) ?_
  exact V_ireti dX12_weighs_36 rfl (q_pI h)
def fX12_allPlots (M : xM)  : Int := (xshl 1 (M 95 5)) - 1
set_option maxRecDepth 20000 in
set_option maxHeartbeats 1000000 in
theorem fX12_allPlots_c {S : xS} {kp : Option Nat} (hS : xSk kp 96 S) {M : xM} {E : Int} (h : fX12_allPlots M = E) :
    V Y_X12_allPlots 0 0 0 0 (xarg 0 [vR (some 94)]) [] S M (xqR S M (some (vI E))) := by
  unfold fX12_allPlots at h
  show V Y_X12_allPlots 0 0 0 0 [(0, vR (some 94))] [] S M _
  refine V_iconst dX12_allPlots_0 ?_
  refine V_aload_n dX12_allPlots_1 rfl (xm 0 rfl) ?_
  refine V_getR dX12_allPlots_2 fl_X12_7 (sk_94 hS (by decide)) rfl ?_
  refine V_iconst dX12_allPlots_5 ?_
  refine V_ialdK (j := 5) dX12_allPlots_6 (sk_95 hS (by decide)) (by decide) (by decide) ?_
  refine V_ishl dX12_allPlots_7 ?_
  refine V_iconst dX12_allPlots_8 ?_
  refine V_isub dX12_allPlots_9 ?_
  exact V_ireti dX12_allPlots_10 rfl (q_tI h)
def fX12_isEnough (M : xM) (v1 : Int) : Option Bool := xb (fX12_weighs M v1) fun r2 => xb (fX12_weighs M (fX12_allPlots M)) fun r4 => (if wr r4 < wr (2 * r2) then some true else some false)
set_option maxRecDepth 20000 in
set_option maxHeartbeats 1000000 in
theorem fX12_isEnough_c {S : xS} {kp : Option Nat} (hS : xSk kp 96 S) {M : xM} {v1 : Int} {E : Bool} (h : fX12_isEnough M v1 = some E) :
    V Y_X12_isEnough 2 0 0 0 (xarg 0 [vR (some 94), vI v1]) [] S M (xqR S M (some (vI (b2i E)))) := by
  unfold fX12_isEnough at h
  show V Y_X12_isEnough 2 0 0 0 [(0, vR (some 94)), (1, vI v1)] [] S M _
  refine V_iconst dX12_isEnough_0 ?_
  refine V_aload_n dX12_isEnough_1 rfl (xm 0 rfl) ?_
  refine V_iload_n dX12_isEnough_2 rfl (xm 1 rfl) ?_
  refine xbE h (fun r2 h1 h => ?_)
  refine T_callVI dX12_isEnough_3 ok_X12_weighs (by exact ⟨by decide, rfl⟩) lk_X12_252.1 lk_X12_252.2 (sk_94 hS (by decide)) (hV := ((fX12_weighs_c (hS.le (by decide)) h1).mono (by decide) (Nat.le_refl _) (Nat.le_refl _))) rfl (Nat.le_of_ble_eq_true rfl) rfl (Nat.le_of_ble_eq_true rfl) ?_
  refine V_imul dX12_isEnough_6 ?_
  refine V_aload_n dX12_isEnough_7 rfl (xm 0 rfl) ?_
  refine V_aload_n dX12_isEnough_8 rfl (xm 0 rfl) ?_
  refine T_callVI dX12_isEnough_9 ok_X12_allPlots (by exact ⟨by decide, rfl⟩) lk_X12_255.1 lk_X12_255.2 (sk_94 hS (by decide)) (hV := ((fX12_allPlots_c (hS.le (by decide)) rfl).mono (by decide) (Nat.le_refl _) (Nat.le_refl _))) rfl (Nat.le_of_ble_eq_true rfl) rfl (Nat.le_of_ble_eq_true rfl) ?_
  refine xbE h (fun r4 h3 h => ?_)
  refine T_callVI dX12_isEnough_12 ok_X12_weighs (by exact ⟨by decide, rfl⟩) lk_X12_252.1 lk_X12_252.2 (sk_94 hS (by decide)) (hV := ((fX12_weighs_c (hS.le (by decide)) h3).mono (by decide) (Nat.le_refl _) (Nat.le_refl _))) rfl (Nat.le_of_ble_eq_true rfl) rfl (Nat.le_of_ble_eq_true rfl) ?_
  refine V_icmp_le (tgt := 22) dX12_isEnough_15 (by decide) h (fun _ h => ?_) (fun _ h => ?_)
  · refine V_iconst dX12_isEnough_18 ?_
    refine V_goto (tgt := 23) dX12_isEnough_19 (by decide) ?_
    exact V_iretb (b := true) dX12_isEnough_23 rfl (by decide) (q_pB h)
  · refine V_iconst dX12_isEnough_22 ?_
    exact V_iretb (b := false) dX12_isEnough_23 rfl (by decide) (q_pB h)
def fX12_keeps_L98 (n : Nat) (M : xM) (v1 : Int) (v2 : Int) : Option (xM) := match n with
  | 0 => none
  | n + 1 => (if wr v2 < wr 10 then (xb (fX12_of0 M v2 3) fun r7 => xwt M 97 140 ((v1 + 3) + v2) r7 fun M8 => fX12_keeps_L98 n M8 v1 (v2 + 1)) else some M)
set_option maxRecDepth 20000 in
set_option maxHeartbeats 1000000 in
theorem fX12_keeps_L98_c {S : xS} {kp : Option Nat} (hS : xSk kp 98 S) {Q : Option xV → xS → xM → Prop} :
    ∀ (n : Nat) (M : xM) (v1 : Int) (v2 : Int) {Mz : xM}, fX12_keeps_L98 n M v1 v2 = some Mz → V Y_X12_keeps 1 0 0 126 [(0, vR (some 94))] [] S Mz Q → V Y_X12_keeps 1 0 0 98 [(0, vR (some 94)), (1, vI v1), (2, vI v2)] [] S M Q := by
  intro n
  induction n with
  | zero =>
    intro M v1 v2 Mz h k
    cases h
  | succ n ih =>
    intro M v1 v2 Mz h k
    rw [fX12_keeps_L98] at h
    refine V_iload_n dX12_keeps_98 rfl (xm 2 rfl) ?_
    refine V_bipush dX12_keeps_99 (by decide) ?_
    refine V_icmp_ge (tgt := 126) dX12_keeps_101 (by decide) h (fun _ h => ?_) (fun _ h => ?_)
    · refine V_aload_n dX12_keeps_104 rfl (xm 0 rfl) ?_
      refine V_getR dX12_keeps_105 fl_X12_16 (sk_94 hS (by decide)) rfl ?_
      refine V_iload_n dX12_keeps_108 rfl (xm 1 rfl) ?_
      refine V_iconst dX12_keeps_109 ?_
      refine V_iadd dX12_keeps_110 ?_
      refine V_iload_n dX12_keeps_111 rfl (xm 2 rfl) ?_
      refine V_iadd dX12_keeps_112 ?_
      refine V_aload_n dX12_keeps_113 rfl (xm 0 rfl) ?_
      refine V_iload_n dX12_keeps_114 rfl (xm 2 rfl) ?_
      refine V_iconst dX12_keeps_115 ?_
      refine xbE h (fun r7 h6 h => ?_)
      refine T_callVI dX12_keeps_116 ok_X12_of0 (by exact ⟨by decide, rfl⟩) lk_X12_212.1 lk_X12_212.2 (sk_94 hS (by decide)) (hV := ((fX12_of0_c (hS.le (by decide)) h6).mono (by decide) (Nat.le_refl _) (Nat.le_refl _))) rfl (Nat.le_of_ble_eq_true rfl) rfl (Nat.le_of_ble_eq_true rfl) ?_
      refine T_iast dX12_keeps_119 (sk_97 hS (by decide)) rfl h (fun M8 h => ?_)
      refine V_iinc (ls' := [(2, vI (v2 + 1)), (0, vR (some 94)), (1, vI v1)]) dX12_keeps_120 (xm 2 rfl) (by decide) rfl ?_
      refine V_goto (tgt := 98) dX12_keeps_123 (by decide) ?_
      refine V.pick [1, 2, 0] rfl ?_
      exact ih M8 v1 (v2 + 1) h k
    · cases h
      refine V.pick [0] rfl ?_
      exact k
theorem fX12_keeps_L98_ci {S : xS} {kp : Option Nat} (hS : xSk kp 98 S) {Q : Option xV → xS → xM → Prop} {n : Nat} {M : xM} {v1 : Int} {v2 : Int} {Mz : xM} (hl : fX12_keeps_L98 n M v1 v2 = some Mz) (k : V Y_X12_keeps 1 0 0 126 [(0, vR (some 94))] [] S Mz Q) : V Y_X12_keeps 1 0 0 98 [(0, vR (some 94)), (1, vI v1), (2, vI v2)] [] S M Q := fX12_keeps_L98_c hS _ _ _ _ hl k
def fX12_keeps_L11 (n : Nat) (M : xM) (v1 : Int) : Option (xM) := match n with
  | 0 => none
  | n + 1 => (if wr v1 < wr 126 then (xrd M 97 140 (v1 + 14) fun r12 => xwt M 97 140 v1 r12 fun M13 => fX12_keeps_L11 n M13 (v1 + 1)) else some M)
set_option maxRecDepth 20000 in
set_option maxHeartbeats 1000000 in
theorem fX12_keeps_L11_c {S : xS} {kp : Option Nat} (hS : xSk kp 98 S) {Q : Option xV → xS → xM → Prop} :
    ∀ (n : Nat) (M : xM) (v1 : Int) {Mz : xM}, fX12_keeps_L11 n M v1 = some Mz → V Y_X12_keeps 1 0 0 38 [(0, vR (some 94))] [] S Mz Q → V Y_X12_keeps 1 0 0 11 [(0, vR (some 94)), (1, vI v1)] [] S M Q := by
  intro n
  induction n with
  | zero =>
    intro M v1 Mz h k
    cases h
  | succ n ih =>
    intro M v1 Mz h k
    rw [fX12_keeps_L11] at h
    refine V_iload_n dX12_keeps_11 rfl (xm 1 rfl) ?_
    refine V_bipush dX12_keeps_12 (by decide) ?_
    refine V_icmp_ge (tgt := 38) dX12_keeps_14 (by decide) h (fun _ h => ?_) (fun _ h => ?_)
    · refine V_aload_n dX12_keeps_17 rfl (xm 0 rfl) ?_
      refine V_getR dX12_keeps_18 fl_X12_16 (sk_94 hS (by decide)) rfl ?_
      refine V_iload_n dX12_keeps_21 rfl (xm 1 rfl) ?_
      refine V_aload_n dX12_keeps_22 rfl (xm 0 rfl) ?_
      refine V_getR dX12_keeps_23 fl_X12_16 (sk_94 hS (by decide)) rfl ?_
      refine V_iload_n dX12_keeps_26 rfl (xm 1 rfl) ?_
      refine V_bipush dX12_keeps_27 (by decide) ?_
      refine V_iadd dX12_keeps_29 ?_
      refine T_iald dX12_keeps_30 (sk_97 hS (by decide)) rfl h (fun r12 h => ?_)
      refine T_iast dX12_keeps_31 (sk_97 hS (by decide)) rfl h (fun M13 h => ?_)
      refine V_iinc (ls' := [(1, vI (v1 + 1)), (0, vR (some 94))]) dX12_keeps_32 (xm 1 rfl) (by decide) rfl ?_
      refine V_goto (tgt := 11) dX12_keeps_35 (by decide) ?_
      refine V.pick [1, 0] rfl ?_
      exact ih M13 (v1 + 1) h k
    · cases h
      refine V.pick [0] rfl ?_
      exact k
theorem fX12_keeps_L11_ci {S : xS} {kp : Option Nat} (hS : xSk kp 98 S) {Q : Option xV → xS → xM → Prop} {n : Nat} {M : xM} {v1 : Int} {Mz : xM} (hl : fX12_keeps_L11 n M v1 = some Mz) (k : V Y_X12_keeps 1 0 0 38 [(0, vR (some 94))] [] S Mz Q) : V Y_X12_keeps 1 0 0 11 [(0, vR (some 94)), (1, vI v1)] [] S M Q := fX12_keeps_L11_c hS _ _ _ hl k
