def fX12_worthOf_L50 (n : Nat) (M : xM) (v2 : Int) (v4 : Int) (v5 : Int) (v6 : Int) (v7 : Int) (v8 : Int) : Option (xM) := match n with
  | 0 => none
  | n + 1 => (if wr v8 < wr 3 then (xrd M 95 5820 ((620 + (24 * ((12 * v8) + v6))) + v7) fun r8 => xwt M 102 8 (2 + v8) r8 fun M9 => fX12_worthOf_L50 n M9 v2 v4 v5 v6 v7 (v8 + 1)) else some M)
set_option maxRecDepth 20000 in
set_option maxHeartbeats 1000000 in
theorem fX12_worthOf_L50_c {S : xS} {kp : Option Nat} (hS : xSk kp 103 S) {Q : Option xV → xS → xM → Prop} :
    ∀ (n : Nat) (M : xM) (v2 : Int) (v4 : Int) (v5 : Int) (v6 : Int) (v7 : Int) (v8 : Int) {Mz : xM}, fX12_worthOf_L50 n M v2 v4 v5 v6 v7 v8 = some Mz → V Y_X12_worthOf 2 0 0 94 [(0, vR (some 94)), (2, vI v2), (4, vI v4), (5, vI v5), (6, vI v6)] [] S Mz Q → V Y_X12_worthOf 2 0 0 50 [(0, vR (some 94)), (2, vI v2), (4, vI v4), (5, vI v5), (6, vI v6), (7, vI v7), (8, vI v8)] [] S M Q := by
  intro n
  induction n with
  | zero =>
    intro M v2 v4 v5 v6 v7 v8 Mz h k
    cases h
  | succ n ih =>
    intro M v2 v4 v5 v6 v7 v8 Mz h k
    rw [fX12_worthOf_L50] at h
    refine V_iload dX12_worthOf_50 (xm 6 rfl) ?_
    refine V_iconst dX12_worthOf_52 ?_
    refine V_icmp_ge (tgt := 94) dX12_worthOf_53 (by decide) h (fun _ h => ?_) (fun _ h => ?_)
    · refine V_aload_n dX12_worthOf_56 rfl (xm 0 rfl) ?_
      refine V_getR dX12_worthOf_57 fl_X12_31 (sk_94 hS (by decide)) rfl ?_
      refine V_iconst dX12_worthOf_60 ?_
      refine V_iload dX12_worthOf_61 (xm 6 rfl) ?_
      refine V_iadd dX12_worthOf_63 ?_
      refine V_aload_n dX12_worthOf_64 rfl (xm 0 rfl) ?_
      refine V_getR dX12_worthOf_65 fl_X12_7 (sk_94 hS (by decide)) rfl ?_
      refine V_sipush dX12_worthOf_68 (by decide) ?_
      refine V_bipush dX12_worthOf_71 (by decide) ?_
      refine V_bipush dX12_worthOf_73 (by decide) ?_
      refine V_iload dX12_worthOf_75 (xm 6 rfl) ?_
      refine V_imul dX12_worthOf_77 ?_
      refine V_iload dX12_worthOf_78 (xm 4 rfl) ?_
      refine V_iadd dX12_worthOf_80 ?_
      refine V_imul dX12_worthOf_81 ?_
      refine V_iadd dX12_worthOf_82 ?_
      refine V_iload dX12_worthOf_83 (xm 5 rfl) ?_
      refine V_iadd dX12_worthOf_85 ?_
      refine T_iald dX12_worthOf_86 (sk_95 hS (by decide)) rfl h (fun r8 h => ?_)
      refine T_iast dX12_worthOf_87 (sk_102 hS (by decide)) rfl h (fun M9 h => ?_)
      refine V_iinc (ls' := [(8, vI (v8 + 1)), (0, vR (some 94)), (2, vI v2), (4, vI v4), (5, vI v5), (6, vI v6), (7, vI v7)]) dX12_worthOf_88 (xm 6 rfl) (by decide) rfl ?_
      refine V_goto (tgt := 50) dX12_worthOf_91 (by decide) ?_
      refine V.pick [1, 2, 3, 4, 5, 6, 0] rfl ?_
      exact ih M9 v2 v4 v5 v6 v7 (v8 + 1) h k
    · cases h
      refine V.pick [0, 1, 2, 3, 4] rfl ?_
      exact k
theorem fX12_worthOf_L50_ci {S : xS} {kp : Option Nat} (hS : xSk kp 103 S) {Q : Option xV → xS → xM → Prop} {n : Nat} {M : xM} {v2 : Int} {v4 : Int} {v5 : Int} {v6 : Int} {v7 : Int} {v8 : Int} {Mz : xM} (hl : fX12_worthOf_L50 n M v2 v4 v5 v6 v7 v8 = some Mz) (k : V Y_X12_worthOf 2 0 0 94 [(0, vR (some 94)), (2, vI v2), (4, vI v4), (5, vI v5), (6, vI v6)] [] S Mz Q) : V Y_X12_worthOf 2 0 0 50 [(0, vR (some 94)), (2, vI v2), (4, vI v4), (5, vI v5), (6, vI v6), (7, vI v7), (8, vI v8)] [] S M Q := fX12_worthOf_L50_c hS _ _ _ _ _ _ _ _ hl k
def fX12_worthOf_L133 (n : Nat) (M : xM) (v5 : Int) (v8 : Int) (v10 : Int) : Option (Int × xM) := match n with
  | 0 => none
  | n + 1 => xrd M 95 5820 (2320 + v5) fun r17 => (if wr v10 < wr r17 then (xrd M 95 5820 (2470 + ((16 * v5) + v10)) fun r18 => xrd M 95 5820 (2400 + ((16 * v5) + v10)) fun r19 => xj (fun (M20 : xM) => xrd M20 95 5820 (2330 + ((16 * v5) + v10)) fun r22 => xrd M20 95 5820 (2400 + ((16 * v5) + v10)) fun r23 => xb2 (fX12_comesTo M20 v5 r22 r23) fun r25 M26 => fX12_worthOf_L133 n M26 v5 (v8 + (wr r25)) (v10 + 1)) fun j21 => (if wr r18 = wr r19 then j21 M else (xrd M 95 5820 (2400 + ((16 * v5) + v10)) fun r27 => xrd M 95 5820 (2470 + ((16 * v5) + v10)) fun r28 => xb2 (fX12_comesTo M v5 r27 r28) fun r30 M31 => (if wr r30 = wr 1 then j21 M31 else fX12_worthOf_L133 n M31 v5 v8 (v10 + 1))))) else some (v8, M))
set_option maxRecDepth 20000 in
set_option maxHeartbeats 1000000 in
theorem fX12_worthOf_L133_c {S : xS} {kp : Option Nat} (hS : xSk kp 103 S) {Q : Option xV → xS → xM → Prop} :
    ∀ (n : Nat) (M : xM) (v5 : Int) (v8 : Int) (v10 : Int) {x8 : Int} {Mz : xM}, fX12_worthOf_L133 n M v5 v8 v10 = some (x8, Mz) → V Y_X12_worthOf 2 0 0 256 [(8, vL x8)] [] S Mz Q → V Y_X12_worthOf 2 0 0 133 [(0, vR (some 94)), (5, vI v5), (8, vL v8), (10, vI v10)] [] S M Q := by
  intro n
  induction n with
  | zero =>
    intro M v5 v8 v10 x8 Mz h k
    cases h
  | succ n ih =>
    intro M v5 v8 v10 x8 Mz h k
    rw [fX12_worthOf_L133] at h
    refine V_iload dX12_worthOf_133 (xm 3 rfl) ?_
    refine V_aload_n dX12_worthOf_135 rfl (xm 0 rfl) ?_
    refine V_getR dX12_worthOf_136 fl_X12_7 (sk_94 hS (by decide)) rfl ?_
    refine V_sipush dX12_worthOf_139 (by decide) ?_
    refine V_iload dX12_worthOf_142 (xm 1 rfl) ?_
    refine V_iadd dX12_worthOf_144 ?_
    refine T_iald dX12_worthOf_145 (sk_95 hS (by decide)) rfl h (fun r17 h => ?_)
    refine V_icmp_ge (tgt := 256) dX12_worthOf_146 (by decide) h (fun _ h => ?_) (fun _ h => ?_)
    · refine V_bipush dX12_worthOf_149 (by decide) ?_
      refine V_iload dX12_worthOf_151 (xm 1 rfl) ?_
      refine V_imul dX12_worthOf_153 ?_
      refine V_iload dX12_worthOf_154 (xm 3 rfl) ?_
      refine V_iadd dX12_worthOf_156 ?_
      refine V_istore (ls' := [(11, vI ((16 * v5) + v10)), (0, vR (some 94)), (5, vI v5), (8, vL v8), (10, vI v10)]) dX12_worthOf_157 (by decide) rfl ?_
      refine V_aload_n dX12_worthOf_159 rfl (xm 1 rfl) ?_
      refine V_getR dX12_worthOf_160 fl_X12_7 (sk_94 hS (by decide)) rfl ?_
      refine V_sipush dX12_worthOf_163 (by decide) ?_
      refine V_iload dX12_worthOf_166 (xm 0 rfl) ?_
      refine V_iadd dX12_worthOf_168 ?_
      refine T_iald dX12_worthOf_169 (sk_95 hS (by decide)) rfl h (fun r18 h => ?_)
      refine V_aload_n dX12_worthOf_170 rfl (xm 1 rfl) ?_
      refine V_getR dX12_worthOf_171 fl_X12_7 (sk_94 hS (by decide)) rfl ?_
      refine V_sipush dX12_worthOf_174 (by decide) ?_
      refine V_iload dX12_worthOf_177 (xm 0 rfl) ?_
      refine V_iadd dX12_worthOf_179 ?_
      refine T_iald dX12_worthOf_180 (sk_95 hS (by decide)) rfl h (fun r19 h => ?_)
      refine xjE h (fun j21 hj21 h => ?_)
      have kj21 : ∀ (M20 : xM), j21 M20 = some (x8, Mz) → V Y_X12_worthOf 2 0 0 216 [(0, vR (some 94)), (5, vI v5), (8, vL v8), (10, vI v10), (11, vI ((16 * v5) + v10))] [] S M20 Q := by
        intro M20 h
        rw [hj21] at h
        refine V_lload dX12_worthOf_216 (xm 2 rfl) ?_
        refine V_aload_n dX12_worthOf_218 rfl (xm 0 rfl) ?_
        refine V_iload dX12_worthOf_219 (xm 1 rfl) ?_
        refine V_aload_n dX12_worthOf_221 rfl (xm 0 rfl) ?_
        refine V_getR dX12_worthOf_222 fl_X12_7 (sk_94 hS (by decide)) rfl ?_
        refine V_sipush dX12_worthOf_225 (by decide) ?_
        refine V_iload dX12_worthOf_228 (xm 4 rfl) ?_
        refine V_iadd dX12_worthOf_230 ?_
        refine T_iald dX12_worthOf_231 (sk_95 hS (by decide)) rfl h (fun r22 h => ?_)
        refine V_aload_n dX12_worthOf_232 rfl (xm 0 rfl) ?_
        refine V_getR dX12_worthOf_233 fl_X12_7 (sk_94 hS (by decide)) rfl ?_
        refine V_sipush dX12_worthOf_236 (by decide) ?_
        refine V_iload dX12_worthOf_239 (xm 4 rfl) ?_
        refine V_iadd dX12_worthOf_241 ?_
        refine T_iald dX12_worthOf_242 (sk_95 hS (by decide)) rfl h (fun r23 h => ?_)
        refine xb2E h (fun r25 M26 h24 h => ?_)
        refine T_callVI dX12_worthOf_243 ok_X12_comesTo (by exact ⟨by decide, rfl⟩) lk_X12_219.1 lk_X12_219.2 (sk_94 hS (by decide)) (hV := ((fX12_comesTo_c (hS.le (by decide)) h24).mono (by decide) (Nat.le_refl _) (Nat.le_refl _))) rfl (Nat.le_of_ble_eq_true rfl) rfl (Nat.le_of_ble_eq_true rfl) ?_
        refine V_i2l dX12_worthOf_246 ?_
        refine V_ladd dX12_worthOf_247 ?_
        refine V_lstore (ls' := [(8, vL (v8 + (wr r25))), (0, vR (some 94)), (5, vI v5), (10, vI v10), (11, vI ((16 * v5) + v10))]) dX12_worthOf_248 (by decide) rfl ?_
        refine V_iinc (ls' := [(10, vI (v10 + 1)), (8, vL (v8 + (wr r25))), (0, vR (some 94)), (5, vI v5), (11, vI ((16 * v5) + v10))]) dX12_worthOf_250 (xm 3 rfl) (by decide) rfl ?_
        refine V_goto (tgt := 133) dX12_worthOf_253 (by decide) ?_
        refine V.pick [2, 3, 1, 0] rfl ?_
        exact ih M26 v5 (v8 + (wr r25)) (v10 + 1) h k
      refine V_icmp_eq (tgt := 216) dX12_worthOf_181 (by decide) h (fun _ h => ?_) (fun _ h => ?_)
      · refine V.pick [1, 2, 3, 4, 0] rfl ?_
        exact kj21 M h
      · refine V_aload_n dX12_worthOf_184 rfl (xm 1 rfl) ?_
        refine V_iload dX12_worthOf_185 (xm 2 rfl) ?_
        refine V_aload_n dX12_worthOf_187 rfl (xm 1 rfl) ?_
        refine V_getR dX12_worthOf_188 fl_X12_7 (sk_94 hS (by decide)) rfl ?_
        refine V_sipush dX12_worthOf_191 (by decide) ?_
        refine V_iload dX12_worthOf_194 (xm 0 rfl) ?_
        refine V_iadd dX12_worthOf_196 ?_
        refine T_iald dX12_worthOf_197 (sk_95 hS (by decide)) rfl h (fun r27 h => ?_)
        refine V_aload_n dX12_worthOf_198 rfl (xm 1 rfl) ?_
        refine V_getR dX12_worthOf_199 fl_X12_7 (sk_94 hS (by decide)) rfl ?_
        refine V_sipush dX12_worthOf_202 (by decide) ?_
        refine V_iload dX12_worthOf_205 (xm 0 rfl) ?_
        refine V_iadd dX12_worthOf_207 ?_
        refine T_iald dX12_worthOf_208 (sk_95 hS (by decide)) rfl h (fun r28 h => ?_)
        refine xb2E h (fun r30 M31 h29 h => ?_)
        refine T_callVI dX12_worthOf_209 ok_X12_comesTo (by exact ⟨by decide, rfl⟩) lk_X12_219.1 lk_X12_219.2 (sk_94 hS (by decide)) (hV := ((fX12_comesTo_c (hS.le (by decide)) h29).mono (by decide) (Nat.le_refl _) (Nat.le_refl _))) rfl (Nat.le_of_ble_eq_true rfl) rfl (Nat.le_of_ble_eq_true rfl) ?_
        refine V_iconst dX12_worthOf_212 ?_
        refine V_icmp_ne (tgt := 250) dX12_worthOf_213 (by decide) h (fun _ h => ?_) (fun _ h => ?_)
        · refine V.pick [1, 2, 3, 4, 0] rfl ?_
          exact kj21 M31 h
        · refine V_iinc (ls' := [(10, vI (v10 + 1)), (11, vI ((16 * v5) + v10)), (0, vR (some 94)), (5, vI v5), (8, vL v8)]) dX12_worthOf_250 (xm 4 rfl) (by decide) rfl ?_
          refine V_goto (tgt := 133) dX12_worthOf_253 (by decide) ?_
          refine V.pick [2, 3, 4, 0] rfl ?_
          exact ih M31 v5 v8 (v10 + 1) h k
    · cases h
      refine V.pick [2] rfl ?_
      exact k
theorem fX12_worthOf_L133_ci {S : xS} {kp : Option Nat} (hS : xSk kp 103 S) {Q : Option xV → xS → xM → Prop} {n : Nat} {M : xM} {v5 : Int} {v8 : Int} {v10 : Int} {x8 : Int} {Mz : xM} (hl : fX12_worthOf_L133 n M v5 v8 v10 = some (x8, Mz)) (k : V Y_X12_worthOf 2 0 0 256 [(8, vL x8)] [] S Mz Q) : V Y_X12_worthOf 2 0 0 133 [(0, vR (some 94)), (5, vI v5), (8, vL v8), (10, vI v10)] [] S M Q := fX12_worthOf_L133_c hS _ _ _ _ _ hl k
def fX12_worthOf (M : xM) (v1 : Int) (v2 : Int) (v3 : Int) (v4 : Int) : Option (Int × xM) := xb (fX12_of0 M v1 2) fun r2 => (if wr r2 = wr 4 then some (0, M) else (xb (fX12_of0 M v1 0) fun r4 => xb (fX12_modulo M (r4 + v3)) fun r6 => xlet (xup M 102 1 r6) fun M7 => xb (fX12_worthOf_L50 xfuel M7 v2 v4 r2 (xrem (xdiv v2 30) 12) r6 0) fun M10 => xlet (xup M10 102 5 (xrem (xdiv v2 30) 12)) fun M12 => xlet (xup M12 102 6 v2) fun M13 => xj (fun (s14 : Int) => xlet (xup M13 102 7 s14) fun M16 => xb2 (fX12_worthOf_L133 xfuel M16 r2 0 0) fun y32 M33 => (if wr (xlcmp y32 ((-9999))) < 0 then some ((-9999), M33) else (if 0 < wr (xlcmp y32 9999) then some (9999, M33) else some (y32, M33)))) fun j15 => (if wr v4 = 0 then j15 0 else j15 1)))
set_option maxRecDepth 20000 in
set_option maxHeartbeats 1000000 in
theorem fX12_worthOf_c {S : xS} {kp : Option Nat} (hS : xSk kp 103 S) {M : xM} {v1 : Int} {v2 : Int} {v3 : Int} {v4 : Int} {E : Int × xM} (h : fX12_worthOf M v1 v2 v3 v4 = some E) :
    V Y_X12_worthOf 2 0 0 0 (xarg 0 [vR (some 94), vI v1, vI v2, vI v3, vI v4]) [] S M (xqR S E.2 (some (vI E.1))) := by
  unfold fX12_worthOf at h
  show V Y_X12_worthOf 2 0 0 0 [(0, vR (some 94)), (1, vI v1), (2, vI v2), (3, vI v3), (4, vI v4)] [] S M _
  refine V_aload_n dX12_worthOf_0 rfl (xm 0 rfl) ?_
  refine V_iload_n dX12_worthOf_1 rfl (xm 1 rfl) ?_
  refine V_iconst dX12_worthOf_2 ?_
  refine xbE h (fun r2 h1 h => ?_)
  refine T_callVI dX12_worthOf_3 ok_X12_of0 (by exact ⟨by decide, rfl⟩) lk_X12_212.1 lk_X12_212.2 (sk_94 hS (by decide)) (hV := ((fX12_of0_c (hS.le (by decide)) h1).mono (by decide) (Nat.le_refl _) (Nat.le_refl _))) rfl (Nat.le_of_ble_eq_true rfl) rfl (Nat.le_of_ble_eq_true rfl) ?_
  refine V_istore (ls' := [(5, vI r2), (0, vR (some 94)), (1, vI v1), (2, vI v2), (3, vI v3), (4, vI v4)]) dX12_worthOf_6 (by decide) rfl ?_
  refine V_iload dX12_worthOf_8 (xm 0 rfl) ?_
  refine V_iconst dX12_worthOf_10 ?_
  refine V_icmp_ne (tgt := 16) dX12_worthOf_11 (by decide) h (fun _ h => ?_) (fun _ h => ?_)
  · refine V_iconst dX12_worthOf_14 ?_
    exact V_ireti dX12_worthOf_15 rfl (q_wI h)
  · refine V_iload_n dX12_worthOf_16 rfl (xm 3 rfl) ?_
    refine V_bipush dX12_worthOf_17 (by decide) ?_
    refine V_idivK dX12_worthOf_19 (by decide) ?_
    refine V_bipush dX12_worthOf_20 (by decide) ?_
    refine V_iremK dX12_worthOf_22 (by decide) ?_
    refine V_istore (ls' := [(6, vI (xrem (xdiv v2 30) 12)), (5, vI r2), (0, vR (some 94)), (1, vI v1), (2, vI v2), (3, vI v3), (4, vI v4)]) dX12_worthOf_23 (by decide) rfl ?_
    refine V_aload_n dX12_worthOf_25 rfl (xm 2 rfl) ?_
    refine V_aload_n dX12_worthOf_26 rfl (xm 2 rfl) ?_
    refine V_iload_n dX12_worthOf_27 rfl (xm 3 rfl) ?_
    refine V_iconst dX12_worthOf_28 ?_
    refine xbE h (fun r4 h3 h => ?_)
    refine T_callVI dX12_worthOf_29 ok_X12_of0 (by exact ⟨by decide, rfl⟩) lk_X12_212.1 lk_X12_212.2 (sk_94 hS (by decide)) (hV := ((fX12_of0_c (hS.le (by decide)) h3).mono (by decide) (Nat.le_refl _) (Nat.le_refl _))) rfl (Nat.le_of_ble_eq_true rfl) rfl (Nat.le_of_ble_eq_true rfl) ?_
    refine V_iload_n dX12_worthOf_32 rfl (xm 5 rfl) ?_
    refine V_iadd dX12_worthOf_33 ?_
    refine xbE h (fun r6 h5 h => ?_)
    refine T_callVI dX12_worthOf_34 ok_X12_modulo (by exact ⟨by decide, rfl⟩) lk_X12_216.1 lk_X12_216.2 (sk_94 hS (by decide)) (hV := ((fX12_modulo_c (hS.le (by decide)) h5).mono (by decide) (Nat.le_refl _) (Nat.le_refl _))) rfl (Nat.le_of_ble_eq_true rfl) rfl (Nat.le_of_ble_eq_true rfl) ?_
    refine V_istore (ls' := [(7, vI r6), (6, vI (xrem (xdiv v2 30) 12)), (5, vI r2), (0, vR (some 94)), (1, vI v1), (2, vI v2), (3, vI v3), (4, vI v4)]) dX12_worthOf_37 (by decide) rfl ?_
    refine V_aload_n dX12_worthOf_39 rfl (xm 3 rfl) ?_
    refine V_getR dX12_worthOf_40 fl_X12_31 (sk_94 hS (by decide)) rfl ?_
    refine V_iconst dX12_worthOf_43 ?_
    refine V_iload dX12_worthOf_44 (xm 0 rfl) ?_
    refine xletE h (fun M7 eM7 h => ?_)
    refine V_iastK (j := 1) dX12_worthOf_46 (sk_102 hS (by decide)) (by decide) (by decide) ?_
    rw [← eM7]
    refine V_iconst dX12_worthOf_47 ?_
    refine V_istore (ls' := [(8, vI 0), (7, vI r6), (6, vI (xrem (xdiv v2 30) 12)), (5, vI r2), (0, vR (some 94)), (1, vI v1), (2, vI v2), (3, vI v3), (4, vI v4)]) dX12_worthOf_48 (by decide) rfl ?_
    refine xbE h (fun M10 h11 h => ?_)
    refine V.pick [4, 6, 8, 3, 2, 1, 0] rfl ?_
    refine fX12_worthOf_L50_ci (hS.le (by decide)) h11 ?_
    refine V_aload_n dX12_worthOf_94 rfl (xm 0 rfl) ?_
    refine V_getR dX12_worthOf_95 fl_X12_31 (sk_94 hS (by decide)) rfl ?_
    refine V_iconst dX12_worthOf_98 ?_
    refine V_iload dX12_worthOf_99 (xm 4 rfl) ?_
    refine xletE h (fun M12 eM12 h => ?_)
    refine V_iastK (j := 5) dX12_worthOf_101 (sk_102 hS (by decide)) (by decide) (by decide) ?_
    rw [← eM12]
    refine V_aload_n dX12_worthOf_102 rfl (xm 0 rfl) ?_
    refine V_getR dX12_worthOf_103 fl_X12_31 (sk_94 hS (by decide)) rfl ?_
    refine V_bipush dX12_worthOf_106 (by decide) ?_
    refine V_iload_n dX12_worthOf_108 rfl (xm 1 rfl) ?_
    refine xletE h (fun M13 eM13 h => ?_)
    refine V_iastK (j := 6) dX12_worthOf_109 (sk_102 hS (by decide)) (by decide) (by decide) ?_
    rw [← eM13]
    refine V_aload_n dX12_worthOf_110 rfl (xm 0 rfl) ?_
    refine V_getR dX12_worthOf_111 fl_X12_31 (sk_94 hS (by decide)) rfl ?_
    refine V_bipush dX12_worthOf_114 (by decide) ?_
    refine V_iload dX12_worthOf_116 (xm 2 rfl) ?_
    refine xjE h (fun j15 hj15 h => ?_)
    have kj15 : ∀ (s14 : Int), j15 s14 = some E → V Y_X12_worthOf 2 0 0 126 [(0, vR (some 94)), (5, vI r2)] [vI s14, vI 7, vR (some 102)] S M13 (xqR S E.2 (some (vI E.1))) := by
      intro s14 h
      rw [hj15] at h
      refine xletE h (fun M16 eM16 h => ?_)
      refine V_iastK (j := 7) dX12_worthOf_126 (sk_102 hS (by decide)) (by decide) (by decide) ?_
      rw [← eM16]
      refine V_lconst (x := 0) dX12_worthOf_127 (by decide) ?_
      refine V_lstore (ls' := [(8, vL 0), (0, vR (some 94)), (5, vI r2)]) dX12_worthOf_128 (by decide) rfl ?_
      refine V_iconst dX12_worthOf_130 ?_
      refine V_istore (ls' := [(10, vI 0), (8, vL 0), (0, vR (some 94)), (5, vI r2)]) dX12_worthOf_131 (by decide) rfl ?_
      refine xb2E h (fun y32 M33 h34 h => ?_)
      refine V.pick [2, 3, 1, 0] rfl ?_
      refine fX12_worthOf_L133_ci (hS.le (by decide)) h34 ?_
      refine V_lload dX12_worthOf_256 (xm 0 rfl) ?_
      refine V_ldc2 (n := (-9999)) dX12_worthOf_258 (xsg6 209 rfl rfl : Cond.constantLong RX12 222 (-9999) ∈ xT) (by decide) ?_
      refine V_lcmp dX12_worthOf_261 ?_
      refine V_if_ge (tgt := 271) dX12_worthOf_262 (by decide) h (fun _ h => ?_) (fun _ h => ?_)
      · refine V_ldc2 (n := (-9999)) dX12_worthOf_265 (xsg6 209 rfl rfl : Cond.constantLong RX12 222 (-9999) ∈ xT) (by decide) ?_
        refine V_goto (tgt := 288) dX12_worthOf_268 (by decide) ?_
        refine V_l2i dX12_worthOf_288 ?_
        exact V_ireti dX12_worthOf_289 rfl (q_wI h)
      · refine V_lload dX12_worthOf_271 (xm 0 rfl) ?_
        refine V_ldc2 (n := 9999) dX12_worthOf_273 (xsg6 210 rfl rfl : Cond.constantLong RX12 224 9999 ∈ xT) (by decide) ?_
        refine V_lcmp dX12_worthOf_276 ?_
        refine V_if_le (tgt := 286) dX12_worthOf_277 (by decide) h (fun _ h => ?_) (fun _ h => ?_)
        · refine V_ldc2 (n := 9999) dX12_worthOf_280 (xsg6 210 rfl rfl : Cond.constantLong RX12 224 9999 ∈ xT) (by decide) ?_
          refine V_goto (tgt := 288) dX12_worthOf_283 (by decide) ?_
          refine V_l2i dX12_worthOf_288 ?_
          exact V_ireti dX12_worthOf_289 rfl (q_wI h)
        · refine V_lload dX12_worthOf_286 (xm 0 rfl) ?_
          refine V_l2i dX12_worthOf_288 ?_
          exact V_ireti dX12_worthOf_289 rfl (q_wI h)
    refine V_if_ne (tgt := 125) dX12_worthOf_118 (by decide) h (fun _ h => ?_) (fun _ h => ?_)
    · refine V_iconst dX12_worthOf_121 ?_
      refine V_goto (tgt := 126) dX12_worthOf_122 (by decide) ?_
      refine V.pick [0, 3] rfl ?_
      exact kj15 0 h
    · refine V_iconst dX12_worthOf_125 ?_
      refine V.pick [0, 3] rfl ?_
      exact kj15 1 h
def fX12_worth (M : xM) (v1 : Int) (v2 : Int) (v3 : Int) (v4 : Int) : Option (Int × xM) := (if (fX12_isPlot M v1) = true then (if (fX12_isDay v2) = true then (if (fX12_isAngle M v3) = true then (if (fX12_isIn v4 ((-1)) 1) = true then (xb2 (fX12_worthOf M v1 v2 v3 v4) fun r2 M3 => some (r2, M3)) else some ((-100000), M)) else some ((-100000), M)) else some ((-100000), M)) else some ((-100000), M))
set_option maxRecDepth 20000 in
set_option maxHeartbeats 1000000 in
theorem fX12_worth_c {S : xS} {kp : Option Nat} (hS : xSk kp 103 S) {M : xM} {v1 : Int} {v2 : Int} {v3 : Int} {v4 : Int} {E : Int × xM} (h : fX12_worth M v1 v2 v3 v4 = some E) :
    V Y_X12_worth 3 0 0 0 (xarg 0 [vR (some 94), vI v1, vI v2, vI v3, vI v4]) [] S M (xqR S E.2 (some (vI E.1))) := by
  unfold fX12_worth at h
  show V Y_X12_worth 3 0 0 0 [(0, vR (some 94)), (1, vI v1), (2, vI v2), (3, vI v3), (4, vI v4)] [] S M _
  refine V_aload_n dX12_worth_0 rfl (xm 0 rfl) ?_
  refine V_iload_n dX12_worth_1 rfl (xm 1 rfl) ?_
  refine T_callVI dX12_worth_2 ok_X12_isPlot (by exact ⟨by decide, rfl⟩) lk_X12_226.1 lk_X12_226.2 (sk_94 hS (by decide)) (hV := ((fX12_isPlot_c (hS.le (by decide)) rfl).mono (by decide) (Nat.le_refl _) (Nat.le_refl _))) rfl (Nat.le_of_ble_eq_true rfl) rfl (Nat.le_of_ble_eq_true rfl) ?_
  refine V_if_eqB (tgt := 45) dX12_worth_5 (by decide) h (fun _ h => ?_) (fun _ h => ?_)
  · refine V_iload_n dX12_worth_8 rfl (xm 2 rfl) ?_
    refine T_callSI (host := "") dX12_worth_9 ok_X12_isDay lk_X12_229.1 lk_X12_229.2 (hV := ((fX12_isDay_c (hS.le (by decide)) rfl).mono (by decide) (Nat.le_refl _) (Nat.le_refl _))) rfl (Nat.le_of_ble_eq_true rfl) rfl (Nat.le_of_ble_eq_true rfl) ?_
    refine V_if_eqB (tgt := 45) dX12_worth_12 (by decide) h (fun _ h => ?_) (fun _ h => ?_)
    · refine V_aload_n dX12_worth_15 rfl (xm 0 rfl) ?_
      refine V_iload_n dX12_worth_16 rfl (xm 3 rfl) ?_
      refine T_callVI dX12_worth_17 ok_X12_isAngle (by exact ⟨by decide, rfl⟩) lk_X12_74.1 lk_X12_74.2 (sk_94 hS (by decide)) (hV := ((fX12_isAngle_c (hS.le (by decide)) rfl).mono (by decide) (Nat.le_refl _) (Nat.le_refl _))) rfl (Nat.le_of_ble_eq_true rfl) rfl (Nat.le_of_ble_eq_true rfl) ?_
      refine V_if_eqB (tgt := 45) dX12_worth_20 (by decide) h (fun _ h => ?_) (fun _ h => ?_)
      · refine V_iload dX12_worth_23 (xm 4 rfl) ?_
        refine V_iconst dX12_worth_25 ?_
        refine V_iconst dX12_worth_26 ?_
        refine T_callSI (host := "") dX12_worth_27 ok_X12_isIn lk_X12_70.1 lk_X12_70.2 (hV := ((fX12_isIn_c (hS.le (by decide)) rfl).mono (by decide) (Nat.le_refl _) (Nat.le_refl _))) rfl (Nat.le_of_ble_eq_true rfl) rfl (Nat.le_of_ble_eq_true rfl) ?_
        refine V_if_eqB (tgt := 45) dX12_worth_30 (by decide) h (fun _ h => ?_) (fun _ h => ?_)
        · refine V_aload_n dX12_worth_33 rfl (xm 0 rfl) ?_
          refine V_iload_n dX12_worth_34 rfl (xm 1 rfl) ?_
          refine V_iload_n dX12_worth_35 rfl (xm 2 rfl) ?_
          refine V_iload_n dX12_worth_36 rfl (xm 3 rfl) ?_
          refine V_iload dX12_worth_37 (xm 4 rfl) ?_
          refine xb2E h (fun r2 M3 h1 h => ?_)
          refine T_callVI dX12_worth_39 ok_X12_worthOf (by exact ⟨by decide, rfl⟩) lk_X12_232.1 lk_X12_232.2 (sk_94 hS (by decide)) (hV := ((fX12_worthOf_c (hS.le (by decide)) h1).mono (by decide) (Nat.le_refl _) (Nat.le_refl _))) rfl (Nat.le_of_ble_eq_true rfl) rfl (Nat.le_of_ble_eq_true rfl) ?_
          refine V_goto (tgt := 47) dX12_worth_42 (by decide) ?_
          exact V_ireti dX12_worth_47 rfl (q_wI h)
        · refine V_ldc (n := (-100000)) dX12_worth_45 (xsg6 211 rfl rfl : Cond.constant RX12 236 (-100000) ∈ xT) (by decide) ?_
          exact V_ireti dX12_worth_47 rfl (q_wI h)
      · refine V_ldc (n := (-100000)) dX12_worth_45 (xsg6 211 rfl rfl : Cond.constant RX12 236 (-100000) ∈ xT) (by decide) ?_
        exact V_ireti dX12_worth_47 rfl (q_wI h)
    · refine V_ldc (n := (-100000)) dX12_worth_45 (xsg6 211 rfl rfl : Cond.constant RX12 236 (-100000) ∈ xT) (by decide) ?_
      exact V_ireti dX12_worth_47 rfl (q_wI h)
  · refine V_ldc (n := (-100000)) dX12_worth_45 (xsg6 211 rfl rfl : Cond.constant RX12 236 (-100000) ∈ xT) (by decide) ?_
    exact V_ireti dX12_worth_47 rfl (q_wI h)
def fX12_saleOf_L2 (n : Nat) (M : xM) (v1 : Int) (v2 : Int) (v3 : Int) : Option ((Unit) ⊕ (Int)) := match n with
  | 0 => none
  | n + 1 => (if wr v3 < wr (M 95 6) then (xrd M 95 5820 (130 + (4 * v3)) fun r1 => (if wr r1 = wr v1 then (xrd M 95 5820 ((130 + (4 * v3)) + 2) fun r2 => xrd M 95 5820 ((130 + (4 * v3)) + 3) fun r3 => (if (fX12_isIn v2 r2 r3) = true then some (.inr v3) else fX12_saleOf_L2 n M v1 v2 (v3 + 1))) else fX12_saleOf_L2 n M v1 v2 (v3 + 1))) else some (.inl ()))
set_option maxRecDepth 20000 in
set_option maxHeartbeats 1000000 in
theorem fX12_saleOf_L2_c {S : xS} {kp : Option Nat} (hS : xSk kp 96 S) {Q : Option xV → xS → xM → Prop} :
    ∀ (n : Nat) (M : xM) (v1 : Int) (v2 : Int) (v3 : Int) {E : (Unit) ⊕ (Int)}, fX12_saleOf_L2 n M v1 v2 v3 = some E → (E = .inl () → V Y_X12_saleOf 1 0 0 66 [] [] S M Q) → (∀ (w : Int), E = .inr w → Q (some (vI w)) S M) → V Y_X12_saleOf 1 0 0 2 [(0, vR (some 94)), (1, vI v1), (2, vI v2), (3, vI v3)] [] S M Q := by
  intro n
  induction n with
  | zero =>
    intro M v1 v2 v3 E h k kr
    cases h
  | succ n ih =>
    intro M v1 v2 v3 E h k kr
    rw [fX12_saleOf_L2] at h
    refine V_iload_n dX12_saleOf_2 rfl (xm 3 rfl) ?_
    refine V_aload_n dX12_saleOf_3 rfl (xm 0 rfl) ?_
    refine V_getR dX12_saleOf_4 fl_X12_7 (sk_94 hS (by decide)) rfl ?_
    refine V_bipush dX12_saleOf_7 (by decide) ?_
    refine V_ialdK (j := 6) dX12_saleOf_9 (sk_95 hS (by decide)) (by decide) (by decide) ?_
    refine V_icmp_ge (tgt := 66) dX12_saleOf_10 (by decide) h (fun _ h => ?_) (fun _ h => ?_)
    · refine V_sipush dX12_saleOf_13 (by decide) ?_
      refine V_iconst dX12_saleOf_16 ?_
      refine V_iload_n dX12_saleOf_17 rfl (xm 3 rfl) ?_
      refine V_imul dX12_saleOf_18 ?_
      refine V_iadd dX12_saleOf_19 ?_
      refine V_istore (ls' := [(4, vI (130 + (4 * v3))), (0, vR (some 94)), (1, vI v1), (2, vI v2), (3, vI v3)]) dX12_saleOf_20 (by decide) rfl ?_
      refine V_aload_n dX12_saleOf_22 rfl (xm 1 rfl) ?_
      refine V_getR dX12_saleOf_23 fl_X12_7 (sk_94 hS (by decide)) rfl ?_
      refine V_iload dX12_saleOf_26 (xm 0 rfl) ?_
      refine T_iald dX12_saleOf_28 (sk_95 hS (by decide)) rfl h (fun r1 h => ?_)
      refine V_iload_n dX12_saleOf_29 rfl (xm 2 rfl) ?_
      refine V_icmp_ne (tgt := 60) dX12_saleOf_30 (by decide) h (fun _ h => ?_) (fun _ h => ?_)
      · refine V_iload_n dX12_saleOf_33 rfl (xm 3 rfl) ?_
        refine V_aload_n dX12_saleOf_34 rfl (xm 1 rfl) ?_
        refine V_getR dX12_saleOf_35 fl_X12_7 (sk_94 hS (by decide)) rfl ?_
        refine V_iload dX12_saleOf_38 (xm 0 rfl) ?_
        refine V_iconst dX12_saleOf_40 ?_
        refine V_iadd dX12_saleOf_41 ?_
        refine T_iald dX12_saleOf_42 (sk_95 hS (by decide)) rfl h (fun r2 h => ?_)
        refine V_aload_n dX12_saleOf_43 rfl (xm 1 rfl) ?_
        refine V_getR dX12_saleOf_44 fl_X12_7 (sk_94 hS (by decide)) rfl ?_
        refine V_iload dX12_saleOf_47 (xm 0 rfl) ?_
        refine V_iconst dX12_saleOf_49 ?_
        refine V_iadd dX12_saleOf_50 ?_
        refine T_iald dX12_saleOf_51 (sk_95 hS (by decide)) rfl h (fun r3 h => ?_)
        refine T_callSI (host := "") dX12_saleOf_52 ok_X12_isIn lk_X12_70.1 lk_X12_70.2 (hV := ((fX12_isIn_c (hS.le (by decide)) rfl).mono (by decide) (Nat.le_refl _) (Nat.le_refl _))) rfl (Nat.le_of_ble_eq_true rfl) rfl (Nat.le_of_ble_eq_true rfl) ?_
        refine V_if_eqB (tgt := 60) dX12_saleOf_55 (by decide) h (fun _ h => ?_) (fun _ h => ?_)
        · refine V_iload_n dX12_saleOf_58 rfl (xm 4 rfl) ?_
          exact V_ireti dX12_saleOf_59 rfl (kr v3 (Option.some.inj h).symm)
        · refine V_iinc (ls' := [(3, vI (v3 + 1)), (4, vI (130 + (4 * v3))), (0, vR (some 94)), (1, vI v1), (2, vI v2)]) dX12_saleOf_60 (xm 4 rfl) (by decide) rfl ?_
          refine V_goto (tgt := 2) dX12_saleOf_63 (by decide) ?_
          refine V.pick [2, 3, 4, 0] rfl ?_
          exact ih M v1 v2 (v3 + 1) h k kr
      · refine V_iinc (ls' := [(3, vI (v3 + 1)), (4, vI (130 + (4 * v3))), (0, vR (some 94)), (1, vI v1), (2, vI v2)]) dX12_saleOf_60 (xm 4 rfl) (by decide) rfl ?_
        refine V_goto (tgt := 2) dX12_saleOf_63 (by decide) ?_
        refine V.pick [2, 3, 4, 0] rfl ?_
        exact ih M v1 v2 (v3 + 1) h k kr
    · refine V.pick [] rfl ?_
      exact k  (Option.some.inj h).symm
theorem fX12_saleOf_L2_ci {S : xS} {kp : Option Nat} (hS : xSk kp 96 S) {Q : Option xV → xS → xM → Prop} {n : Nat} {M : xM} {v1 : Int} {v2 : Int} {v3 : Int} (hl : fX12_saleOf_L2 n M v1 v2 v3 = some (.inl ())) (k : V Y_X12_saleOf 1 0 0 66 [] [] S M Q) : V Y_X12_saleOf 1 0 0 2 [(0, vR (some 94)), (1, vI v1), (2, vI v2), (3, vI v3)] [] S M Q := fX12_saleOf_L2_c hS _ _ _ _ _ hl (fun  e => by cases e; exact k) (fun _ e => by cases e)
theorem fX12_saleOf_L2_cr {S : xS} {kp : Option Nat} (hS : xSk kp 96 S) {Q : Option xV → xS → xM → Prop} {n : Nat} {M : xM} {v1 : Int} {v2 : Int} {v3 : Int} {w : Int} (hl : fX12_saleOf_L2 n M v1 v2 v3 = some (.inr w)) (k : Q (some (vI w)) S M) : V Y_X12_saleOf 1 0 0 2 [(0, vR (some 94)), (1, vI v1), (2, vI v2), (3, vI v3)] [] S M Q := fX12_saleOf_L2_c hS _ _ _ _ _ hl (fun  e => by cases e) (fun _ e => by cases e; exact k)
def fX12_saleOf (M : xM) (v1 : Int) (v2 : Int) : Option Int := xs0 (fX12_saleOf_L2 xfuel M v1 v2 0) (some ((-1))) (fun r => some r)
set_option maxRecDepth 20000 in
set_option maxHeartbeats 1000000 in
theorem fX12_saleOf_c {S : xS} {kp : Option Nat} (hS : xSk kp 96 S) {M : xM} {v1 : Int} {v2 : Int} {E : Int} (h : fX12_saleOf M v1 v2 = some E) :
    V Y_X12_saleOf 1 0 0 0 (xarg 0 [vR (some 94), vI v1, vI v2]) [] S M (xqR S M (some (vI E))) := by
  unfold fX12_saleOf at h
  show V Y_X12_saleOf 1 0 0 0 [(0, vR (some 94)), (1, vI v1), (2, vI v2)] [] S M _
  refine V_iconst dX12_saleOf_0 ?_
  refine V_istore_n (ls' := [(3, vI 0), (0, vR (some 94)), (1, vI v1), (2, vI v2)]) dX12_saleOf_1 rfl (by decide) rfl ?_
  refine xs0E h (fun  h4 h => ?_) (fun r h4 h => ?_)
  · refine V.pick [1, 2, 3, 0] rfl ?_
    refine fX12_saleOf_L2_ci (hS.le (by decide)) h4 ?_
    refine V_iconst dX12_saleOf_66 ?_
    exact V_ireti dX12_saleOf_67 rfl (q_pI h)
  · refine V.pick [1, 2, 3, 0] rfl ?_
    refine fX12_saleOf_L2_cr (hS.le (by decide)) h4 ?_
    exact q_pI h
def fX12_holderOf (M : xM) (v1 : Int) (v2 : Int) : Option Int := xb (fX12_saleOf M v1 v2) fun r2 => (if wr r2 = wr ((-1)) then some v1 else (xrd M 95 5820 ((130 + (4 * r2)) + 1) fun r3 => some r3))
set_option maxRecDepth 20000 in
set_option maxHeartbeats 1000000 in
theorem fX12_holderOf_c {S : xS} {kp : Option Nat} (hS : xSk kp 96 S) {M : xM} {v1 : Int} {v2 : Int} {E : Int} (h : fX12_holderOf M v1 v2 = some E) :
    V Y_X12_holderOf 2 0 0 0 (xarg 0 [vR (some 94), vI v1, vI v2]) [] S M (xqR S M (some (vI E))) := by
  unfold fX12_holderOf at h
  show V Y_X12_holderOf 2 0 0 0 [(0, vR (some 94)), (1, vI v1), (2, vI v2)] [] S M _
  refine V_aload_n dX12_holderOf_0 rfl (xm 0 rfl) ?_
  refine V_iload_n dX12_holderOf_1 rfl (xm 1 rfl) ?_
  refine V_iload_n dX12_holderOf_2 rfl (xm 2 rfl) ?_
  refine xbE h (fun r2 h1 h => ?_)
  refine T_callVI dX12_holderOf_3 ok_X12_saleOf (by exact ⟨by decide, rfl⟩) lk_X12_237.1 lk_X12_237.2 (sk_94 hS (by decide)) (hV := ((fX12_saleOf_c (hS.le (by decide)) h1).mono (by decide) (Nat.le_refl _) (Nat.le_refl _))) rfl (Nat.le_of_ble_eq_true rfl) rfl (Nat.le_of_ble_eq_true rfl) ?_
  refine V_istore_n (ls' := [(3, vI r2), (0, vR (some 94)), (1, vI v1), (2, vI v2)]) dX12_holderOf_6 rfl (by decide) rfl ?_
  refine V_iload_n dX12_holderOf_7 rfl (xm 0 rfl) ?_
  refine V_iconst dX12_holderOf_8 ?_
  refine V_icmp_ne (tgt := 16) dX12_holderOf_9 (by decide) h (fun _ h => ?_) (fun _ h => ?_)
  · refine V_iload_n dX12_holderOf_12 rfl (xm 2 rfl) ?_
    refine V_goto (tgt := 30) dX12_holderOf_13 (by decide) ?_
    exact V_ireti dX12_holderOf_30 rfl (q_pI h)
  · refine V_aload_n dX12_holderOf_16 rfl (xm 1 rfl) ?_
    refine V_getR dX12_holderOf_17 fl_X12_7 (sk_94 hS (by decide)) rfl ?_
    refine V_sipush dX12_holderOf_20 (by decide) ?_
    refine V_iconst dX12_holderOf_23 ?_
    refine V_iload_n dX12_holderOf_24 rfl (xm 0 rfl) ?_
    refine V_imul dX12_holderOf_25 ?_
    refine V_iadd dX12_holderOf_26 ?_
    refine V_iconst dX12_holderOf_27 ?_
    refine V_iadd dX12_holderOf_28 ?_
    refine T_iald dX12_holderOf_29 (sk_95 hS (by decide)) rfl h (fun r3 h => ?_)
    exact V_ireti dX12_holderOf_30 rfl (q_pI h)
def fX12_holder (M : xM) (v1 : Int) (v2 : Int) : Option Int := (if (fX12_isPlot M v1) = true then (if (fX12_isDay v2) = true then (xb (fX12_holderOf M v1 v2) fun r2 => some r2) else some ((-1))) else some ((-1)))
set_option maxRecDepth 20000 in
set_option maxHeartbeats 1000000 in
theorem fX12_holder_c {S : xS} {kp : Option Nat} (hS : xSk kp 96 S) {M : xM} {v1 : Int} {v2 : Int} {E : Int} (h : fX12_holder M v1 v2 = some E) :
    V Y_X12_holder 3 0 0 0 (xarg 0 [vR (some 94), vI v1, vI v2]) [] S M (xqR S M (some (vI E))) := by
  unfold fX12_holder at h
  show V Y_X12_holder 3 0 0 0 [(0, vR (some 94)), (1, vI v1), (2, vI v2)] [] S M _
  refine V_aload_n dX12_holder_0 rfl (xm 0 rfl) ?_
  refine V_iload_n dX12_holder_1 rfl (xm 1 rfl) ?_
  refine T_callVI dX12_holder_2 ok_X12_isPlot (by exact ⟨by decide, rfl⟩) lk_X12_226.1 lk_X12_226.2 (sk_94 hS (by decide)) (hV := ((fX12_isPlot_c (hS.le (by decide)) rfl).mono (by decide) (Nat.le_refl _) (Nat.le_refl _))) rfl (Nat.le_of_ble_eq_true rfl) rfl (Nat.le_of_ble_eq_true rfl) ?_
  refine V_if_eqB (tgt := 24) dX12_holder_5 (by decide) h (fun _ h => ?_) (fun _ h => ?_)
  · refine V_iload_n dX12_holder_8 rfl (xm 2 rfl) ?_
    refine T_callSI (host := "") dX12_holder_9 ok_X12_isDay lk_X12_229.1 lk_X12_229.2 (hV := ((fX12_isDay_c (hS.le (by decide)) rfl).mono (by decide) (Nat.le_refl _) (Nat.le_refl _))) rfl (Nat.le_of_ble_eq_true rfl) rfl (Nat.le_of_ble_eq_true rfl) ?_
    refine V_if_eqB (tgt := 24) dX12_holder_12 (by decide) h (fun _ h => ?_) (fun _ h => ?_)
    · refine V_aload_n dX12_holder_15 rfl (xm 0 rfl) ?_
      refine V_iload_n dX12_holder_16 rfl (xm 1 rfl) ?_
      refine V_iload_n dX12_holder_17 rfl (xm 2 rfl) ?_
      refine xbE h (fun r2 h1 h => ?_)
      refine T_callVI dX12_holder_18 ok_X12_holderOf (by exact ⟨by decide, rfl⟩) lk_X12_240.1 lk_X12_240.2 (sk_94 hS (by decide)) (hV := ((fX12_holderOf_c (hS.le (by decide)) h1).mono (by decide) (Nat.le_refl _) (Nat.le_refl _))) rfl (Nat.le_of_ble_eq_true rfl) rfl (Nat.le_of_ble_eq_true rfl) ?_
      refine V_goto (tgt := 25) dX12_holder_21 (by decide) ?_
      exact V_ireti dX12_holder_25 rfl (q_pI h)
    · refine V_iconst dX12_holder_24 ?_
      exact V_ireti dX12_holder_25 rfl (q_pI h)
  · refine V_iconst dX12_holder_24 ?_
    exact V_ireti dX12_holder_25 rfl (q_pI h)
def fX12_sell_L73 (n : Nat) (M : xM) (v1 : Int) (v2 : Int) (v3 : Int) (v4 : Int) (v5 : Int) (v6 : Int) : Option ((Unit) ⊕ (Bool)) := match n with
  | 0 => none
  | n + 1 => (if wr v6 < wr (M 95 6) then (xrd M 95 5820 (130 + (4 * v6)) fun r1 => (if wr r1 = wr v1 then (xrd M 95 5820 ((130 + (4 * v6)) + 2) fun r2 => (if wr v4 < wr r2 then fX12_sell_L73 n M v1 v2 v3 v4 v5 (v6 + 1) else (xrd M 95 5820 ((130 + (4 * v6)) + 3) fun r3 => (if wr r3 < wr v3 then fX12_sell_L73 n M v1 v2 v3 v4 v5 (v6 + 1) else some (.inr false))))) else fX12_sell_L73 n M v1 v2 v3 v4 v5 (v6 + 1))) else some (.inl ()))
set_option maxRecDepth 20000 in
set_option maxHeartbeats 1000000 in
theorem fX12_sell_L73_c {S : xS} {kp : Option Nat} (hS : xSk kp 96 S) {Q : Option xV → xS → xM → Prop} :
    ∀ (n : Nat) (M : xM) (v1 : Int) (v2 : Int) (v3 : Int) (v4 : Int) (v5 : Int) (v6 : Int) {E : (Unit) ⊕ (Bool)}, fX12_sell_L73 n M v1 v2 v3 v4 v5 v6 = some E → (E = .inl () → V Y_X12_sell 2 0 0 149 [(0, vR (some 94)), (1, vI v1), (2, vI v2), (3, vI v3), (4, vI v4), (5, vI v5)] [] S M Q) → (∀ (w : Bool), E = .inr w → Q (some (vI (b2i w))) S M) → V Y_X12_sell 2 0 0 73 [(0, vR (some 94)), (1, vI v1), (2, vI v2), (3, vI v3), (4, vI v4), (5, vI v5), (6, vI v6)] [] S M Q := by
  intro n
  induction n with
  | zero =>
    intro M v1 v2 v3 v4 v5 v6 E h k kr
    cases h
  | succ n ih =>
    intro M v1 v2 v3 v4 v5 v6 E h k kr
    rw [fX12_sell_L73] at h
    refine V_iload dX12_sell_73 (xm 6 rfl) ?_
    refine V_aload_n dX12_sell_75 rfl (xm 0 rfl) ?_
    refine V_getR dX12_sell_76 fl_X12_7 (sk_94 hS (by decide)) rfl ?_
    refine V_bipush dX12_sell_79 (by decide) ?_
    refine V_ialdK (j := 6) dX12_sell_81 (sk_95 hS (by decide)) (by decide) (by decide) ?_
    refine V_icmp_ge (tgt := 149) dX12_sell_82 (by decide) h (fun _ h => ?_) (fun _ h => ?_)
    · refine V_aload_n dX12_sell_85 rfl (xm 0 rfl) ?_
      refine V_getR dX12_sell_86 fl_X12_7 (sk_94 hS (by decide)) rfl ?_
      refine V_sipush dX12_sell_89 (by decide) ?_
      refine V_iconst dX12_sell_92 ?_
      refine V_iload dX12_sell_93 (xm 6 rfl) ?_
      refine V_imul dX12_sell_95 ?_
      refine V_iadd dX12_sell_96 ?_
      refine T_iald dX12_sell_97 (sk_95 hS (by decide)) rfl h (fun r1 h => ?_)
      refine V_iload_n dX12_sell_98 rfl (xm 1 rfl) ?_
      refine V_icmp_ne (tgt := 143) dX12_sell_99 (by decide) h (fun _ h => ?_) (fun _ h => ?_)
      · refine V_aload_n dX12_sell_102 rfl (xm 0 rfl) ?_
        refine V_getR dX12_sell_103 fl_X12_7 (sk_94 hS (by decide)) rfl ?_
        refine V_sipush dX12_sell_106 (by decide) ?_
        refine V_iconst dX12_sell_109 ?_
        refine V_iload dX12_sell_110 (xm 6 rfl) ?_
        refine V_imul dX12_sell_112 ?_
        refine V_iadd dX12_sell_113 ?_
        refine V_iconst dX12_sell_114 ?_
        refine V_iadd dX12_sell_115 ?_
        refine T_iald dX12_sell_116 (sk_95 hS (by decide)) rfl h (fun r2 h => ?_)
        refine V_iload dX12_sell_117 (xm 4 rfl) ?_
        refine V_icmp_gt (tgt := 143) dX12_sell_119 (by decide) h (fun _ h => ?_) (fun _ h => ?_)
        · refine V_iinc (ls' := [(6, vI (v6 + 1)), (0, vR (some 94)), (1, vI v1), (2, vI v2), (3, vI v3), (4, vI v4), (5, vI v5)]) dX12_sell_143 (xm 6 rfl) (by decide) rfl ?_
          refine V_goto (tgt := 73) dX12_sell_146 (by decide) ?_
          refine V.pick [1, 2, 3, 4, 5, 6, 0] rfl ?_
          exact ih M v1 v2 v3 v4 v5 (v6 + 1) h k kr
        · refine V_aload_n dX12_sell_122 rfl (xm 0 rfl) ?_
          refine V_getR dX12_sell_123 fl_X12_7 (sk_94 hS (by decide)) rfl ?_
          refine V_sipush dX12_sell_126 (by decide) ?_
          refine V_iconst dX12_sell_129 ?_
          refine V_iload dX12_sell_130 (xm 6 rfl) ?_
          refine V_imul dX12_sell_132 ?_
          refine V_iadd dX12_sell_133 ?_
          refine V_iconst dX12_sell_134 ?_
          refine V_iadd dX12_sell_135 ?_
          refine T_iald dX12_sell_136 (sk_95 hS (by decide)) rfl h (fun r3 h => ?_)
          refine V_iload_n dX12_sell_137 rfl (xm 3 rfl) ?_
          refine V_icmp_lt (tgt := 143) dX12_sell_138 (by decide) h (fun _ h => ?_) (fun _ h => ?_)
          · refine V_iinc (ls' := [(6, vI (v6 + 1)), (0, vR (some 94)), (1, vI v1), (2, vI v2), (3, vI v3), (4, vI v4), (5, vI v5)]) dX12_sell_143 (xm 6 rfl) (by decide) rfl ?_
            refine V_goto (tgt := 73) dX12_sell_146 (by decide) ?_
            refine V.pick [1, 2, 3, 4, 5, 6, 0] rfl ?_
            exact ih M v1 v2 v3 v4 v5 (v6 + 1) h k kr
          · refine V_iconst dX12_sell_141 ?_
            exact V_iretb (b := false) dX12_sell_142 rfl (by decide) (kr false (Option.some.inj h).symm)
      · refine V_iinc (ls' := [(6, vI (v6 + 1)), (0, vR (some 94)), (1, vI v1), (2, vI v2), (3, vI v3), (4, vI v4), (5, vI v5)]) dX12_sell_143 (xm 6 rfl) (by decide) rfl ?_
        refine V_goto (tgt := 73) dX12_sell_146 (by decide) ?_
        refine V.pick [1, 2, 3, 4, 5, 6, 0] rfl ?_
        exact ih M v1 v2 v3 v4 v5 (v6 + 1) h k kr
    · refine V.pick [0, 1, 2, 3, 4, 5] rfl ?_
      exact k  (Option.some.inj h).symm
theorem fX12_sell_L73_ci {S : xS} {kp : Option Nat} (hS : xSk kp 96 S) {Q : Option xV → xS → xM → Prop} {n : Nat} {M : xM} {v1 : Int} {v2 : Int} {v3 : Int} {v4 : Int} {v5 : Int} {v6 : Int} (hl : fX12_sell_L73 n M v1 v2 v3 v4 v5 v6 = some (.inl ())) (k : V Y_X12_sell 2 0 0 149 [(0, vR (some 94)), (1, vI v1), (2, vI v2), (3, vI v3), (4, vI v4), (5, vI v5)] [] S M Q) : V Y_X12_sell 2 0 0 73 [(0, vR (some 94)), (1, vI v1), (2, vI v2), (3, vI v3), (4, vI v4), (5, vI v5), (6, vI v6)] [] S M Q := fX12_sell_L73_c hS _ _ _ _ _ _ _ _ hl (fun  e => by cases e; exact k) (fun _ e => by cases e)
theorem fX12_sell_L73_cr {S : xS} {kp : Option Nat} (hS : xSk kp 96 S) {Q : Option xV → xS → xM → Prop} {n : Nat} {M : xM} {v1 : Int} {v2 : Int} {v3 : Int} {v4 : Int} {v5 : Int} {v6 : Int} {w : Bool} (hl : fX12_sell_L73 n M v1 v2 v3 v4 v5 v6 = some (.inr w)) (k : Q (some (vI (b2i w))) S M) : V Y_X12_sell 2 0 0 73 [(0, vR (some 94)), (1, vI v1), (2, vI v2), (3, vI v3), (4, vI v4), (5, vI v5), (6, vI v6)] [] S M Q := fX12_sell_L73_c hS _ _ _ _ _ _ _ _ hl (fun  e => by cases e) (fun _ e => by cases e; exact k)
def fX12_sell (M : xM) (v1 : Int) (v2 : Int) (v3 : Int) (v4 : Int) (v5 : Int) : Option (Bool × xM) := (if (fX12_isPlot M v1) = true then (if (fX12_isPlot M v2) = true then (if wr v1 = wr v2 then some (false, M) else (if (fX12_isIn v3 (M 95 2) v4) = true then (if wr 9999 < wr v4 then some (false, M) else (if (fX12_isIn v5 0 9999) = true then (if wr (M 95 6) = wr 60 then some (false, M) else (xs0 (fX12_sell_L73 xfuel M v1 v2 v3 v4 v5 0) (xwt M 95 5820 (130 + (4 * (M 95 6))) v1 fun M5 => xwt M5 95 5820 ((130 + (4 * (M 95 6))) + 1) v2 fun M6 => xwt M6 95 5820 ((130 + (4 * (M 95 6))) + 2) v3 fun M7 => xwt M7 95 5820 ((130 + (4 * (M 95 6))) + 3) v4 fun M8 => xlet (xup M8 95 6 ((M8 95 6) + 1)) fun M9 => xb (fX12_gives M9 v2 (-v5)) fun M11 => xb (fX12_gives M11 v1 v5) fun M13 => xb (fX12_forgets M13) fun M15 => some (true, M15)) (fun r => some (r, M)))) else some (false, M))) else some (false, M))) else some (false, M)) else some (false, M))
set_option maxRecDepth 20000 in
set_option maxHeartbeats 1000000 in
theorem fX12_sell_c {S : xS} {kp : Option Nat} (hS : xSk kp 96 S) {M : xM} {v1 : Int} {v2 : Int} {v3 : Int} {v4 : Int} {v5 : Int} {E : Bool × xM} (h : fX12_sell M v1 v2 v3 v4 v5 = some E) :
    V Y_X12_sell 2 0 0 0 (xarg 0 [vR (some 94), vI v1, vI v2, vI v3, vI v4, vI v5]) [] S M (xqR S E.2 (some (vI (b2i E.1)))) := by
  unfold fX12_sell at h
  show V Y_X12_sell 2 0 0 0 [(0, vR (some 94)), (1, vI v1), (2, vI v2), (3, vI v3), (4, vI v4), (5, vI v5)] [] S M _
  refine V_aload_n dX12_sell_0 rfl (xm 0 rfl) ?_
  refine V_iload_n dX12_sell_1 rfl (xm 1 rfl) ?_
  refine T_callVI dX12_sell_2 ok_X12_isPlot (by exact ⟨by decide, rfl⟩) lk_X12_226.1 lk_X12_226.2 (sk_94 hS (by decide)) (hV := ((fX12_isPlot_c (hS.le (by decide)) rfl).mono (by decide) (Nat.le_refl _) (Nat.le_refl _))) rfl (Nat.le_of_ble_eq_true rfl) rfl (Nat.le_of_ble_eq_true rfl) ?_
  refine V_if_eqB (tgt := 68) dX12_sell_5 (by decide) h (fun _ h => ?_) (fun _ h => ?_)
  · refine V_aload_n dX12_sell_8 rfl (xm 0 rfl) ?_
    refine V_iload_n dX12_sell_9 rfl (xm 2 rfl) ?_
    refine T_callVI dX12_sell_10 ok_X12_isPlot (by exact ⟨by decide, rfl⟩) lk_X12_226.1 lk_X12_226.2 (sk_94 hS (by decide)) (hV := ((fX12_isPlot_c (hS.le (by decide)) rfl).mono (by decide) (Nat.le_refl _) (Nat.le_refl _))) rfl (Nat.le_of_ble_eq_true rfl) rfl (Nat.le_of_ble_eq_true rfl) ?_
    refine V_if_eqB (tgt := 68) dX12_sell_13 (by decide) h (fun _ h => ?_) (fun _ h => ?_)
    · refine V_iload_n dX12_sell_16 rfl (xm 1 rfl) ?_
      refine V_iload_n dX12_sell_17 rfl (xm 2 rfl) ?_
      refine V_icmp_eq (tgt := 68) dX12_sell_18 (by decide) h (fun _ h => ?_) (fun _ h => ?_)
      · refine V_iconst dX12_sell_68 ?_
        exact V_iretb (b := false) dX12_sell_69 rfl (by decide) (q_wB h)
      · refine V_iload_n dX12_sell_21 rfl (xm 3 rfl) ?_
        refine V_aload_n dX12_sell_22 rfl (xm 0 rfl) ?_
        refine V_getR dX12_sell_23 fl_X12_7 (sk_94 hS (by decide)) rfl ?_
        refine V_iconst dX12_sell_26 ?_
        refine V_ialdK (j := 2) dX12_sell_27 (sk_95 hS (by decide)) (by decide) (by decide) ?_
        refine V_iload dX12_sell_28 (xm 4 rfl) ?_
        refine T_callSI (host := "") dX12_sell_30 ok_X12_isIn lk_X12_70.1 lk_X12_70.2 (hV := ((fX12_isIn_c (hS.le (by decide)) rfl).mono (by decide) (Nat.le_refl _) (Nat.le_refl _))) rfl (Nat.le_of_ble_eq_true rfl) rfl (Nat.le_of_ble_eq_true rfl) ?_
        refine V_if_eqB (tgt := 68) dX12_sell_33 (by decide) h (fun _ h => ?_) (fun _ h => ?_)
        · refine V_iload dX12_sell_36 (xm 4 rfl) ?_
          refine V_sipush dX12_sell_38 (by decide) ?_
          refine V_icmp_gt (tgt := 68) dX12_sell_41 (by decide) h (fun _ h => ?_) (fun _ h => ?_)
          · refine V_iconst dX12_sell_68 ?_
            exact V_iretb (b := false) dX12_sell_69 rfl (by decide) (q_wB h)
          · refine V_iload dX12_sell_44 (xm 5 rfl) ?_
            refine V_iconst dX12_sell_46 ?_
            refine V_sipush dX12_sell_47 (by decide) ?_
            refine T_callSI (host := "") dX12_sell_50 ok_X12_isIn lk_X12_70.1 lk_X12_70.2 (hV := ((fX12_isIn_c (hS.le (by decide)) rfl).mono (by decide) (Nat.le_refl _) (Nat.le_refl _))) rfl (Nat.le_of_ble_eq_true rfl) rfl (Nat.le_of_ble_eq_true rfl) ?_
            refine V_if_eqB (tgt := 68) dX12_sell_53 (by decide) h (fun _ h => ?_) (fun _ h => ?_)
            · refine V_aload_n dX12_sell_56 rfl (xm 0 rfl) ?_
              refine V_getR dX12_sell_57 fl_X12_7 (sk_94 hS (by decide)) rfl ?_
              refine V_bipush dX12_sell_60 (by decide) ?_
              refine V_ialdK (j := 6) dX12_sell_62 (sk_95 hS (by decide)) (by decide) (by decide) ?_
              refine V_bipush dX12_sell_63 (by decide) ?_
              refine V_icmp_ne (tgt := 70) dX12_sell_65 (by decide) h (fun _ h => ?_) (fun _ h => ?_)
              · refine V_iconst dX12_sell_68 ?_
                exact V_iretb (b := false) dX12_sell_69 rfl (by decide) (q_wB h)
              · refine V_iconst dX12_sell_70 ?_
                refine V_istore (ls' := [(6, vI 0), (0, vR (some 94)), (1, vI v1), (2, vI v2), (3, vI v3), (4, vI v4), (5, vI v5)]) dX12_sell_71 (by decide) rfl ?_
                refine xs0E h (fun  h4 h => ?_) (fun r h4 h => ?_)
                · refine V.pick [1, 2, 3, 4, 5, 6, 0] rfl ?_
                  refine fX12_sell_L73_ci (hS.le (by decide)) h4 ?_
                  refine V_sipush dX12_sell_149 (by decide) ?_
                  refine V_iconst dX12_sell_152 ?_
                  refine V_aload_n dX12_sell_153 rfl (xm 0 rfl) ?_
                  refine V_getR dX12_sell_154 fl_X12_7 (sk_94 hS (by decide)) rfl ?_
                  refine V_bipush dX12_sell_157 (by decide) ?_
                  refine V_ialdK (j := 6) dX12_sell_159 (sk_95 hS (by decide)) (by decide) (by decide) ?_
                  refine V_imul dX12_sell_160 ?_
                  refine V_iadd dX12_sell_161 ?_
                  refine V_istore (ls' := [(6, vI (130 + (4 * (M 95 6)))), (0, vR (some 94)), (1, vI v1), (2, vI v2), (3, vI v3), (4, vI v4), (5, vI v5)]) dX12_sell_162 (by decide) rfl ?_
                  refine V_aload_n dX12_sell_164 rfl (xm 1 rfl) ?_
                  refine V_getR dX12_sell_165 fl_X12_7 (sk_94 hS (by decide)) rfl ?_
                  refine V_iload dX12_sell_168 (xm 0 rfl) ?_
                  refine V_iload_n dX12_sell_170 rfl (xm 2 rfl) ?_
                  refine T_iast dX12_sell_171 (sk_95 hS (by decide)) rfl h (fun M5 h => ?_)
                  refine V_aload_n dX12_sell_172 rfl (xm 1 rfl) ?_
                  refine V_getR dX12_sell_173 fl_X12_7 (sk_94 hS (by decide)) rfl ?_
                  refine V_iload dX12_sell_176 (xm 0 rfl) ?_
                  refine V_iconst dX12_sell_178 ?_
                  refine V_iadd dX12_sell_179 ?_
                  refine V_iload_n dX12_sell_180 rfl (xm 3 rfl) ?_
                  refine T_iast dX12_sell_181 (sk_95 hS (by decide)) rfl h (fun M6 h => ?_)
                  refine V_aload_n dX12_sell_182 rfl (xm 1 rfl) ?_
                  refine V_getR dX12_sell_183 fl_X12_7 (sk_94 hS (by decide)) rfl ?_
                  refine V_iload dX12_sell_186 (xm 0 rfl) ?_
                  refine V_iconst dX12_sell_188 ?_
                  refine V_iadd dX12_sell_189 ?_
                  refine V_iload_n dX12_sell_190 rfl (xm 4 rfl) ?_
                  refine T_iast dX12_sell_191 (sk_95 hS (by decide)) rfl h (fun M7 h => ?_)
                  refine V_aload_n dX12_sell_192 rfl (xm 1 rfl) ?_
                  refine V_getR dX12_sell_193 fl_X12_7 (sk_94 hS (by decide)) rfl ?_
                  refine V_iload dX12_sell_196 (xm 0 rfl) ?_
                  refine V_iconst dX12_sell_198 ?_
                  refine V_iadd dX12_sell_199 ?_
                  refine V_iload dX12_sell_200 (xm 5 rfl) ?_
                  refine T_iast dX12_sell_202 (sk_95 hS (by decide)) rfl h (fun M8 h => ?_)
                  refine V_aload_n dX12_sell_203 rfl (xm 1 rfl) ?_
                  refine V_getR dX12_sell_204 fl_X12_7 (sk_94 hS (by decide)) rfl ?_
                  refine V_bipush dX12_sell_207 (by decide) ?_
                  refine V_dup2 dX12_sell_209 rfl rfl ?_
                  refine V_ialdK (j := 6) dX12_sell_210 (sk_95 hS (by decide)) (by decide) (by decide) ?_
                  refine V_iconst dX12_sell_211 ?_
                  refine V_iadd dX12_sell_212 ?_
                  refine xletE h (fun M9 eM9 h => ?_)
                  refine V_iastK (j := 6) dX12_sell_213 (sk_95 hS (by decide)) (by decide) (by decide) ?_
                  rw [← eM9]
                  refine V_aload_n dX12_sell_214 rfl (xm 1 rfl) ?_
                  refine V_iload_n dX12_sell_215 rfl (xm 3 rfl) ?_
                  refine V_iload dX12_sell_216 (xm 6 rfl) ?_
                  refine V_ineg dX12_sell_218 ?_
                  refine xbE h (fun M11 h10 h => ?_)
                  refine T_callVv dX12_sell_219 ok_X12_gives (by exact ⟨by decide, rfl⟩) lk_X12_243.1 lk_X12_243.2 (sk_94 hS (by decide)) (hV := ((fX12_gives_c (hS.le (by decide)) h10).mono (by decide) (Nat.le_refl _) (Nat.le_refl _))) rfl (Nat.le_of_ble_eq_true rfl) rfl (Nat.le_of_ble_eq_true rfl) ?_
                  refine V_aload_n dX12_sell_222 rfl (xm 1 rfl) ?_
                  refine V_iload_n dX12_sell_223 rfl (xm 2 rfl) ?_
                  refine V_iload dX12_sell_224 (xm 6 rfl) ?_
                  refine xbE h (fun M13 h12 h => ?_)
                  refine T_callVv dX12_sell_226 ok_X12_gives (by exact ⟨by decide, rfl⟩) lk_X12_243.1 lk_X12_243.2 (sk_94 hS (by decide)) (hV := ((fX12_gives_c (hS.le (by decide)) h12).mono (by decide) (Nat.le_refl _) (Nat.le_refl _))) rfl (Nat.le_of_ble_eq_true rfl) rfl (Nat.le_of_ble_eq_true rfl) ?_
                  refine V_aload_n dX12_sell_229 rfl (xm 1 rfl) ?_
                  refine xbE h (fun M15 h14 h => ?_)
                  refine T_callVv dX12_sell_230 ok_X12_forgets (by exact ⟨by decide, rfl⟩) lk_X12_78.1 lk_X12_78.2 (sk_94 hS (by decide)) (hV := ((fX12_forgets_c (hS.le (by decide)) h14).mono (by decide) (Nat.le_refl _) (Nat.le_refl _))) rfl (Nat.le_of_ble_eq_true rfl) rfl (Nat.le_of_ble_eq_true rfl) ?_
                  refine V_iconst dX12_sell_233 ?_
                  exact V_iretb (b := true) dX12_sell_234 rfl (by decide) (q_wB h)
                · refine V.pick [1, 2, 3, 4, 5, 6, 0] rfl ?_
                  refine fX12_sell_L73_cr (hS.le (by decide)) h4 ?_
                  exact q_wB h
            · refine V_iconst dX12_sell_68 ?_
              exact V_iretb (b := false) dX12_sell_69 rfl (by decide) (q_wB h)
        · refine V_iconst dX12_sell_68 ?_
          exact V_iretb (b := false) dX12_sell_69 rfl (by decide) (q_wB h)
    · refine V_iconst dX12_sell_68 ?_
      exact V_iretb (b := false) dX12_sell_69 rfl (by decide) (q_wB h)
  · refine V_iconst dX12_sell_68 ?_
    exact V_iretb (b := false) dX12_sell_69 rfl (by decide) (q_wB h)
