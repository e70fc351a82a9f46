def fX12_aLine (M : xM)  : Option (Bool × xM) := (if wr (M 94 14) = wr 20 then (if wr (M 94 10) = wr 16 then (xb2 (fX12_bad M 3) fun r2 M3 => some (r2, M3)) else (xlet (xup M 94 20 0) fun M4 => xb (fX12_next0 M4) fun M6 => xwt M6 98 48 (3 * (M6 94 10)) (M6 94 11) fun M7 => xb2 (fX12_sumUp M7) fun r9 M10 => (if r9 = true then (xwt M10 98 48 ((3 * (M10 94 10)) + 1) (M10 94 11) fun M11 => xj (fun (M12 : xM) => xwt M12 98 48 ((3 * (M12 94 10)) + 2) (M12 94 11) fun M14 => xb2 (fX12_need M14 159) fun r16 M17 => some (r16, M17)) fun j13 => (if wr (M11 94 14) = wr 3 then (xb (fX12_next0 M11) fun M19 => xb2 (fX12_one_g 40 1 M19) fun r21 M22 => (if r21 = true then j13 M22 else some (false, M22))) else j13 M11)) else some (false, M10)))) else (xb2 (fX12_bad M 1) fun r24 M25 => some (r24, M25)))
set_option maxRecDepth 20000 in
set_option maxHeartbeats 1000000 in
theorem fX12_aLine_c {S : xS} {kp : Option Nat} (hS : xSk kp 101 S) {M : xM} {E : Bool × xM} (h : fX12_aLine M = some E) :
    V Y_X12_aLine 52 0 0 0 (xarg 0 [vR (some 94)]) [] S M (xqR S E.2 (some (vI (b2i E.1)))) := by
  unfold fX12_aLine at h
  show V Y_X12_aLine 52 0 0 0 [(0, vR (some 94))] [] S M _
  refine V_aload_n dX12_aLine_0 rfl (xm 0 rfl) ?_
  refine V_getI (kI := 14) dX12_aLine_1 fl_X12_137 (sk_94 hS (by decide)) rfl rfl ?_
  refine V_bipush dX12_aLine_4 (by decide) ?_
  refine V_icmp_eq (tgt := 15) dX12_aLine_6 (by decide) h (fun _ h => ?_) (fun _ h => ?_)
  · refine V_aload_n dX12_aLine_15 rfl (xm 0 rfl) ?_
    refine V_getI (kI := 10) dX12_aLine_16 fl_X12_199 (sk_94 hS (by decide)) rfl rfl ?_
    refine V_bipush dX12_aLine_19 (by decide) ?_
    refine V_icmp_ne (tgt := 30) dX12_aLine_21 (by decide) h (fun _ h => ?_) (fun _ h => ?_)
    · refine V_aload_n dX12_aLine_24 rfl (xm 0 rfl) ?_
      refine V_iconst dX12_aLine_25 ?_
      refine xb2E h (fun r2 M3 h1 h => ?_)
      refine T_callVI dX12_aLine_26 ok_X12_bad (by exact ⟨by decide, rfl⟩) lk_X12_158.1 lk_X12_158.2 (sk_94 hS (by decide)) (hV := ((fX12_bad_c (hS.le (by decide)) h1).mono (by decide) (Nat.le_refl _) (Nat.le_refl _))) rfl (Nat.le_of_ble_eq_true rfl) rfl (Nat.le_of_ble_eq_true rfl) ?_
      exact V_iretb (b := r2) dX12_aLine_29 rfl rfl (q_wB h)
    · refine V_aload_n dX12_aLine_30 rfl (xm 0 rfl) ?_
      refine V_iconst dX12_aLine_31 ?_
      refine T_putI (kI := 20) dX12_aLine_32 fp_X12_167 (sk_94 hS (by decide)) rfl rfl h (fun M4 h => ?_)
      refine V_aload_n dX12_aLine_35 rfl (xm 0 rfl) ?_
      refine xbE h (fun M6 h5 h => ?_)
      refine T_callVv dX12_aLine_36 ok_X12_next0 (by exact ⟨by decide, rfl⟩) lk_X12_161.1 lk_X12_161.2 (sk_94 hS (by decide)) (hV := ((fX12_next0_c (hS.le (by decide)) h5).mono (by decide) (Nat.le_refl _) (Nat.le_refl _))) rfl (Nat.le_of_ble_eq_true rfl) rfl (Nat.le_of_ble_eq_true rfl) ?_
      refine V_aload_n dX12_aLine_39 rfl (xm 0 rfl) ?_
      refine V_getR dX12_aLine_40 fl_X12_19 (sk_94 hS (by decide)) rfl ?_
      refine V_iconst dX12_aLine_43 ?_
      refine V_aload_n dX12_aLine_44 rfl (xm 0 rfl) ?_
      refine V_getI (kI := 10) dX12_aLine_45 fl_X12_199 (sk_94 hS (by decide)) rfl rfl ?_
      refine V_imul dX12_aLine_48 ?_
      refine V_aload_n dX12_aLine_49 rfl (xm 0 rfl) ?_
      refine V_getI (kI := 11) dX12_aLine_50 fl_X12_164 (sk_94 hS (by decide)) rfl rfl ?_
      refine T_iast dX12_aLine_53 (sk_98 hS (by decide)) rfl h (fun M7 h => ?_)
      refine V_aload_n dX12_aLine_54 rfl (xm 0 rfl) ?_
      refine xb2E h (fun r9 M10 h8 h => ?_)
      refine T_callVI dX12_aLine_55 ok_X12_sumUp (by exact ⟨by decide, rfl⟩) lk_X12_196.1 lk_X12_196.2 (sk_94 hS (by decide)) (hV := ((fX12_sumUp_c (hS.le (by decide)) h8).mono (by decide) (Nat.le_refl _) (Nat.le_refl _))) rfl (Nat.le_of_ble_eq_true rfl) rfl (Nat.le_of_ble_eq_true rfl) ?_
      refine V_if_neB (tgt := 63) dX12_aLine_58 (by decide) h (fun _ h => ?_) (fun _ h => ?_)
      · refine V_aload_n dX12_aLine_63 rfl (xm 0 rfl) ?_
        refine V_getR dX12_aLine_64 fl_X12_19 (sk_94 hS (by decide)) rfl ?_
        refine V_iconst dX12_aLine_67 ?_
        refine V_aload_n dX12_aLine_68 rfl (xm 0 rfl) ?_
        refine V_getI (kI := 10) dX12_aLine_69 fl_X12_199 (sk_94 hS (by decide)) rfl rfl ?_
        refine V_imul dX12_aLine_72 ?_
        refine V_iconst dX12_aLine_73 ?_
        refine V_iadd dX12_aLine_74 ?_
        refine V_aload_n dX12_aLine_75 rfl (xm 0 rfl) ?_
        refine V_getI (kI := 11) dX12_aLine_76 fl_X12_164 (sk_94 hS (by decide)) rfl rfl ?_
        refine T_iast dX12_aLine_79 (sk_98 hS (by decide)) rfl h (fun M11 h => ?_)
        refine V_aload_n dX12_aLine_80 rfl (xm 0 rfl) ?_
        refine V_getI (kI := 14) dX12_aLine_81 fl_X12_137 (sk_94 hS (by decide)) rfl rfl ?_
        refine V_iconst dX12_aLine_84 ?_
        refine xjE h (fun j13 hj13 h => ?_)
        have kj13 : ∀ (M12 : xM), j13 M12 = some E → V Y_X12_aLine 52 0 0 101 [(0, vR (some 94))] [] S M12 (xqR S E.2 (some (vI (b2i E.1)))) := by
          intro M12 h
          rw [hj13] at h
          refine V_aload_n dX12_aLine_101 rfl (xm 0 rfl) ?_
          refine V_getR dX12_aLine_102 fl_X12_19 (sk_94 hS (by decide)) rfl ?_
          refine V_iconst dX12_aLine_105 ?_
          refine V_aload_n dX12_aLine_106 rfl (xm 0 rfl) ?_
          refine V_getI (kI := 10) dX12_aLine_107 fl_X12_199 (sk_94 hS (by decide)) rfl rfl ?_
          refine V_imul dX12_aLine_110 ?_
          refine V_iconst dX12_aLine_111 ?_
          refine V_iadd dX12_aLine_112 ?_
          refine V_aload_n dX12_aLine_113 rfl (xm 0 rfl) ?_
          refine V_getI (kI := 11) dX12_aLine_114 fl_X12_164 (sk_94 hS (by decide)) rfl rfl ?_
          refine T_iast dX12_aLine_117 (sk_98 hS (by decide)) rfl h (fun M14 h => ?_)
          refine V_aload_n dX12_aLine_118 rfl (xm 0 rfl) ?_
          refine V_sipush dX12_aLine_119 (by decide) ?_
          refine xb2E h (fun r16 M17 h15 h => ?_)
          refine T_callVI dX12_aLine_122 ok_X12_need (by exact ⟨by decide, rfl⟩) lk_X12_193.1 lk_X12_193.2 (sk_94 hS (by decide)) (hV := ((fX12_need_c (hS.le (by decide)) h15).mono (by decide) (Nat.le_refl _) (Nat.le_refl _))) rfl (Nat.le_of_ble_eq_true rfl) rfl (Nat.le_of_ble_eq_true rfl) ?_
          exact V_iretb (b := r16) dX12_aLine_125 rfl rfl (q_wB h)
        refine V_icmp_ne (tgt := 101) dX12_aLine_85 (by decide) h (fun _ h => ?_) (fun _ h => ?_)
        · refine V_aload_n dX12_aLine_88 rfl (xm 0 rfl) ?_
          refine xbE h (fun M19 h18 h => ?_)
          refine T_callVv dX12_aLine_89 ok_X12_next0 (by exact ⟨by decide, rfl⟩) lk_X12_161.1 lk_X12_161.2 (sk_94 hS (by decide)) (hV := ((fX12_next0_c (hS.le (by decide)) h18).mono (by decide) (Nat.le_refl _) (Nat.le_refl _))) rfl (Nat.le_of_ble_eq_true rfl) rfl (Nat.le_of_ble_eq_true rfl) ?_
          refine V_aload_n dX12_aLine_92 rfl (xm 0 rfl) ?_
          refine xb2E h (fun r21 M22 h20 h => ?_)
          refine T_callVI dX12_aLine_93 ok_X12_any (by exact ⟨by decide, rfl⟩) lk_X12_190.1 lk_X12_190.2 (sk_94 hS (by decide)) (hV := (((fX12_one_g_c (hS.le (by decide)) 40).2.1 h20).mono (by decide) (Nat.le_refl _) (Nat.le_refl _))) rfl (Nat.le_of_ble_eq_true rfl) rfl (Nat.le_of_ble_eq_true rfl) ?_
          refine V_if_neB (tgt := 101) dX12_aLine_96 (by decide) h (fun _ h => ?_) (fun _ h => ?_)
          · refine V.pick [0] rfl ?_
            exact kj13 M22 h
          · refine V_iconst dX12_aLine_99 ?_
            exact V_iretb (b := false) dX12_aLine_100 rfl (by decide) (q_wB h)
        · refine V.pick [0] rfl ?_
          exact kj13 M11 h
      · refine V_iconst dX12_aLine_61 ?_
        exact V_iretb (b := false) dX12_aLine_62 rfl (by decide) (q_wB h)
  · refine V_aload_n dX12_aLine_9 rfl (xm 0 rfl) ?_
    refine V_iconst dX12_aLine_10 ?_
    refine xb2E h (fun r24 M25 h23 h => ?_)
    refine T_callVI dX12_aLine_11 ok_X12_bad (by exact ⟨by decide, rfl⟩) lk_X12_158.1 lk_X12_158.2 (sk_94 hS (by decide)) (hV := ((fX12_bad_c (hS.le (by decide)) h23).mono (by decide) (Nat.le_refl _) (Nat.le_refl _))) rfl (Nat.le_of_ble_eq_true rfl) rfl (Nat.le_of_ble_eq_true rfl) ?_
    exact V_iretb (b := r24) dX12_aLine_14 rfl rfl (q_wB h)
def fX12_text_L52 (n : Nat) (M : xM) (v1 : Int) (v2 : Int) : Option (Int × xM) := match n with
  | 0 => none
  | n + 1 => (if wr v2 = 0 then some (v2, M) else (if wr (M 94 14) = 0 then some (v2, M) else (xb2 (fX12_aLine M) fun r8 M9 => xj (fun (s10 : Int) => xlet (xup M9 94 10 ((M9 94 10) + s10)) fun M12 => fX12_text_L52 n M12 v1 (b2i r8)) fun j11 => (if r8 = true then j11 1 else j11 0))))
set_option maxRecDepth 20000 in
set_option maxHeartbeats 1000000 in
theorem fX12_text_L52_c {S : xS} {kp : Option Nat} (hS : xSk kp 101 S) {Q : Option xV → xS → xM → Prop} :
    ∀ (n : Nat) (M : xM) (v1 : Int) (v2 : Int) {x2 : Int} {Mz : xM}, fX12_text_L52 n M v1 v2 = some (x2, Mz) → V Y_X12_text 53 0 0 89 [(0, vR (some 94)), (1, vI v1), (2, vI x2)] [] S Mz Q → V Y_X12_text 53 0 0 52 [(0, vR (some 94)), (1, vI v1), (2, vI v2)] [] S M Q := by
  intro n
  induction n with
  | zero =>
    intro M v1 v2 x2 Mz h k
    cases h
  | succ n ih =>
    intro M v1 v2 x2 Mz h k
    rw [fX12_text_L52] at h
    refine V_iload_n dX12_text_52 rfl (xm 2 rfl) ?_
    refine V_if_eq (tgt := 89) dX12_text_53 (by decide) h (fun _ h => ?_) (fun _ h => ?_)
    · cases h
      refine V.pick [0, 1, 2] rfl ?_
      exact k
    · refine V_aload_n dX12_text_56 rfl (xm 0 rfl) ?_
      refine V_getI (kI := 14) dX12_text_57 fl_X12_137 (sk_94 hS (by decide)) rfl rfl ?_
      refine V_if_eq (tgt := 89) dX12_text_60 (by decide) h (fun _ h => ?_) (fun _ h => ?_)
      · cases h
        refine V.pick [0, 1, 2] rfl ?_
        exact k
      · refine V_aload_n dX12_text_63 rfl (xm 0 rfl) ?_
        refine xb2E h (fun r8 M9 h7 h => ?_)
        refine T_callVI dX12_text_64 ok_X12_aLine (by exact ⟨by decide, rfl⟩) lk_X12_205.1 lk_X12_205.2 (sk_94 hS (by decide)) (hV := ((fX12_aLine_c (hS.le (by decide)) h7).mono (by decide) (Nat.le_refl _) (Nat.le_refl _))) rfl (Nat.le_of_ble_eq_true rfl) rfl (Nat.le_of_ble_eq_true rfl) ?_
        refine V_istore_n (ls' := [(2, vI (b2i r8)), (0, vR (some 94)), (1, vI v1)]) dX12_text_67 rfl (by decide) rfl ?_
        refine V_aload_n dX12_text_68 rfl (xm 1 rfl) ?_
        refine V_dup dX12_text_69 rfl ?_
        refine V_getI (kI := 10) dX12_text_70 fl_X12_199 (sk_94 hS (by decide)) rfl rfl ?_
        refine V_iload_n dX12_text_73 rfl (xm 0 rfl) ?_
        refine xjE h (fun j11 hj11 h => ?_)
        have kj11 : ∀ (s10 : Int), j11 s10 = some (x2, Mz) → V Y_X12_text 53 0 0 82 [(0, vR (some 94)), (1, vI v1), (2, vI (b2i r8))] [vI s10, vI (M9 94 10), vR (some 94)] S M9 Q := by
          intro s10 h
          rw [hj11] at h
          refine V_iadd dX12_text_82 ?_
          refine T_putI (kI := 10) dX12_text_83 fp_X12_199 (sk_94 hS (by decide)) rfl rfl h (fun M12 h => ?_)
          refine V_goto (tgt := 52) dX12_text_86 (by decide) ?_
          refine V.pick [0, 1, 2] rfl ?_
          exact ih M12 v1 (b2i r8) h k
        refine V_if_eqB (tgt := 81) dX12_text_74 (by decide) h (fun _ h => ?_) (fun _ h => ?_)
        · refine V_iconst dX12_text_77 ?_
          refine V_goto (tgt := 82) dX12_text_78 (by decide) ?_
          refine V.pick [1, 2, 0] rfl ?_
          exact kj11 1 h
        · refine V_iconst dX12_text_81 ?_
          refine V.pick [1, 2, 0] rfl ?_
          exact kj11 0 h
theorem fX12_text_L52_ci {S : xS} {kp : Option Nat} (hS : xSk kp 101 S) {Q : Option xV → xS → xM → Prop} {n : Nat} {M : xM} {v1 : Int} {v2 : Int} {x2 : Int} {Mz : xM} (hl : fX12_text_L52 n M v1 v2 = some (x2, Mz)) (k : V Y_X12_text 53 0 0 89 [(0, vR (some 94)), (1, vI v1), (2, vI x2)] [] S Mz Q) : V Y_X12_text 53 0 0 52 [(0, vR (some 94)), (1, vI v1), (2, vI v2)] [] S M Q := fX12_text_L52_c hS _ _ _ _ hl k
def fX12_text_L140 (n : Nat) (M : xM) (v1 : Int) (v3 : Int) : Option (xM) := match n with
  | 0 => none
  | n + 1 => (if wr v3 < wr (M 94 10) then (xrd M 98 48 (3 * v3) fun r22 => xwt M 95 5820 ((2330 + (16 * v1)) + v3) r22 fun M23 => xrd M23 98 48 ((3 * v3) + 1) fun r24 => xwt M23 95 5820 ((2400 + (16 * v1)) + v3) r24 fun M25 => xrd M25 98 48 ((3 * v3) + 2) fun r26 => xwt M25 95 5820 ((2470 + (16 * v1)) + v3) r26 fun M27 => fX12_text_L140 n M27 v1 (v3 + 1)) else some M)
set_option maxRecDepth 20000 in
set_option maxHeartbeats 1000000 in
theorem fX12_text_L140_c {S : xS} {kp : Option Nat} (hS : xSk kp 99 S) {Q : Option xV → xS → xM → Prop} :
    ∀ (n : Nat) (M : xM) (v1 : Int) (v3 : Int) {Mz : xM}, fX12_text_L140 n M v1 v3 = some Mz → V Y_X12_text 53 0 0 227 [(0, vR (some 94)), (1, vI v1)] [] S Mz Q → V Y_X12_text 53 0 0 140 [(0, vR (some 94)), (1, vI v1), (3, vI v3)] [] S M Q := by
  intro n
  induction n with
  | zero =>
    intro M v1 v3 Mz h k
    cases h
  | succ n ih =>
    intro M v1 v3 Mz h k
    rw [fX12_text_L140] at h
    refine V_iload_n dX12_text_140 rfl (xm 2 rfl) ?_
    refine V_aload_n dX12_text_141 rfl (xm 0 rfl) ?_
    refine V_getI (kI := 10) dX12_text_142 fl_X12_199 (sk_94 hS (by decide)) rfl rfl ?_
    refine V_icmp_ge (tgt := 227) dX12_text_145 (by decide) h (fun _ h => ?_) (fun _ h => ?_)
    · refine V_aload_n dX12_text_148 rfl (xm 0 rfl) ?_
      refine V_getR dX12_text_149 fl_X12_7 (sk_94 hS (by decide)) rfl ?_
      refine V_sipush dX12_text_152 (by decide) ?_
      refine V_bipush dX12_text_155 (by decide) ?_
      refine V_iload_n dX12_text_157 rfl (xm 1 rfl) ?_
      refine V_imul dX12_text_158 ?_
      refine V_iadd dX12_text_159 ?_
      refine V_iload_n dX12_text_160 rfl (xm 2 rfl) ?_
      refine V_iadd dX12_text_161 ?_
      refine V_aload_n dX12_text_162 rfl (xm 0 rfl) ?_
      refine V_getR dX12_text_163 fl_X12_19 (sk_94 hS (by decide)) rfl ?_
      refine V_iconst dX12_text_166 ?_
      refine V_iload_n dX12_text_167 rfl (xm 2 rfl) ?_
      refine V_imul dX12_text_168 ?_
      refine T_iald dX12_text_169 (sk_98 hS (by decide)) rfl h (fun r22 h => ?_)
      refine T_iast dX12_text_170 (sk_95 hS (by decide)) rfl h (fun M23 h => ?_)
      refine V_aload_n dX12_text_171 rfl (xm 0 rfl) ?_
      refine V_getR dX12_text_172 fl_X12_7 (sk_94 hS (by decide)) rfl ?_
      refine V_sipush dX12_text_175 (by decide) ?_
      refine V_bipush dX12_text_178 (by decide) ?_
      refine V_iload_n dX12_text_180 rfl (xm 1 rfl) ?_
      refine V_imul dX12_text_181 ?_
      refine V_iadd dX12_text_182 ?_
      refine V_iload_n dX12_text_183 rfl (xm 2 rfl) ?_
      refine V_iadd dX12_text_184 ?_
      refine V_aload_n dX12_text_185 rfl (xm 0 rfl) ?_
      refine V_getR dX12_text_186 fl_X12_19 (sk_94 hS (by decide)) rfl ?_
      refine V_iconst dX12_text_189 ?_
      refine V_iload_n dX12_text_190 rfl (xm 2 rfl) ?_
      refine V_imul dX12_text_191 ?_
      refine V_iconst dX12_text_192 ?_
      refine V_iadd dX12_text_193 ?_
      refine T_iald dX12_text_194 (sk_98 hS (by decide)) rfl h (fun r24 h => ?_)
      refine T_iast dX12_text_195 (sk_95 hS (by decide)) rfl h (fun M25 h => ?_)
      refine V_aload_n dX12_text_196 rfl (xm 0 rfl) ?_
      refine V_getR dX12_text_197 fl_X12_7 (sk_94 hS (by decide)) rfl ?_
      refine V_sipush dX12_text_200 (by decide) ?_
      refine V_bipush dX12_text_203 (by decide) ?_
      refine V_iload_n dX12_text_205 rfl (xm 1 rfl) ?_
      refine V_imul dX12_text_206 ?_
      refine V_iadd dX12_text_207 ?_
      refine V_iload_n dX12_text_208 rfl (xm 2 rfl) ?_
      refine V_iadd dX12_text_209 ?_
      refine V_aload_n dX12_text_210 rfl (xm 0 rfl) ?_
      refine V_getR dX12_text_211 fl_X12_19 (sk_94 hS (by decide)) rfl ?_
      refine V_iconst dX12_text_214 ?_
      refine V_iload_n dX12_text_215 rfl (xm 2 rfl) ?_
      refine V_imul dX12_text_216 ?_
      refine V_iconst dX12_text_217 ?_
      refine V_iadd dX12_text_218 ?_
      refine T_iald dX12_text_219 (sk_98 hS (by decide)) rfl h (fun r26 h => ?_)
      refine T_iast dX12_text_220 (sk_95 hS (by decide)) rfl h (fun M27 h => ?_)
      refine V_iinc (ls' := [(3, vI (v3 + 1)), (0, vR (some 94)), (1, vI v1)]) dX12_text_221 (xm 2 rfl) (by decide) rfl ?_
      refine V_goto (tgt := 140) dX12_text_224 (by decide) ?_
      refine V.pick [1, 2, 0] rfl ?_
      exact ih M27 v1 (v3 + 1) h k
    · cases h
      refine V.pick [0, 1] rfl ?_
      exact k
theorem fX12_text_L140_ci {S : xS} {kp : Option Nat} (hS : xSk kp 99 S) {Q : Option xV → xS → xM → Prop} {n : Nat} {M : xM} {v1 : Int} {v3 : Int} {Mz : xM} (hl : fX12_text_L140 n M v1 v3 = some Mz) (k : V Y_X12_text 53 0 0 227 [(0, vR (some 94)), (1, vI v1)] [] S Mz Q) : V Y_X12_text 53 0 0 140 [(0, vR (some 94)), (1, vI v1), (3, vI v3)] [] S M Q := fX12_text_L140_c hS _ _ _ _ hl k
def fX12_text_L229 (n : Nat) (M : xM) (v1 : Int) (v3 : Int) : Option (xM) := match n with
  | 0 => none
  | n + 1 => (if wr v3 < wr (2 * (M 94 11)) then (xrd M 99 820 v3 fun r30 => xwt M 95 5820 ((2540 + (820 * v1)) + v3) r30 fun M31 => fX12_text_L229 n M31 v1 (v3 + 1)) else some M)
set_option maxRecDepth 20000 in
set_option maxHeartbeats 1000000 in
theorem fX12_text_L229_c {S : xS} {kp : Option Nat} (hS : xSk kp 100 S) {Q : Option xV → xS → xM → Prop} :
    ∀ (n : Nat) (M : xM) (v1 : Int) (v3 : Int) {Mz : xM}, fX12_text_L229 n M v1 v3 = some Mz → V Y_X12_text 53 0 0 267 [(0, vR (some 94))] [] S Mz Q → V Y_X12_text 53 0 0 229 [(0, vR (some 94)), (1, vI v1), (3, vI v3)] [] S M Q := by
  intro n
  induction n with
  | zero =>
    intro M v1 v3 Mz h k
    cases h
  | succ n ih =>
    intro M v1 v3 Mz h k
    rw [fX12_text_L229] at h
    refine V_iload_n dX12_text_229 rfl (xm 2 rfl) ?_
    refine V_iconst dX12_text_230 ?_
    refine V_aload_n dX12_text_231 rfl (xm 0 rfl) ?_
    refine V_getI (kI := 11) dX12_text_232 fl_X12_164 (sk_94 hS (by decide)) rfl rfl ?_
    refine V_imul dX12_text_235 ?_
    refine V_icmp_ge (tgt := 267) dX12_text_236 (by decide) h (fun _ h => ?_) (fun _ h => ?_)
    · refine V_aload_n dX12_text_239 rfl (xm 0 rfl) ?_
      refine V_getR dX12_text_240 fl_X12_7 (sk_94 hS (by decide)) rfl ?_
      refine V_sipush dX12_text_243 (by decide) ?_
      refine V_sipush dX12_text_246 (by decide) ?_
      refine V_iload_n dX12_text_249 rfl (xm 1 rfl) ?_
      refine V_imul dX12_text_250 ?_
      refine V_iadd dX12_text_251 ?_
      refine V_iload_n dX12_text_252 rfl (xm 2 rfl) ?_
      refine V_iadd dX12_text_253 ?_
      refine V_aload_n dX12_text_254 rfl (xm 0 rfl) ?_
      refine V_getR dX12_text_255 fl_X12_22 (sk_94 hS (by decide)) rfl ?_
      refine V_iload_n dX12_text_258 rfl (xm 2 rfl) ?_
      refine T_iald dX12_text_259 (sk_99 hS (by decide)) rfl h (fun r30 h => ?_)
      refine T_iast dX12_text_260 (sk_95 hS (by decide)) rfl h (fun M31 h => ?_)
      refine V_iinc (ls' := [(3, vI (v3 + 1)), (0, vR (some 94)), (1, vI v1)]) dX12_text_261 (xm 2 rfl) (by decide) rfl ?_
      refine V_goto (tgt := 229) dX12_text_264 (by decide) ?_
      refine V.pick [1, 2, 0] rfl ?_
      exact ih M31 v1 (v3 + 1) h k
    · cases h
      refine V.pick [0] rfl ?_
      exact k
theorem fX12_text_L229_ci {S : xS} {kp : Option Nat} (hS : xSk kp 100 S) {Q : Option xV → xS → xM → Prop} {n : Nat} {M : xM} {v1 : Int} {v3 : Int} {Mz : xM} (hl : fX12_text_L229 n M v1 v3 = some Mz) (k : V Y_X12_text 53 0 0 267 [(0, vR (some 94))] [] S Mz Q) : V Y_X12_text 53 0 0 229 [(0, vR (some 94)), (1, vI v1), (3, vI v3)] [] S M Q := fX12_text_L229_c hS _ _ _ _ hl k
def fX12_text (M : xM) (v1 : Int) : Option (Int × xM) := xlet (xup M 94 17 0) fun M1 => (if (fX12_isIn v1 0 3) = true then (xlet (xup M1 94 13 0) fun M2 => xlet (xup M2 94 10 0) fun M3 => xlet (xup M3 94 11 0) fun M4 => xb (fX12_next0 M4) fun M6 => xb2 (fX12_text_L52 xfuel M6 v1 1) fun y13 M14 => xlet (xup M14 94 12 0) fun M16 => xlet (xup M16 94 19 (M16 94 17)) fun M17 => xj (fun (s18 : Int) => xlet (xup M17 94 21 s18) fun M20 => (if wr y13 = 0 then some ((-1), M20) else (xwt M20 95 5820 (2320 + v1) (M20 94 10) fun M21 => xb (fX12_text_L140 xfuel M21 v1 0) fun M28 => xb (fX12_text_L229 xfuel M28 v1 0) fun M32 => some (M32 94 10, M32)))) fun j19 => (if wr y13 = 0 then j19 (M17 94 18) else j19 ((-1)))) else (xlet (xup M1 94 12 0) fun M34 => xlet (xup M34 94 19 0) fun M35 => xlet (xup M35 94 21 ((-1))) fun M36 => some ((-1), M36)))
set_option maxRecDepth 20000 in
set_option maxHeartbeats 1000000 in
theorem fX12_text_c {S : xS} {kp : Option Nat} (hS : xSk kp 101 S) {M : xM} {v1 : Int} {E : Int × xM} (h : fX12_text M v1 = some E) :
    V Y_X12_text 53 0 0 0 (xarg 0 [vR (some 94), vI v1]) [] S M (xqR S E.2 (some (vI E.1))) := by
  unfold fX12_text at h
  show V Y_X12_text 53 0 0 0 [(0, vR (some 94)), (1, vI v1)] [] S M _
  refine V_aload_n dX12_text_0 rfl (xm 0 rfl) ?_
  refine V_iconst dX12_text_1 ?_
  refine T_putI (kI := 17) dX12_text_2 fp_X12_152 (sk_94 hS (by decide)) rfl rfl h (fun M1 h => ?_)
  refine V_iload_n dX12_text_5 rfl (xm 1 rfl) ?_
  refine V_iconst dX12_text_6 ?_
  refine V_iconst dX12_text_7 ?_
  refine T_callSI (host := "") dX12_text_8 ok_X12_isIn lk_X12_70.1 lk_X12_70.2 (hV := ((fX12_isIn_c (hS.le (by decide)) rfl).mono (by decide) (Nat.le_refl _) (Nat.le_refl _))) rfl (Nat.le_of_ble_eq_true rfl) rfl (Nat.le_of_ble_eq_true rfl) ?_
  refine V_if_neB (tgt := 31) dX12_text_11 (by decide) h (fun _ h => ?_) (fun _ h => ?_)
  · refine V_aload_n dX12_text_31 rfl (xm 0 rfl) ?_
    refine V_iconst dX12_text_32 ?_
    refine T_putI (kI := 13) dX12_text_33 fp_X12_86 (sk_94 hS (by decide)) rfl rfl h (fun M2 h => ?_)
    refine V_aload_n dX12_text_36 rfl (xm 0 rfl) ?_
    refine V_iconst dX12_text_37 ?_
    refine T_putI (kI := 10) dX12_text_38 fp_X12_199 (sk_94 hS (by decide)) rfl rfl h (fun M3 h => ?_)
    refine V_aload_n dX12_text_41 rfl (xm 0 rfl) ?_
    refine V_iconst dX12_text_42 ?_
    refine T_putI (kI := 11) dX12_text_43 fp_X12_164 (sk_94 hS (by decide)) rfl rfl h (fun M4 h => ?_)
    refine V_aload_n dX12_text_46 rfl (xm 0 rfl) ?_
    refine xbE h (fun M6 h5 h => ?_)
    refine T_callVv dX12_text_47 ok_X12_next0 (by exact ⟨by decide, rfl⟩) lk_X12_161.1 lk_X12_161.2 (sk_94 hS (by decide)) (hV := ((fX12_next0_c (hS.le (by decide)) h5).mono (by decide) (Nat.le_refl _) (Nat.le_refl _))) rfl (Nat.le_of_ble_eq_true rfl) rfl (Nat.le_of_ble_eq_true rfl) ?_
    refine V_iconst dX12_text_50 ?_
    refine V_istore_n (ls' := [(2, vI 1), (0, vR (some 94)), (1, vI v1)]) dX12_text_51 rfl (by decide) rfl ?_
    refine xb2E h (fun y13 M14 h15 h => ?_)
    refine V.pick [1, 2, 0] rfl ?_
    refine fX12_text_L52_ci (hS.le (by decide)) h15 ?_
    refine V_aload_n dX12_text_89 rfl (xm 0 rfl) ?_
    refine V_iconst dX12_text_90 ?_
    refine T_putI (kI := 12) dX12_text_91 fp_X12_83 (sk_94 hS (by decide)) rfl rfl h (fun M16 h => ?_)
    refine V_aload_n dX12_text_94 rfl (xm 0 rfl) ?_
    refine V_aload_n dX12_text_95 rfl (xm 0 rfl) ?_
    refine V_getI (kI := 17) dX12_text_96 fl_X12_152 (sk_94 hS (by decide)) rfl rfl ?_
    refine T_putI (kI := 19) dX12_text_99 fp_X12_202 (sk_94 hS (by decide)) rfl rfl h (fun M17 h => ?_)
    refine V_aload_n dX12_text_102 rfl (xm 0 rfl) ?_
    refine V_iload_n dX12_text_103 rfl (xm 2 rfl) ?_
    refine xjE h (fun j19 hj19 h => ?_)
    have kj19 : ∀ (s18 : Int), j19 s18 = some E → V Y_X12_text 53 0 0 115 [(0, vR (some 94)), (1, vI v1), (2, vI y13)] [vI s18, vR (some 94)] S M17 (xqR S E.2 (some (vI E.1))) := by
      intro s18 h
      rw [hj19] at h
      refine T_putI (kI := 21) dX12_text_115 fp_X12_34 (sk_94 hS (by decide)) rfl rfl h (fun M20 h => ?_)
      refine V_iload_n dX12_text_118 rfl (xm 2 rfl) ?_
      refine V_if_ne (tgt := 124) dX12_text_119 (by decide) h (fun _ h => ?_) (fun _ h => ?_)
      · refine V_iconst dX12_text_122 ?_
        exact V_ireti dX12_text_123 rfl (q_wI h)
      · refine V_aload_n dX12_text_124 rfl (xm 0 rfl) ?_
        refine V_getR dX12_text_125 fl_X12_7 (sk_94 hS (by decide)) rfl ?_
        refine V_sipush dX12_text_128 (by decide) ?_
        refine V_iload_n dX12_text_131 rfl (xm 1 rfl) ?_
        refine V_iadd dX12_text_132 ?_
        refine V_aload_n dX12_text_133 rfl (xm 0 rfl) ?_
        refine V_getI (kI := 10) dX12_text_134 fl_X12_199 (sk_94 hS (by decide)) rfl rfl ?_
        refine T_iast dX12_text_137 (sk_95 hS (by decide)) rfl h (fun M21 h => ?_)
        refine V_iconst dX12_text_138 ?_
        refine V_istore_n (ls' := [(3, vI 0), (0, vR (some 94)), (1, vI v1), (2, vI y13)]) dX12_text_139 rfl (by decide) rfl ?_
        refine xbE h (fun M28 h29 h => ?_)
        refine V.pick [1, 2, 0] rfl ?_
        refine fX12_text_L140_ci (hS.le (by decide)) h29 ?_
        refine V_iconst dX12_text_227 ?_
        refine V_istore_n (ls' := [(3, vI 0), (0, vR (some 94)), (1, vI v1)]) dX12_text_228 rfl (by decide) rfl ?_
        refine xbE h (fun M32 h33 h => ?_)
        refine V.pick [1, 2, 0] rfl ?_
        refine fX12_text_L229_ci (hS.le (by decide)) h33 ?_
        refine V_aload_n dX12_text_267 rfl (xm 0 rfl) ?_
        refine V_getI (kI := 10) dX12_text_268 fl_X12_199 (sk_94 hS (by decide)) rfl rfl ?_
        exact V_ireti dX12_text_271 rfl (q_wI h)
    refine V_if_eq (tgt := 111) dX12_text_104 (by decide) h (fun _ h => ?_) (fun _ h => ?_)
    · refine V_aload_n dX12_text_111 rfl (xm 0 rfl) ?_
      refine V_getI (kI := 18) dX12_text_112 fl_X12_155 (sk_94 hS (by decide)) rfl rfl ?_
      refine V.pick [0, 1, 2] rfl ?_
      exact kj19 (M17 94 18) h
    · refine V_iconst dX12_text_107 ?_
      refine V_goto (tgt := 115) dX12_text_108 (by decide) ?_
      refine V.pick [0, 1, 2] rfl ?_
      exact kj19 ((-1)) h
  · refine V_aload_n dX12_text_14 rfl (xm 0 rfl) ?_
    refine V_iconst dX12_text_15 ?_
    refine T_putI (kI := 12) dX12_text_16 fp_X12_83 (sk_94 hS (by decide)) rfl rfl h (fun M34 h => ?_)
    refine V_aload_n dX12_text_19 rfl (xm 0 rfl) ?_
    refine V_iconst dX12_text_20 ?_
    refine T_putI (kI := 19) dX12_text_21 fp_X12_202 (sk_94 hS (by decide)) rfl rfl h (fun M35 h => ?_)
    refine V_aload_n dX12_text_24 rfl (xm 0 rfl) ?_
    refine V_iconst dX12_text_25 ?_
    refine T_putI (kI := 21) dX12_text_26 fp_X12_34 (sk_94 hS (by decide)) rfl rfl h (fun M36 h => ?_)
    refine V_iconst dX12_text_29 ?_
    exact V_ireti dX12_text_30 rfl (q_wI h)
def fX12_fault (M : xM) (v1 : Int) : Int := (if wr v1 = 0 then M 94 19 else (if wr v1 = wr 1 then M 94 21 else (-1)))
set_option maxRecDepth 20000 in
set_option maxHeartbeats 1000000 in
theorem fX12_fault_c {S : xS} {kp : Option Nat} (hS : xSk kp 95 S) {M : xM} {v1 : Int} {E : Int} (h : fX12_fault M v1 = E) :
    V Y_X12_fault 0 0 0 0 (xarg 0 [vR (some 94), vI v1]) [] S M (xqR S M (some (vI E))) := by
  unfold fX12_fault at h
  show V Y_X12_fault 0 0 0 0 [(0, vR (some 94)), (1, vI v1)] [] S M _
  refine V_iload_n dX12_fault_0 rfl (xm 1 rfl) ?_
  refine V_if_ne (tgt := 11) dX12_fault_1 (by decide) h (fun _ h => ?_) (fun _ h => ?_)
  · refine V_aload_n dX12_fault_4 rfl (xm 0 rfl) ?_
    refine V_getI (kI := 19) dX12_fault_5 fl_X12_202 (sk_94 hS (by decide)) rfl rfl ?_
    refine V_goto (tgt := 24) dX12_fault_8 (by decide) ?_
    exact V_ireti dX12_fault_24 rfl (q_tI h)
  · refine V_iload_n dX12_fault_11 rfl (xm 1 rfl) ?_
    refine V_iconst dX12_fault_12 ?_
    refine V_icmp_ne (tgt := 23) dX12_fault_13 (by decide) h (fun _ h => ?_) (fun _ h => ?_)
    · refine V_aload_n dX12_fault_16 rfl (xm 0 rfl) ?_
      refine V_getI (kI := 21) dX12_fault_17 fl_X12_34 (sk_94 hS (by decide)) rfl rfl ?_
      refine V_goto (tgt := 24) dX12_fault_20 (by decide) ?_
      exact V_ireti dX12_fault_24 rfl (q_tI h)
    · refine V_iconst dX12_fault_23 ?_
      exact V_ireti dX12_fault_24 rfl (q_tI h)
def fX12_both (v0 : Int) (v1 : Int) (v2 : Int) : Int := (if wr v0 = 13 then v1 + v2 else (if wr v0 = 14 then v1 - v2 else (if wr v0 = 15 then v1 * v2 else (if wr v0 = 16 then xor_ v1 v2 else (if wr v0 = 17 then (if wr v1 < wr v2 then 1 else 0) else (if wr v0 = 18 then (if wr v1 = wr v2 then 1 else 0) else (if wr v0 = 19 then (if wr v2 < wr v1 then 1 else 0) else (if wr v0 = 20 then xor_ v1 v2 else (if wr v0 = 21 then xand v1 v2 else xor_ v1 v2)))))))))
set_option maxRecDepth 20000 in
set_option maxHeartbeats 1000000 in
theorem fX12_both_c {S : xS} {kp : Option Nat} (hS : xSk kp 0 S) {M : xM} {v0 : Int} {v1 : Int} {v2 : Int} {E : Int} (h : fX12_both v0 v1 v2 = E) :
    V Y_X12_both 0 0 0 0 (xarg 0 [vI v0, vI v1, vI v2]) [] S M (xqR S M (some (vI E))) := by
  unfold fX12_both at h
  show V Y_X12_both 0 0 0 0 [(0, vI v0), (1, vI v1), (2, vI v2)] [] S M _
  refine V_iload_n dX12_both_0 rfl (xm 0 rfl) ?_
  refine xif h (fun c h => ?_) (fun c13 h => ?_)
  · refine V_tabIn (tgt := 52) dX12_both_1 c (by decide) (by decide) rfl (by decide) ?_
    refine V_iload_n dX12_both_52 rfl (xm 1 rfl) ?_
    refine V_iload_n dX12_both_53 rfl (xm 2 rfl) ?_
    refine V_iadd dX12_both_54 ?_
    exact V_ireti dX12_both_55 rfl (q_tI h)
  · refine xif h (fun c h => ?_) (fun c14 h => ?_)
    · refine V_tabIn (tgt := 56) dX12_both_1 c (by decide) (by decide) rfl (by decide) ?_
      refine V_iload_n dX12_both_56 rfl (xm 1 rfl) ?_
      refine V_iload_n dX12_both_57 rfl (xm 2 rfl) ?_
      refine V_isub dX12_both_58 ?_
      exact V_ireti dX12_both_59 rfl (q_tI h)
    · refine xif h (fun c h => ?_) (fun c15 h => ?_)
      · refine V_tabIn (tgt := 60) dX12_both_1 c (by decide) (by decide) rfl (by decide) ?_
        refine V_iload_n dX12_both_60 rfl (xm 1 rfl) ?_
        refine V_iload_n dX12_both_61 rfl (xm 2 rfl) ?_
        refine V_imul dX12_both_62 ?_
        exact V_ireti dX12_both_63 rfl (q_tI h)
      · refine xif h (fun c h => ?_) (fun c16 h => ?_)
        · refine V_tabIn (tgt := 101) dX12_both_1 c (by decide) (by decide) rfl (by decide) ?_
          refine V_iload_n dX12_both_101 rfl (xm 1 rfl) ?_
          refine V_iload_n dX12_both_102 rfl (xm 2 rfl) ?_
          refine V_ior dX12_both_103 ?_
          exact V_ireti dX12_both_104 rfl (q_tI h)
        · refine xif h (fun c h => ?_) (fun c17 h => ?_)
          · refine V_tabIn (tgt := 64) dX12_both_1 c (by decide) (by decide) rfl (by decide) ?_
            refine V_iload_n dX12_both_64 rfl (xm 1 rfl) ?_
            refine V_iload_n dX12_both_65 rfl (xm 2 rfl) ?_
            refine V_icmp_ge (tgt := 73) dX12_both_66 (by decide) h (fun _ h => ?_) (fun _ h => ?_)
            · refine V_iconst dX12_both_69 ?_
              refine V_goto (tgt := 74) dX12_both_70 (by decide) ?_
              exact V_ireti dX12_both_74 rfl (q_tI h)
            · refine V_iconst dX12_both_73 ?_
              exact V_ireti dX12_both_74 rfl (q_tI h)
          · refine xif h (fun c h => ?_) (fun c18 h => ?_)
            · refine V_tabIn (tgt := 75) dX12_both_1 c (by decide) (by decide) rfl (by decide) ?_
              refine V_iload_n dX12_both_75 rfl (xm 1 rfl) ?_
              refine V_iload_n dX12_both_76 rfl (xm 2 rfl) ?_
              refine V_icmp_ne (tgt := 84) dX12_both_77 (by decide) h (fun _ h => ?_) (fun _ h => ?_)
              · refine V_iconst dX12_both_80 ?_
                refine V_goto (tgt := 85) dX12_both_81 (by decide) ?_
                exact V_ireti dX12_both_85 rfl (q_tI h)
              · refine V_iconst dX12_both_84 ?_
                exact V_ireti dX12_both_85 rfl (q_tI h)
            · refine xif h (fun c h => ?_) (fun c19 h => ?_)
              · refine V_tabIn (tgt := 86) dX12_both_1 c (by decide) (by decide) rfl (by decide) ?_
                refine V_iload_n dX12_both_86 rfl (xm 1 rfl) ?_
                refine V_iload_n dX12_both_87 rfl (xm 2 rfl) ?_
                refine V_icmp_le (tgt := 95) dX12_both_88 (by decide) h (fun _ h => ?_) (fun _ h => ?_)
                · refine V_iconst dX12_both_91 ?_
                  refine V_goto (tgt := 96) dX12_both_92 (by decide) ?_
                  exact V_ireti dX12_both_96 rfl (q_tI h)
                · refine V_iconst dX12_both_95 ?_
                  exact V_ireti dX12_both_96 rfl (q_tI h)
              · refine xif h (fun c h => ?_) (fun c20 h => ?_)
                · refine V_tabIn (tgt := 101) dX12_both_1 c (by decide) (by decide) rfl (by decide) ?_
                  refine V_iload_n dX12_both_101 rfl (xm 1 rfl) ?_
                  refine V_iload_n dX12_both_102 rfl (xm 2 rfl) ?_
                  refine V_ior dX12_both_103 ?_
                  exact V_ireti dX12_both_104 rfl (q_tI h)
                · refine xif h (fun c h => ?_) (fun c21 h => ?_)
                  · refine V_tabIn (tgt := 97) dX12_both_1 c (by decide) (by decide) rfl (by decide) ?_
                    refine V_iload_n dX12_both_97 rfl (xm 1 rfl) ?_
                    refine V_iload_n dX12_both_98 rfl (xm 2 rfl) ?_
                    refine V_iand dX12_both_99 ?_
                    exact V_ireti dX12_both_100 rfl (q_tI h)
                  · refine V_tabOut (tgt := 101) dX12_both_1 (by omega) (by decide) ?_
                    refine V_iload_n dX12_both_101 rfl (xm 1 rfl) ?_
                    refine V_iload_n dX12_both_102 rfl (xm 2 rfl) ?_
                    refine V_ior dX12_both_103 ?_
                    exact V_ireti dX12_both_104 rfl (q_tI h)
def fX12_comesTo_L6 (n : Nat) (M : xM) (v1 : Int) (v3 : Int) (v4 : Int) (v5 : Int) : Option (xM) := match n with
  | 0 => none
  | n + 1 => (if wr v5 < wr v3 then (xrd M 95 5820 ((2540 + (820 * v1)) + (2 * v5)) fun r1 => xrd M 95 5820 (((2540 + (820 * v1)) + (2 * v5)) + 1) fun r2 => (if wr r1 < wr 13 then (xj (fun (s3 : Int) => xwt M 101 420 v4 s3 fun M5 => fX12_comesTo_L6 n M5 v1 v3 (v4 + 1) (v5 + 1)) fun j4 => (if wr r1 = 0 then j4 r2 else (xrd M 102 8 r1 fun r6 => j4 r6))) else (if wr r1 = wr 16 then (xrd M 101 420 (v4 - 1) fun r7 => xnz r2 (xwt M 101 420 (v4 - 1) (xdiv r7 r2) fun M8 => fX12_comesTo_L6 n M8 v1 v3 v4 (v5 + 1))) else (if wr r1 = wr 20 then (xrd M 101 420 (v4 - 1) fun r9 => xwt M 101 420 (v4 - 1) (1 - r9) fun M10 => fX12_comesTo_L6 n M10 v1 v3 v4 (v5 + 1)) else (xrd M 101 420 ((v4 + (-1)) - 1) fun r11 => xrd M 101 420 (v4 + (-1)) fun r12 => xwt M 101 420 ((v4 + (-1)) - 1) (fX12_both r1 r11 r12) fun M13 => fX12_comesTo_L6 n M13 v1 v3 (v4 + (-1)) (v5 + 1)))))) else some M)
set_option maxRecDepth 20000 in
set_option maxHeartbeats 1000000 in
theorem fX12_comesTo_L6_c {S : xS} {kp : Option Nat} (hS : xSk kp 103 S) {Q : Option xV → xS → xM → Prop} :
    ∀ (n : Nat) (M : xM) (v1 : Int) (v3 : Int) (v4 : Int) (v5 : Int) {Mz : xM}, fX12_comesTo_L6 n M v1 v3 v4 v5 = some Mz → V Y_X12_comesTo 1 0 0 186 [(0, vR (some 94))] [] S Mz Q → V Y_X12_comesTo 1 0 0 6 [(0, vR (some 94)), (1, vI v1), (3, vI v3), (4, vI v4), (5, vI v5)] [] S M Q := by
  intro n
  induction n with
  | zero =>
    intro M v1 v3 v4 v5 Mz h k
    cases h
  | succ n ih =>
    intro M v1 v3 v4 v5 Mz h k
    rw [fX12_comesTo_L6] at h
    refine V_iload dX12_comesTo_6 (xm 4 rfl) ?_
    refine V_iload_n dX12_comesTo_8 rfl (xm 2 rfl) ?_
    refine V_icmp_ge (tgt := 186) dX12_comesTo_9 (by decide) h (fun _ h => ?_) (fun _ h => ?_)
    · refine V_aload_n dX12_comesTo_12 rfl (xm 0 rfl) ?_
      refine V_getR dX12_comesTo_13 fl_X12_7 (sk_94 hS (by decide)) rfl ?_
      refine V_sipush dX12_comesTo_16 (by decide) ?_
      refine V_sipush dX12_comesTo_19 (by decide) ?_
      refine V_iload_n dX12_comesTo_22 rfl (xm 1 rfl) ?_
      refine V_imul dX12_comesTo_23 ?_
      refine V_iadd dX12_comesTo_24 ?_
      refine V_iconst dX12_comesTo_25 ?_
      refine V_iload dX12_comesTo_26 (xm 4 rfl) ?_
      refine V_imul dX12_comesTo_28 ?_
      refine V_iadd dX12_comesTo_29 ?_
      refine T_iald dX12_comesTo_30 (sk_95 hS (by decide)) rfl h (fun r1 h => ?_)
      refine V_istore (ls' := [(6, vI r1), (0, vR (some 94)), (1, vI v1), (3, vI v3), (4, vI v4), (5, vI v5)]) dX12_comesTo_31 (by decide) rfl ?_
      refine V_aload_n dX12_comesTo_33 rfl (xm 1 rfl) ?_
      refine V_getR dX12_comesTo_34 fl_X12_7 (sk_94 hS (by decide)) rfl ?_
      refine V_sipush dX12_comesTo_37 (by decide) ?_
      refine V_sipush dX12_comesTo_40 (by decide) ?_
      refine V_iload_n dX12_comesTo_43 rfl (xm 2 rfl) ?_
      refine V_imul dX12_comesTo_44 ?_
      refine V_iadd dX12_comesTo_45 ?_
      refine V_iconst dX12_comesTo_46 ?_
      refine V_iload dX12_comesTo_47 (xm 5 rfl) ?_
      refine V_imul dX12_comesTo_49 ?_
      refine V_iadd dX12_comesTo_50 ?_
      refine V_iconst dX12_comesTo_51 ?_
      refine V_iadd dX12_comesTo_52 ?_
      refine T_iald dX12_comesTo_53 (sk_95 hS (by decide)) rfl h (fun r2 h => ?_)
      refine V_istore (ls' := [(7, vI r2), (6, vI r1), (0, vR (some 94)), (1, vI v1), (3, vI v3), (4, vI v4), (5, vI v5)]) dX12_comesTo_54 (by decide) rfl ?_
      refine V_iload dX12_comesTo_56 (xm 1 rfl) ?_
      refine V_bipush dX12_comesTo_58 (by decide) ?_
      refine V_icmp_ge (tgt := 93) dX12_comesTo_60 (by decide) h (fun _ h => ?_) (fun _ h => ?_)
      · refine V_aload_n dX12_comesTo_63 rfl (xm 2 rfl) ?_
        refine V_getR dX12_comesTo_64 fl_X12_28 (sk_94 hS (by decide)) rfl ?_
        refine V_iload dX12_comesTo_67 (xm 5 rfl) ?_
        refine V_iload dX12_comesTo_69 (xm 1 rfl) ?_
        refine xjE h (fun j4 hj4 h => ?_)
        have kj4 : ∀ (s3 : Int), j4 s3 = some Mz → V Y_X12_comesTo 1 0 0 86 [(0, vR (some 94)), (1, vI v1), (3, vI v3), (4, vI v4), (5, vI v5)] [vI s3, vI v4, vR (some 101)] S M Q := by
          intro s3 h
          rw [hj4] at h
          refine T_iast dX12_comesTo_86 (sk_101 hS (by decide)) rfl h (fun M5 h => ?_)
          refine V_iinc (ls' := [(4, vI (v4 + 1)), (0, vR (some 94)), (1, vI v1), (3, vI v3), (5, vI v5)]) dX12_comesTo_87 (xm 3 rfl) (by decide) rfl ?_
          refine V_goto (tgt := 180) dX12_comesTo_90 (by decide) ?_
          refine V_iinc (ls' := [(5, vI (v5 + 1)), (4, vI (v4 + 1)), (0, vR (some 94)), (1, vI v1), (3, vI v3)]) dX12_comesTo_180 (xm 4 rfl) (by decide) rfl ?_
          refine V_goto (tgt := 6) dX12_comesTo_183 (by decide) ?_
          refine V.pick [2, 3, 4, 1, 0] rfl ?_
          exact ih M5 v1 v3 (v4 + 1) (v5 + 1) h k
        refine V_if_ne (tgt := 79) dX12_comesTo_71 (by decide) h (fun _ h => ?_) (fun _ h => ?_)
        · refine V_iload dX12_comesTo_74 (xm 0 rfl) ?_
          refine V_goto (tgt := 86) dX12_comesTo_76 (by decide) ?_
          refine V.pick [2, 3, 4, 5, 6] rfl ?_
          exact kj4 r2 h
        · refine V_aload_n dX12_comesTo_79 rfl (xm 2 rfl) ?_
          refine V_getR dX12_comesTo_80 fl_X12_31 (sk_94 hS (by decide)) rfl ?_
          refine V_iload dX12_comesTo_83 (xm 1 rfl) ?_
          refine T_iald dX12_comesTo_85 (sk_102 hS (by decide)) rfl h (fun r6 h => ?_)
          refine V.pick [2, 3, 4, 5, 6] rfl ?_
          exact kj4 r6 h
      · refine V_iload dX12_comesTo_93 (xm 1 rfl) ?_
        refine V_bipush dX12_comesTo_95 (by decide) ?_
        refine V_icmp_ne (tgt := 117) dX12_comesTo_97 (by decide) h (fun _ h => ?_) (fun _ h => ?_)
        · refine V_aload_n dX12_comesTo_100 rfl (xm 2 rfl) ?_
          refine V_getR dX12_comesTo_101 fl_X12_28 (sk_94 hS (by decide)) rfl ?_
          refine V_iload dX12_comesTo_104 (xm 5 rfl) ?_
          refine V_iconst dX12_comesTo_106 ?_
          refine V_isub dX12_comesTo_107 ?_
          refine V_dup2 dX12_comesTo_108 rfl rfl ?_
          refine T_iald dX12_comesTo_109 (sk_101 hS (by decide)) rfl h (fun r7 h => ?_)
          refine V_iload dX12_comesTo_110 (xm 0 rfl) ?_
          refine T_idiv dX12_comesTo_112 h (fun h => ?_)
          refine T_iast dX12_comesTo_113 (sk_101 hS (by decide)) rfl h (fun M8 h => ?_)
          refine V_goto (tgt := 180) dX12_comesTo_114 (by decide) ?_
          refine V_iinc (ls' := [(5, vI (v5 + 1)), (7, vI r2), (6, vI r1), (0, vR (some 94)), (1, vI v1), (3, vI v3), (4, vI v4)]) dX12_comesTo_180 (xm 6 rfl) (by decide) rfl ?_
          refine V_goto (tgt := 6) dX12_comesTo_183 (by decide) ?_
          refine V.pick [3, 4, 5, 6, 0] rfl ?_
          exact ih M8 v1 v3 v4 (v5 + 1) h k
        · refine V_iload dX12_comesTo_117 (xm 1 rfl) ?_
          refine V_bipush dX12_comesTo_119 (by decide) ?_
          refine V_icmp_ne (tgt := 147) dX12_comesTo_121 (by decide) h (fun _ h => ?_) (fun _ h => ?_)
          · refine V_aload_n dX12_comesTo_124 rfl (xm 2 rfl) ?_
            refine V_getR dX12_comesTo_125 fl_X12_28 (sk_94 hS (by decide)) rfl ?_
            refine V_iload dX12_comesTo_128 (xm 5 rfl) ?_
            refine V_iconst dX12_comesTo_130 ?_
            refine V_isub dX12_comesTo_131 ?_
            refine V_iconst dX12_comesTo_132 ?_
            refine V_aload_n dX12_comesTo_133 rfl (xm 2 rfl) ?_
            refine V_getR dX12_comesTo_134 fl_X12_28 (sk_94 hS (by decide)) rfl ?_
            refine V_iload dX12_comesTo_137 (xm 5 rfl) ?_
            refine V_iconst dX12_comesTo_139 ?_
            refine V_isub dX12_comesTo_140 ?_
            refine T_iald dX12_comesTo_141 (sk_101 hS (by decide)) rfl h (fun r9 h => ?_)
            refine V_isub dX12_comesTo_142 ?_
            refine T_iast dX12_comesTo_143 (sk_101 hS (by decide)) rfl h (fun M10 h => ?_)
            refine V_goto (tgt := 180) dX12_comesTo_144 (by decide) ?_
            refine V_iinc (ls' := [(5, vI (v5 + 1)), (7, vI r2), (6, vI r1), (0, vR (some 94)), (1, vI v1), (3, vI v3), (4, vI v4)]) dX12_comesTo_180 (xm 6 rfl) (by decide) rfl ?_
            refine V_goto (tgt := 6) dX12_comesTo_183 (by decide) ?_
            refine V.pick [3, 4, 5, 6, 0] rfl ?_
            exact ih M10 v1 v3 v4 (v5 + 1) h k
          · refine V_iinc (ls' := [(4, vI (v4 + (-1))), (7, vI r2), (6, vI r1), (0, vR (some 94)), (1, vI v1), (3, vI v3), (5, vI v5)]) dX12_comesTo_147 (xm 5 rfl) (by decide) rfl ?_
            refine V_aload_n dX12_comesTo_150 rfl (xm 3 rfl) ?_
            refine V_getR dX12_comesTo_151 fl_X12_28 (sk_94 hS (by decide)) rfl ?_
            refine V_iload dX12_comesTo_154 (xm 0 rfl) ?_
            refine V_iconst dX12_comesTo_156 ?_
            refine V_isub dX12_comesTo_157 ?_
            refine V_iload dX12_comesTo_158 (xm 2 rfl) ?_
            refine V_aload_n dX12_comesTo_160 rfl (xm 3 rfl) ?_
            refine V_getR dX12_comesTo_161 fl_X12_28 (sk_94 hS (by decide)) rfl ?_
            refine V_iload dX12_comesTo_164 (xm 0 rfl) ?_
            refine V_iconst dX12_comesTo_166 ?_
            refine V_isub dX12_comesTo_167 ?_
            refine T_iald dX12_comesTo_168 (sk_101 hS (by decide)) rfl h (fun r11 h => ?_)
            refine V_aload_n dX12_comesTo_169 rfl (xm 3 rfl) ?_
            refine V_getR dX12_comesTo_170 fl_X12_28 (sk_94 hS (by decide)) rfl ?_
            refine V_iload dX12_comesTo_173 (xm 0 rfl) ?_
            refine T_iald dX12_comesTo_175 (sk_101 hS (by decide)) rfl h (fun r12 h => ?_)
            refine T_callSI (host := "") dX12_comesTo_176 ok_X12_both lk_X12_208.1 lk_X12_208.2 (hV := ((fX12_both_c (hS.le (by decide)) rfl).mono (by decide) (Nat.le_refl _) (Nat.le_refl _))) rfl (Nat.le_of_ble_eq_true rfl) rfl (Nat.le_of_ble_eq_true rfl) ?_
            refine T_iast dX12_comesTo_179 (sk_101 hS (by decide)) rfl h (fun M13 h => ?_)
            refine V_iinc (ls' := [(5, vI (v5 + 1)), (4, vI (v4 + (-1))), (7, vI r2), (6, vI r1), (0, vR (some 94)), (1, vI v1), (3, vI v3)]) dX12_comesTo_180 (xm 6 rfl) (by decide) rfl ?_
            refine V_goto (tgt := 6) dX12_comesTo_183 (by decide) ?_
            refine V.pick [4, 5, 6, 1, 0] rfl ?_
            exact ih M13 v1 v3 (v4 + (-1)) (v5 + 1) h k
    · cases h
      refine V.pick [0] rfl ?_
      exact k
theorem fX12_comesTo_L6_ci {S : xS} {kp : Option Nat} (hS : xSk kp 103 S) {Q : Option xV → xS → xM → Prop} {n : Nat} {M : xM} {v1 : Int} {v3 : Int} {v4 : Int} {v5 : Int} {Mz : xM} (hl : fX12_comesTo_L6 n M v1 v3 v4 v5 = some Mz) (k : V Y_X12_comesTo 1 0 0 186 [(0, vR (some 94))] [] S Mz Q) : V Y_X12_comesTo 1 0 0 6 [(0, vR (some 94)), (1, vI v1), (3, vI v3), (4, vI v4), (5, vI v5)] [] S M Q := fX12_comesTo_L6_c hS _ _ _ _ _ _ hl k
def fX12_comesTo (M : xM) (v1 : Int) (v2 : Int) (v3 : Int) : Option (Int × xM) := xb (fX12_comesTo_L6 xfuel M v1 v3 0 v2) fun M14 => some (M14 101 0, M14)
set_option maxRecDepth 20000 in
set_option maxHeartbeats 1000000 in
theorem fX12_comesTo_c {S : xS} {kp : Option Nat} (hS : xSk kp 103 S) {M : xM} {v1 : Int} {v2 : Int} {v3 : Int} {E : Int × xM} (h : fX12_comesTo M v1 v2 v3 = some E) :
    V Y_X12_comesTo 1 0 0 0 (xarg 0 [vR (some 94), vI v1, vI v2, vI v3]) [] S M (xqR S E.2 (some (vI E.1))) := by
  unfold fX12_comesTo at h
  show V Y_X12_comesTo 1 0 0 0 [(0, vR (some 94)), (1, vI v1), (2, vI v2), (3, vI v3)] [] S M _
  refine V_iconst dX12_comesTo_0 ?_
  refine V_istore (ls' := [(4, vI 0), (0, vR (some 94)), (1, vI v1), (2, vI v2), (3, vI v3)]) dX12_comesTo_1 (by decide) rfl ?_
  refine V_iload_n dX12_comesTo_3 rfl (xm 3 rfl) ?_
  refine V_istore (ls' := [(5, vI v2), (4, vI 0), (0, vR (some 94)), (1, vI v1), (2, vI v2), (3, vI v3)]) dX12_comesTo_4 (by decide) rfl ?_
  refine xbE h (fun M14 h15 h => ?_)
  refine V.pick [2, 3, 5, 1, 0] rfl ?_
  refine fX12_comesTo_L6_ci (hS.le (by decide)) h15 ?_
  refine V_aload_n dX12_comesTo_186 rfl (xm 0 rfl) ?_
  refine V_getR dX12_comesTo_187 fl_X12_28 (sk_94 hS (by decide)) rfl ?_
  refine V_iconst dX12_comesTo_190 ?_
  refine V_ialdK (j := 0) dX12_comesTo_191 (sk_101 hS (by decide)) (by decide) (by decide) ?_
  exact V_ireti dX12_comesTo_192 rfl (q_wI h)
def fX12_modulo (M : xM) (v1 : Int) : Option Int := xnz (M 95 0) (xnz (M 95 0) (some (xrem ((xrem v1 (M 95 0)) + (M 95 0)) (M 95 0))))
set_option maxRecDepth 20000 in
set_option maxHeartbeats 1000000 in
theorem fX12_modulo_c {S : xS} {kp : Option Nat} (hS : xSk kp 96 S) {M : xM} {v1 : Int} {E : Int} (h : fX12_modulo M v1 = some E) :
    V Y_X12_modulo 0 0 0 0 (xarg 0 [vR (some 94), vI v1]) [] S M (xqR S M (some (vI E))) := by
  unfold fX12_modulo at h
  show V Y_X12_modulo 0 0 0 0 [(0, vR (some 94)), (1, vI v1)] [] S M _
  refine V_iload_n dX12_modulo_0 rfl (xm 1 rfl) ?_
  refine V_aload_n dX12_modulo_1 rfl (xm 0 rfl) ?_
  refine V_getR dX12_modulo_2 fl_X12_7 (sk_94 hS (by decide)) rfl ?_
  refine V_iconst dX12_modulo_5 ?_
  refine V_ialdK (j := 0) dX12_modulo_6 (sk_95 hS (by decide)) (by decide) (by decide) ?_
  refine T_irem dX12_modulo_7 h (fun h => ?_)
  refine V_aload_n dX12_modulo_8 rfl (xm 0 rfl) ?_
  refine V_getR dX12_modulo_9 fl_X12_7 (sk_94 hS (by decide)) rfl ?_
  refine V_iconst dX12_modulo_12 ?_
  refine V_ialdK (j := 0) dX12_modulo_13 (sk_95 hS (by decide)) (by decide) (by decide) ?_
  refine V_iadd dX12_modulo_14 ?_
  refine V_aload_n dX12_modulo_15 rfl (xm 0 rfl) ?_
  refine V_getR dX12_modulo_16 fl_X12_7 (sk_94 hS (by decide)) rfl ?_
  refine V_iconst dX12_modulo_19 ?_
  refine V_ialdK (j := 0) dX12_modulo_20 (sk_95 hS (by decide)) (by decide) (by decide) ?_
  refine T_irem dX12_modulo_21 h (fun h => ?_)
  exact V_ireti dX12_modulo_22 rfl (q_pI h)
