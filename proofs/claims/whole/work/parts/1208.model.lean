def fX12_laysBest_L147 (n : Nat) (M : xM) (v1 : Int) (v3 : Int) (v4 : Int) (v5 : Int) (v6 : Int) : Option (xM) := match n with
  | 0 => none
  | n + 1 => (if wr v6 < wr 3 then (xb (fX12_modulo M (v5 + (fX12_turnOf v6))) fun r17 => xrd M 103 4320 (fX12_placeOf v4 r17 v6) fun r18 => xrd M 104 1464 ((24 * (v4 + 1)) + r17) fun r19 => xj (fun (_ : Unit) => xwt M 104 1464 ((24 * v4) + v5) (r18 + r19) fun M21 => fX12_laysBest_L147 n M21 v1 v3 v4 v5 (v6 + 1)) fun j20 => (if wr v6 = 0 then j20 () else (if wr v3 = 0 then (xrd M 104 1464 ((24 * v4) + v5) fun r22 => (if wr (r18 + r19) < wr r22 then j20 () else fX12_laysBest_L147 n M v1 v3 v4 v5 (v6 + 1))) else (xrd M 104 1464 ((24 * v4) + v5) fun r23 => (if wr r23 < wr (r18 + r19) then j20 () else fX12_laysBest_L147 n M v1 v3 v4 v5 (v6 + 1)))))) else some M)
set_option maxRecDepth 20000 in
set_option maxHeartbeats 1000000 in
theorem fX12_laysBest_L147_c {S : xS} {kp : Option Nat} (hS : xSk kp 105 S) {Q : Option xV → xS → xM → Prop} :
    ∀ (n : Nat) (M : xM) (v1 : Int) (v3 : Int) (v4 : Int) (v5 : Int) (v6 : Int) {Mz : xM}, fX12_laysBest_L147 n M v1 v3 v4 v5 v6 = some Mz → V Y_X12_laysBest 4 0 0 269 [(0, vR (some 94)), (1, vI v1), (3, vI v3), (4, vI v4), (5, vI v5)] [] S Mz Q → V Y_X12_laysBest 4 0 0 147 [(0, vR (some 94)), (1, vI v1), (3, vI v3), (4, vI v4), (5, vI v5), (6, vI v6)] [] S M Q := by
  intro n
  induction n with
  | zero =>
    intro M v1 v3 v4 v5 v6 Mz h k
    cases h
  | succ n ih =>
    intro M v1 v3 v4 v5 v6 Mz h k
    rw [fX12_laysBest_L147] at h
    refine V_iload dX12_laysBest_147 (xm 5 rfl) ?_
    refine V_iconst dX12_laysBest_149 ?_
    refine V_icmp_ge (tgt := 269) dX12_laysBest_150 (by decide) h (fun _ h => ?_) (fun _ h => ?_)
    · refine V_aload_n dX12_laysBest_153 rfl (xm 0 rfl) ?_
      refine V_iload dX12_laysBest_154 (xm 4 rfl) ?_
      refine V_iload dX12_laysBest_156 (xm 5 rfl) ?_
      refine T_callSI (host := "") dX12_laysBest_158 ok_X12_turnOf lk_X12_283.1 lk_X12_283.2 (hV := ((fX12_turnOf_c (hS.le (by decide)) rfl).mono (by decide) (Nat.le_refl _) (Nat.le_refl _))) rfl (Nat.le_of_ble_eq_true rfl) rfl (Nat.le_of_ble_eq_true rfl) ?_
      refine V_iadd dX12_laysBest_161 ?_
      refine xbE h (fun r17 h16 h => ?_)
      refine T_callVI dX12_laysBest_162 ok_X12_modulo (by exact ⟨by decide, rfl⟩) lk_X12_216.1 lk_X12_216.2 (sk_94 hS (by decide)) (hV := ((fX12_modulo_c (hS.le (by decide)) h16).mono (by decide) (Nat.le_refl _) (Nat.le_refl _))) rfl (Nat.le_of_ble_eq_true rfl) rfl (Nat.le_of_ble_eq_true rfl) ?_
      refine V_istore (ls' := [(7, vI r17), (0, vR (some 94)), (1, vI v1), (3, vI v3), (4, vI v4), (5, vI v5), (6, vI v6)]) dX12_laysBest_165 (by decide) rfl ?_
      refine V_aload_n dX12_laysBest_167 rfl (xm 1 rfl) ?_
      refine V_getR dX12_laysBest_168 fl_X12_38 (sk_94 hS (by decide)) rfl ?_
      refine V_aload_n dX12_laysBest_171 rfl (xm 1 rfl) ?_
      refine V_iload dX12_laysBest_172 (xm 4 rfl) ?_
      refine V_iload dX12_laysBest_174 (xm 0 rfl) ?_
      refine V_iload dX12_laysBest_176 (xm 6 rfl) ?_
      refine T_callVI dX12_laysBest_178 ok_X12_placeOf (by exact ⟨by decide, rfl⟩) lk_X12_280.1 lk_X12_280.2 (sk_94 hS (by decide)) (hV := ((fX12_placeOf_c (hS.le (by decide)) rfl).mono (by decide) (Nat.le_refl _) (Nat.le_refl _))) rfl (Nat.le_of_ble_eq_true rfl) rfl (Nat.le_of_ble_eq_true rfl) ?_
      refine T_iald dX12_laysBest_181 (sk_103 hS (by decide)) rfl h (fun r18 h => ?_)
      refine V_aload_n dX12_laysBest_182 rfl (xm 1 rfl) ?_
      refine V_getR dX12_laysBest_183 fl_X12_41 (sk_94 hS (by decide)) rfl ?_
      refine V_bipush dX12_laysBest_186 (by decide) ?_
      refine V_iload dX12_laysBest_188 (xm 4 rfl) ?_
      refine V_iconst dX12_laysBest_190 ?_
      refine V_iadd dX12_laysBest_191 ?_
      refine V_imul dX12_laysBest_192 ?_
      refine V_iload dX12_laysBest_193 (xm 0 rfl) ?_
      refine V_iadd dX12_laysBest_195 ?_
      refine T_iald dX12_laysBest_196 (sk_104 hS (by decide)) rfl h (fun r19 h => ?_)
      refine V_iadd dX12_laysBest_197 ?_
      refine V_istore (ls' := [(8, vI (r18 + r19)), (7, vI r17), (0, vR (some 94)), (1, vI v1), (3, vI v3), (4, vI v4), (5, vI v5), (6, vI v6)]) dX12_laysBest_198 (by decide) rfl ?_
      refine V_iload dX12_laysBest_200 (xm 7 rfl) ?_
      refine xjE h (fun j20 hj20 h => ?_)
      have kj20 : ∀ (u : Unit), j20 u = some Mz → V Y_X12_laysBest 4 0 0 248 [(0, vR (some 94)), (1, vI v1), (3, vI v3), (4, vI v4), (5, vI v5), (6, vI v6), (8, vI (r18 + r19))] [] S M Q := by
        intro u h
        rw [hj20] at h
        refine V_aload_n dX12_laysBest_248 rfl (xm 0 rfl) ?_
        refine V_getR dX12_laysBest_249 fl_X12_41 (sk_94 hS (by decide)) rfl ?_
        refine V_bipush dX12_laysBest_252 (by decide) ?_
        refine V_iload dX12_laysBest_254 (xm 3 rfl) ?_
        refine V_imul dX12_laysBest_256 ?_
        refine V_iload dX12_laysBest_257 (xm 4 rfl) ?_
        refine V_iadd dX12_laysBest_259 ?_
        refine V_iload dX12_laysBest_260 (xm 6 rfl) ?_
        refine T_iast dX12_laysBest_262 (sk_104 hS (by decide)) rfl h (fun M21 h => ?_)
        refine V_iinc (ls' := [(6, vI (v6 + 1)), (0, vR (some 94)), (1, vI v1), (3, vI v3), (4, vI v4), (5, vI v5), (8, vI (r18 + r19))]) dX12_laysBest_263 (xm 5 rfl) (by decide) rfl ?_
        refine V_goto (tgt := 147) dX12_laysBest_266 (by decide) ?_
        refine V.pick [1, 2, 3, 4, 5, 0] rfl ?_
        exact ih M21 v1 v3 v4 v5 (v6 + 1) h k
      refine V_if_eq (tgt := 248) dX12_laysBest_202 (by decide) h (fun _ h => ?_) (fun _ h => ?_)
      · refine V.pick [2, 3, 4, 5, 6, 7, 0] rfl ?_
        exact kj20 () h
      · refine V_iload_n dX12_laysBest_205 rfl (xm 4 rfl) ?_
        refine V_if_eq (tgt := 230) dX12_laysBest_206 (by decide) h (fun _ h => ?_) (fun _ h => ?_)
        · refine V_iload dX12_laysBest_230 (xm 0 rfl) ?_
          refine V_aload_n dX12_laysBest_232 rfl (xm 2 rfl) ?_
          refine V_getR dX12_laysBest_233 fl_X12_41 (sk_94 hS (by decide)) rfl ?_
          refine V_bipush dX12_laysBest_236 (by decide) ?_
          refine V_iload dX12_laysBest_238 (xm 5 rfl) ?_
          refine V_imul dX12_laysBest_240 ?_
          refine V_iload dX12_laysBest_241 (xm 6 rfl) ?_
          refine V_iadd dX12_laysBest_243 ?_
          refine T_iald dX12_laysBest_244 (sk_104 hS (by decide)) rfl h (fun r22 h => ?_)
          refine V_icmp_ge (tgt := 263) dX12_laysBest_245 (by decide) h (fun _ h => ?_) (fun _ h => ?_)
          · refine V.pick [2, 3, 4, 5, 6, 7, 0] rfl ?_
            exact kj20 () h
          · refine V_iinc (ls' := [(6, vI (v6 + 1)), (8, vI (r18 + r19)), (7, vI r17), (0, vR (some 94)), (1, vI v1), (3, vI v3), (4, vI v4), (5, vI v5)]) dX12_laysBest_263 (xm 7 rfl) (by decide) rfl ?_
            refine V_goto (tgt := 147) dX12_laysBest_266 (by decide) ?_
            refine V.pick [3, 4, 5, 6, 7, 0] rfl ?_
            exact ih M v1 v3 v4 v5 (v6 + 1) h k
        · refine V_iload dX12_laysBest_209 (xm 0 rfl) ?_
          refine V_aload_n dX12_laysBest_211 rfl (xm 2 rfl) ?_
          refine V_getR dX12_laysBest_212 fl_X12_41 (sk_94 hS (by decide)) rfl ?_
          refine V_bipush dX12_laysBest_215 (by decide) ?_
          refine V_iload dX12_laysBest_217 (xm 5 rfl) ?_
          refine V_imul dX12_laysBest_219 ?_
          refine V_iload dX12_laysBest_220 (xm 6 rfl) ?_
          refine V_iadd dX12_laysBest_222 ?_
          refine T_iald dX12_laysBest_223 (sk_104 hS (by decide)) rfl h (fun r23 h => ?_)
          refine V_icmp_le (tgt := 263) dX12_laysBest_224 (by decide) h (fun _ h => ?_) (fun _ h => ?_)
          · refine V_goto (tgt := 248) dX12_laysBest_227 (by decide) ?_
            refine V.pick [2, 3, 4, 5, 6, 7, 0] rfl ?_
            exact kj20 () h
          · refine V_iinc (ls' := [(6, vI (v6 + 1)), (8, vI (r18 + r19)), (7, vI r17), (0, vR (some 94)), (1, vI v1), (3, vI v3), (4, vI v4), (5, vI v5)]) dX12_laysBest_263 (xm 7 rfl) (by decide) rfl ?_
            refine V_goto (tgt := 147) dX12_laysBest_266 (by decide) ?_
            refine V.pick [3, 4, 5, 6, 7, 0] rfl ?_
            exact ih M v1 v3 v4 v5 (v6 + 1) h k
    · cases h
      refine V.pick [0, 1, 2, 3, 4] rfl ?_
      exact k
theorem fX12_laysBest_L147_ci {S : xS} {kp : Option Nat} (hS : xSk kp 105 S) {Q : Option xV → xS → xM → Prop} {n : Nat} {M : xM} {v1 : Int} {v3 : Int} {v4 : Int} {v5 : Int} {v6 : Int} {Mz : xM} (hl : fX12_laysBest_L147 n M v1 v3 v4 v5 v6 = some Mz) (k : V Y_X12_laysBest 4 0 0 269 [(0, vR (some 94)), (1, vI v1), (3, vI v3), (4, vI v4), (5, vI v5)] [] S Mz Q) : V Y_X12_laysBest 4 0 0 147 [(0, vR (some 94)), (1, vI v1), (3, vI v3), (4, vI v4), (5, vI v5), (6, vI v6)] [] S M Q := fX12_laysBest_L147_c hS _ _ _ _ _ _ _ hl k
def fX12_laysBest_L133 (n : Nat) (M : xM) (v1 : Int) (v3 : Int) (v4 : Int) (v5 : Int) : Option (xM) := match n with
  | 0 => none
  | n + 1 => (if wr v5 < wr (M 95 0) then (xb (fX12_laysBest_L147 xfuel M v1 v3 v4 v5 0) fun M24 => fX12_laysBest_L133 n M24 v1 v3 v4 (v5 + 1)) else some M)
set_option maxRecDepth 20000 in
set_option maxHeartbeats 1000000 in
theorem fX12_laysBest_L133_c {S : xS} {kp : Option Nat} (hS : xSk kp 105 S) {Q : Option xV → xS → xM → Prop} :
    ∀ (n : Nat) (M : xM) (v1 : Int) (v3 : Int) (v4 : Int) (v5 : Int) {Mz : xM}, fX12_laysBest_L133 n M v1 v3 v4 v5 = some Mz → V Y_X12_laysBest 4 0 0 275 [(0, vR (some 94)), (1, vI v1), (3, vI v3), (4, vI v4)] [] S Mz Q → V Y_X12_laysBest 4 0 0 133 [(0, vR (some 94)), (1, vI v1), (3, vI v3), (4, vI v4), (5, vI v5)] [] S M Q := by
  intro n
  induction n with
  | zero =>
    intro M v1 v3 v4 v5 Mz h k
    cases h
  | succ n ih =>
    intro M v1 v3 v4 v5 Mz h k
    rw [fX12_laysBest_L133] at h
    refine V_iload dX12_laysBest_133 (xm 4 rfl) ?_
    refine V_aload_n dX12_laysBest_135 rfl (xm 0 rfl) ?_
    refine V_getR dX12_laysBest_136 fl_X12_7 (sk_94 hS (by decide)) rfl ?_
    refine V_iconst dX12_laysBest_139 ?_
    refine V_ialdK (j := 0) dX12_laysBest_140 (sk_95 hS (by decide)) (by decide) (by decide) ?_
    refine V_icmp_ge (tgt := 275) dX12_laysBest_141 (by decide) h (fun _ h => ?_) (fun _ h => ?_)
    · refine V_iconst dX12_laysBest_144 ?_
      refine V_istore (ls' := [(6, vI 0), (0, vR (some 94)), (1, vI v1), (3, vI v3), (4, vI v4), (5, vI v5)]) dX12_laysBest_145 (by decide) rfl ?_
      refine xbE h (fun M24 h25 h => ?_)
      refine V.pick [1, 2, 3, 4, 5, 0] rfl ?_
      refine fX12_laysBest_L147_ci (hS.le (by decide)) h25 ?_
      refine V_iinc (ls' := [(5, vI (v5 + 1)), (0, vR (some 94)), (1, vI v1), (3, vI v3), (4, vI v4)]) dX12_laysBest_269 (xm 4 rfl) (by decide) rfl ?_
      refine V_goto (tgt := 133) dX12_laysBest_272 (by decide) ?_
      refine V.pick [1, 2, 3, 4, 0] rfl ?_
      exact ih M24 v1 v3 v4 (v5 + 1) h k
    · cases h
      refine V.pick [0, 1, 2, 3] rfl ?_
      exact k
theorem fX12_laysBest_L133_ci {S : xS} {kp : Option Nat} (hS : xSk kp 105 S) {Q : Option xV → xS → xM → Prop} {n : Nat} {M : xM} {v1 : Int} {v3 : Int} {v4 : Int} {v5 : Int} {Mz : xM} (hl : fX12_laysBest_L133 n M v1 v3 v4 v5 = some Mz) (k : V Y_X12_laysBest 4 0 0 275 [(0, vR (some 94)), (1, vI v1), (3, vI v3), (4, vI v4)] [] S Mz Q) : V Y_X12_laysBest 4 0 0 133 [(0, vR (some 94)), (1, vI v1), (3, vI v3), (4, vI v4), (5, vI v5)] [] S M Q := fX12_laysBest_L133_c hS _ _ _ _ _ _ hl k
def fX12_laysBest_L38 (n : Nat) (M : xM) (v1 : Int) (v3 : Int) (v4 : Int) : Option (xM) := match n with
  | 0 => none
  | n + 1 => (if wr v4 < 0 then some M else (xb (fX12_laysBest_L46 xfuel M v1 v3 v4 0) fun M14 => xb (fX12_laysBest_L133 xfuel M14 v1 v3 v4 0) fun M26 => fX12_laysBest_L38 n M26 v1 v3 (v4 + (-1))))
set_option maxRecDepth 20000 in
set_option maxHeartbeats 1000000 in
theorem fX12_laysBest_L38_c {S : xS} {kp : Option Nat} (hS : xSk kp 105 S) {Q : Option xV → xS → xM → Prop} :
    ∀ (n : Nat) (M : xM) (v1 : Int) (v3 : Int) (v4 : Int) {Mz : xM}, fX12_laysBest_L38 n M v1 v3 v4 = some Mz → V Y_X12_laysBest 4 0 0 281 [] [] S Mz Q → V Y_X12_laysBest 4 0 0 38 [(0, vR (some 94)), (1, vI v1), (3, vI v3), (4, vI v4)] [] S M Q := by
  intro n
  induction n with
  | zero =>
    intro M v1 v3 v4 Mz h k
    cases h
  | succ n ih =>
    intro M v1 v3 v4 Mz h k
    rw [fX12_laysBest_L38] at h
    refine V_iload dX12_laysBest_38 (xm 3 rfl) ?_
    refine V_if_lt (tgt := 281) dX12_laysBest_40 (by decide) h (fun _ h => ?_) (fun _ h => ?_)
    · cases h
      refine V.pick [] rfl ?_
      exact k
    · refine V_iconst dX12_laysBest_43 ?_
      refine V_istore (ls' := [(5, vI 0), (0, vR (some 94)), (1, vI v1), (3, vI v3), (4, vI v4)]) dX12_laysBest_44 (by decide) rfl ?_
      refine xbE h (fun M14 h15 h => ?_)
      refine V.pick [1, 2, 3, 4, 0] rfl ?_
      refine fX12_laysBest_L46_ci (hS.le (by decide)) h15 ?_
      refine V_iconst dX12_laysBest_130 ?_
      refine V_istore (ls' := [(5, vI 0), (0, vR (some 94)), (1, vI v1), (3, vI v3), (4, vI v4)]) dX12_laysBest_131 (by decide) rfl ?_
      refine xbE h (fun M26 h27 h => ?_)
      refine V.pick [1, 2, 3, 4, 0] rfl ?_
      refine fX12_laysBest_L133_ci (hS.le (by decide)) h27 ?_
      refine V_iinc (ls' := [(4, vI (v4 + (-1))), (0, vR (some 94)), (1, vI v1), (3, vI v3)]) dX12_laysBest_275 (xm 3 rfl) (by decide) rfl ?_
      refine V_goto (tgt := 38) dX12_laysBest_278 (by decide) ?_
      refine V.pick [1, 2, 3, 0] rfl ?_
      exact ih M26 v1 v3 (v4 + (-1)) h k
theorem fX12_laysBest_L38_ci {S : xS} {kp : Option Nat} (hS : xSk kp 105 S) {Q : Option xV → xS → xM → Prop} {n : Nat} {M : xM} {v1 : Int} {v3 : Int} {v4 : Int} {Mz : xM} (hl : fX12_laysBest_L38 n M v1 v3 v4 = some Mz) (k : V Y_X12_laysBest 4 0 0 281 [] [] S Mz Q) : V Y_X12_laysBest 4 0 0 38 [(0, vR (some 94)), (1, vI v1), (3, vI v3), (4, vI v4)] [] S M Q := fX12_laysBest_L38_c hS _ _ _ _ _ hl k
def fX12_laysBest (M : xM) (v1 : Int) (v2 : Int) (v3 : Int) : Option xM := xb (fX12_laysBest_L3 xfuel M v1 v2 v3 0) fun M2 => xb (fX12_laysBest_L38 xfuel M2 v1 v3 (v2 - 1)) fun M28 => some M28
set_option maxRecDepth 20000 in
set_option maxHeartbeats 1000000 in
theorem fX12_laysBest_c {S : xS} {kp : Option Nat} (hS : xSk kp 105 S) {M : xM} {v1 : Int} {v2 : Int} {v3 : Int} {E : xM} (h : fX12_laysBest M v1 v2 v3 = some E) :
    V Y_X12_laysBest 4 0 0 0 (xarg 0 [vR (some 94), vI v1, vI v2, vI v3]) [] S M (xqR S E none) := by
  unfold fX12_laysBest at h
  show V Y_X12_laysBest 4 0 0 0 [(0, vR (some 94)), (1, vI v1), (2, vI v2), (3, vI v3)] [] S M _
  refine V_iconst dX12_laysBest_0 ?_
  refine V_istore (ls' := [(4, vI 0), (0, vR (some 94)), (1, vI v1), (2, vI v2), (3, vI v3)]) dX12_laysBest_1 (by decide) rfl ?_
  refine xbE h (fun M2 h3 h => ?_)
  refine V.pick [1, 2, 3, 4, 0] rfl ?_
  refine fX12_laysBest_L3_ci (hS.le (by decide)) h3 ?_
  refine V_iload_n dX12_laysBest_33 rfl (xm 2 rfl) ?_
  refine V_iconst dX12_laysBest_34 ?_
  refine V_isub dX12_laysBest_35 ?_
  refine V_istore (ls' := [(4, vI (v2 - 1)), (0, vR (some 94)), (1, vI v1), (2, vI v2), (3, vI v3)]) dX12_laysBest_36 (by decide) rfl ?_
  refine xbE h (fun M28 h29 h => ?_)
  refine V.pick [1, 2, 4, 0] rfl ?_
  refine fX12_laysBest_L38_ci (hS.le (by decide)) h29 ?_
  exact V_ret dX12_laysBest_281 rfl (q_v h)
def fX12_laysTurns_L27 (n : Nat) (M : xM) (v1 : Int) (v2 : Int) (v3 : Int) (v4 : Int) : Option (Int) := match n with
  | 0 => none
  | n + 1 => xb (fX12_modulo M (v2 + (fX12_turnOf v4))) fun r4 => xrd M 103 4320 (fX12_placeOf v3 r4 v4) fun r5 => xb (fX12_modulo M (v2 + (fX12_turnOf v4))) fun r7 => xrd M 104 1464 ((24 * (v3 + 1)) + r7) fun r8 => xrd M 104 1464 ((24 * v3) + v2) fun r9 => (if wr (r5 + r8) = wr r9 then some v4 else fX12_laysTurns_L27 n M v1 v2 v3 (v4 + 1))
set_option maxRecDepth 20000 in
set_option maxHeartbeats 1000000 in
theorem fX12_laysTurns_L27_c {S : xS} {kp : Option Nat} (hS : xSk kp 105 S) {Q : Option xV → xS → xM → Prop} :
    ∀ (n : Nat) (M : xM) (v1 : Int) (v2 : Int) (v3 : Int) (v4 : Int) {x4 : Int}, fX12_laysTurns_L27 n M v1 v2 v3 v4 = some x4 → V Y_X12_laysTurns 5 0 0 94 [(0, vR (some 94)), (1, vI v1), (2, vI v2), (3, vI v3), (4, vI x4)] [] S M Q → V Y_X12_laysTurns 5 0 0 27 [(0, vR (some 94)), (1, vI v1), (2, vI v2), (3, vI v3), (4, vI v4)] [] S M Q := by
  intro n
  induction n with
  | zero =>
    intro M v1 v2 v3 v4 x4 h k
    cases h
  | succ n ih =>
    intro M v1 v2 v3 v4 x4 h k
    rw [fX12_laysTurns_L27] at h
    refine V_aload_n dX12_laysTurns_27 rfl (xm 0 rfl) ?_
    refine V_getR dX12_laysTurns_28 fl_X12_38 (sk_94 hS (by decide)) rfl ?_
    refine V_aload_n dX12_laysTurns_31 rfl (xm 0 rfl) ?_
    refine V_iload_n dX12_laysTurns_32 rfl (xm 3 rfl) ?_
    refine V_aload_n dX12_laysTurns_33 rfl (xm 0 rfl) ?_
    refine V_iload_n dX12_laysTurns_34 rfl (xm 2 rfl) ?_
    refine V_iload dX12_laysTurns_35 (xm 4 rfl) ?_
    refine T_callSI (host := "") dX12_laysTurns_37 ok_X12_turnOf lk_X12_283.1 lk_X12_283.2 (hV := ((fX12_turnOf_c (hS.le (by decide)) rfl).mono (by decide) (Nat.le_refl _) (Nat.le_refl _))) rfl (Nat.le_of_ble_eq_true rfl) rfl (Nat.le_of_ble_eq_true rfl) ?_
    refine V_iadd dX12_laysTurns_40 ?_
    refine xbE h (fun r4 h3 h => ?_)
    refine T_callVI dX12_laysTurns_41 ok_X12_modulo (by exact ⟨by decide, rfl⟩) lk_X12_216.1 lk_X12_216.2 (sk_94 hS (by decide)) (hV := ((fX12_modulo_c (hS.le (by decide)) h3).mono (by decide) (Nat.le_refl _) (Nat.le_refl _))) rfl (Nat.le_of_ble_eq_true rfl) rfl (Nat.le_of_ble_eq_true rfl) ?_
    refine V_iload dX12_laysTurns_44 (xm 4 rfl) ?_
    refine T_callVI dX12_laysTurns_46 ok_X12_placeOf (by exact ⟨by decide, rfl⟩) lk_X12_280.1 lk_X12_280.2 (sk_94 hS (by decide)) (hV := ((fX12_placeOf_c (hS.le (by decide)) rfl).mono (by decide) (Nat.le_refl _) (Nat.le_refl _))) rfl (Nat.le_of_ble_eq_true rfl) rfl (Nat.le_of_ble_eq_true rfl) ?_
    refine T_iald dX12_laysTurns_49 (sk_103 hS (by decide)) rfl h (fun r5 h => ?_)
    refine V_aload_n dX12_laysTurns_50 rfl (xm 0 rfl) ?_
    refine V_getR dX12_laysTurns_51 fl_X12_41 (sk_94 hS (by decide)) rfl ?_
    refine V_bipush dX12_laysTurns_54 (by decide) ?_
    refine V_iload_n dX12_laysTurns_56 rfl (xm 3 rfl) ?_
    refine V_iconst dX12_laysTurns_57 ?_
    refine V_iadd dX12_laysTurns_58 ?_
    refine V_imul dX12_laysTurns_59 ?_
    refine V_aload_n dX12_laysTurns_60 rfl (xm 0 rfl) ?_
    refine V_iload_n dX12_laysTurns_61 rfl (xm 2 rfl) ?_
    refine V_iload dX12_laysTurns_62 (xm 4 rfl) ?_
    refine T_callSI (host := "") dX12_laysTurns_64 ok_X12_turnOf lk_X12_283.1 lk_X12_283.2 (hV := ((fX12_turnOf_c (hS.le (by decide)) rfl).mono (by decide) (Nat.le_refl _) (Nat.le_refl _))) rfl (Nat.le_of_ble_eq_true rfl) rfl (Nat.le_of_ble_eq_true rfl) ?_
    refine V_iadd dX12_laysTurns_67 ?_
    refine xbE h (fun r7 h6 h => ?_)
    refine T_callVI dX12_laysTurns_68 ok_X12_modulo (by exact ⟨by decide, rfl⟩) lk_X12_216.1 lk_X12_216.2 (sk_94 hS (by decide)) (hV := ((fX12_modulo_c (hS.le (by decide)) h6).mono (by decide) (Nat.le_refl _) (Nat.le_refl _))) rfl (Nat.le_of_ble_eq_true rfl) rfl (Nat.le_of_ble_eq_true rfl) ?_
    refine V_iadd dX12_laysTurns_71 ?_
    refine T_iald dX12_laysTurns_72 (sk_104 hS (by decide)) rfl h (fun r8 h => ?_)
    refine V_iadd dX12_laysTurns_73 ?_
    refine V_aload_n dX12_laysTurns_74 rfl (xm 0 rfl) ?_
    refine V_getR dX12_laysTurns_75 fl_X12_41 (sk_94 hS (by decide)) rfl ?_
    refine V_bipush dX12_laysTurns_78 (by decide) ?_
    refine V_iload_n dX12_laysTurns_80 rfl (xm 3 rfl) ?_
    refine V_imul dX12_laysTurns_81 ?_
    refine V_iload_n dX12_laysTurns_82 rfl (xm 2 rfl) ?_
    refine V_iadd dX12_laysTurns_83 ?_
    refine T_iald dX12_laysTurns_84 (sk_104 hS (by decide)) rfl h (fun r9 h => ?_)
    refine V_icmp_eq (tgt := 94) dX12_laysTurns_85 (by decide) h (fun _ h => ?_) (fun _ h => ?_)
    · cases h
      refine V.pick [0, 1, 2, 3, 4] rfl ?_
      exact k
    · refine V_iinc (ls' := [(4, vI (v4 + 1)), (0, vR (some 94)), (1, vI v1), (2, vI v2), (3, vI v3)]) dX12_laysTurns_88 (xm 4 rfl) (by decide) rfl ?_
      refine V_goto (tgt := 27) dX12_laysTurns_91 (by decide) ?_
      refine V.pick [1, 2, 3, 4, 0] rfl ?_
      exact ih M v1 v2 v3 (v4 + 1) h k
theorem fX12_laysTurns_L27_ci {S : xS} {kp : Option Nat} (hS : xSk kp 105 S) {Q : Option xV → xS → xM → Prop} {n : Nat} {M : xM} {v1 : Int} {v2 : Int} {v3 : Int} {v4 : Int} {x4 : Int} (hl : fX12_laysTurns_L27 n M v1 v2 v3 v4 = some x4) (k : V Y_X12_laysTurns 5 0 0 94 [(0, vR (some 94)), (1, vI v1), (2, vI v2), (3, vI v3), (4, vI x4)] [] S M Q) : V Y_X12_laysTurns 5 0 0 27 [(0, vR (some 94)), (1, vI v1), (2, vI v2), (3, vI v3), (4, vI v4)] [] S M Q := fX12_laysTurns_L27_c hS _ _ _ _ _ _ hl k
def fX12_laysTurns_L19 (n : Nat) (M : xM) (v1 : Int) (v2 : Int) (v3 : Int) : Option (xM) := match n with
  | 0 => none
  | n + 1 => (if wr v3 < wr v1 then (xb (fX12_laysTurns_L27 xfuel M v1 v2 v3 0) fun y10 => xwt M 105 30 v3 (fX12_turnOf y10) fun M12 => xb (fX12_modulo M12 (v2 + (fX12_turnOf y10))) fun r14 => fX12_laysTurns_L19 n M12 v1 r14 (v3 + 1)) else some M)
set_option maxRecDepth 20000 in
set_option maxHeartbeats 1000000 in
theorem fX12_laysTurns_L19_c {S : xS} {kp : Option Nat} (hS : xSk kp 106 S) {Q : Option xV → xS → xM → Prop} :
    ∀ (n : Nat) (M : xM) (v1 : Int) (v2 : Int) (v3 : Int) {Mz : xM}, fX12_laysTurns_L19 n M v1 v2 v3 = some Mz → V Y_X12_laysTurns 5 0 0 123 [(0, vR (some 94))] [] S Mz Q → V Y_X12_laysTurns 5 0 0 19 [(0, vR (some 94)), (1, vI v1), (2, vI v2), (3, vI v3)] [] S M Q := by
  intro n
  induction n with
  | zero =>
    intro M v1 v2 v3 Mz h k
    cases h
  | succ n ih =>
    intro M v1 v2 v3 Mz h k
    rw [fX12_laysTurns_L19] at h
    refine V_iload_n dX12_laysTurns_19 rfl (xm 3 rfl) ?_
    refine V_iload_n dX12_laysTurns_20 rfl (xm 1 rfl) ?_
    refine V_icmp_ge (tgt := 123) dX12_laysTurns_21 (by decide) h (fun _ h => ?_) (fun _ h => ?_)
    · refine V_iconst dX12_laysTurns_24 ?_
      refine V_istore (ls' := [(4, vI 0), (0, vR (some 94)), (1, vI v1), (2, vI v2), (3, vI v3)]) dX12_laysTurns_25 (by decide) rfl ?_
      refine xbE h (fun y10 h11 h => ?_)
      refine V.pick [1, 2, 3, 4, 0] rfl ?_
      refine fX12_laysTurns_L27_ci (hS.le (by decide)) h11 ?_
      refine V_aload_n dX12_laysTurns_94 rfl (xm 0 rfl) ?_
      refine V_getR dX12_laysTurns_95 fl_X12_44 (sk_94 hS (by decide)) rfl ?_
      refine V_iload_n dX12_laysTurns_98 rfl (xm 3 rfl) ?_
      refine V_iload dX12_laysTurns_99 (xm 4 rfl) ?_
      refine T_callSI (host := "") dX12_laysTurns_101 ok_X12_turnOf lk_X12_283.1 lk_X12_283.2 (hV := ((fX12_turnOf_c (hS.le (by decide)) rfl).mono (by decide) (Nat.le_refl _) (Nat.le_refl _))) rfl (Nat.le_of_ble_eq_true rfl) rfl (Nat.le_of_ble_eq_true rfl) ?_
      refine T_iast dX12_laysTurns_104 (sk_105 hS (by decide)) rfl h (fun M12 h => ?_)
      refine V_aload_n dX12_laysTurns_105 rfl (xm 0 rfl) ?_
      refine V_iload_n dX12_laysTurns_106 rfl (xm 2 rfl) ?_
      refine V_iload dX12_laysTurns_107 (xm 4 rfl) ?_
      refine T_callSI (host := "") dX12_laysTurns_109 ok_X12_turnOf lk_X12_283.1 lk_X12_283.2 (hV := ((fX12_turnOf_c (hS.le (by decide)) rfl).mono (by decide) (Nat.le_refl _) (Nat.le_refl _))) rfl (Nat.le_of_ble_eq_true rfl) rfl (Nat.le_of_ble_eq_true rfl) ?_
      refine V_iadd dX12_laysTurns_112 ?_
      refine xbE h (fun r14 h13 h => ?_)
      refine T_callVI dX12_laysTurns_113 ok_X12_modulo (by exact ⟨by decide, rfl⟩) lk_X12_216.1 lk_X12_216.2 (sk_94 hS (by decide)) (hV := ((fX12_modulo_c (hS.le (by decide)) h13).mono (by decide) (Nat.le_refl _) (Nat.le_refl _))) rfl (Nat.le_of_ble_eq_true rfl) rfl (Nat.le_of_ble_eq_true rfl) ?_
      refine V_istore_n (ls' := [(2, vI r14), (0, vR (some 94)), (1, vI v1), (3, vI v3), (4, vI y10)]) dX12_laysTurns_116 rfl (by decide) rfl ?_
      refine V_iinc (ls' := [(3, vI (v3 + 1)), (2, vI r14), (0, vR (some 94)), (1, vI v1), (4, vI y10)]) dX12_laysTurns_117 (xm 3 rfl) (by decide) rfl ?_
      refine V_goto (tgt := 19) dX12_laysTurns_120 (by decide) ?_
      refine V.pick [2, 3, 1, 0] rfl ?_
      exact ih M12 v1 r14 (v3 + 1) h k
    · cases h
      refine V.pick [0] rfl ?_
      exact k
theorem fX12_laysTurns_L19_ci {S : xS} {kp : Option Nat} (hS : xSk kp 106 S) {Q : Option xV → xS → xM → Prop} {n : Nat} {M : xM} {v1 : Int} {v2 : Int} {v3 : Int} {Mz : xM} (hl : fX12_laysTurns_L19 n M v1 v2 v3 = some Mz) (k : V Y_X12_laysTurns 5 0 0 123 [(0, vR (some 94))] [] S Mz Q) : V Y_X12_laysTurns 5 0 0 19 [(0, vR (some 94)), (1, vI v1), (2, vI v2), (3, vI v3)] [] S M Q := fX12_laysTurns_L19_c hS _ _ _ _ _ hl k
def fX12_laysTurns (M : xM) (v1 : Int) : Option (Int × xM) := xb (fX12_laysBest M (fX12_allPlots M) v1 1) fun M2 => xb (fX12_laysTurns_L19 xfuel M2 v1 (M2 95 1) 0) fun M15 => xrd M15 104 1464 (M15 95 1) fun r17 => some (r17, M15)
set_option maxRecDepth 20000 in
set_option maxHeartbeats 1000000 in
theorem fX12_laysTurns_c {S : xS} {kp : Option Nat} (hS : xSk kp 106 S) {M : xM} {v1 : Int} {E : Int × xM} (h : fX12_laysTurns M v1 = some E) :
    V Y_X12_laysTurns 5 0 0 0 (xarg 0 [vR (some 94), vI v1]) [] S M (xqR S E.2 (some (vI E.1))) := by
  unfold fX12_laysTurns at h
  show V Y_X12_laysTurns 5 0 0 0 [(0, vR (some 94)), (1, vI v1)] [] S M _
  refine V_aload_n dX12_laysTurns_0 rfl (xm 0 rfl) ?_
  refine V_aload_n dX12_laysTurns_1 rfl (xm 0 rfl) ?_
  refine T_callVI dX12_laysTurns_2 ok_X12_allPlots (by exact ⟨by decide, rfl⟩) lk_X12_255.1 lk_X12_255.2 (sk_94 hS (by decide)) (hV := ((fX12_allPlots_c (hS.le (by decide)) rfl).mono (by decide) (Nat.le_refl _) (Nat.le_refl _))) rfl (Nat.le_of_ble_eq_true rfl) rfl (Nat.le_of_ble_eq_true rfl) ?_
  refine V_iload_n dX12_laysTurns_5 rfl (xm 1 rfl) ?_
  refine V_iconst dX12_laysTurns_6 ?_
  refine xbE h (fun M2 h1 h => ?_)
  refine T_callVv dX12_laysTurns_7 ok_X12_laysBest (by exact ⟨by decide, rfl⟩) lk_X12_289.1 lk_X12_289.2 (sk_94 hS (by decide)) (hV := ((fX12_laysBest_c (hS.le (by decide)) h1).mono (by decide) (Nat.le_refl _) (Nat.le_refl _))) rfl (Nat.le_of_ble_eq_true rfl) rfl (Nat.le_of_ble_eq_true rfl) ?_
  refine V_aload_n dX12_laysTurns_10 rfl (xm 0 rfl) ?_
  refine V_getR dX12_laysTurns_11 fl_X12_7 (sk_94 hS (by decide)) rfl ?_
  refine V_iconst dX12_laysTurns_14 ?_
  refine V_ialdK (j := 1) dX12_laysTurns_15 (sk_95 hS (by decide)) (by decide) (by decide) ?_
  refine V_istore_n (ls' := [(2, vI (M2 95 1)), (0, vR (some 94)), (1, vI v1)]) dX12_laysTurns_16 rfl (by decide) rfl ?_
  refine V_iconst dX12_laysTurns_17 ?_
  refine V_istore_n (ls' := [(3, vI 0), (2, vI (M2 95 1)), (0, vR (some 94)), (1, vI v1)]) dX12_laysTurns_18 rfl (by decide) rfl ?_
  refine xbE h (fun M15 h16 h => ?_)
  refine V.pick [2, 3, 1, 0] rfl ?_
  refine fX12_laysTurns_L19_ci (hS.le (by decide)) h16 ?_
  refine V_aload_n dX12_laysTurns_123 rfl (xm 0 rfl) ?_
  refine V_getR dX12_laysTurns_124 fl_X12_41 (sk_94 hS (by decide)) rfl ?_
  refine V_aload_n dX12_laysTurns_127 rfl (xm 0 rfl) ?_
  refine V_getR dX12_laysTurns_128 fl_X12_7 (sk_94 hS (by decide)) rfl ?_
  refine V_iconst dX12_laysTurns_131 ?_
  refine V_ialdK (j := 1) dX12_laysTurns_132 (sk_95 hS (by decide)) (by decide) (by decide) ?_
  refine T_iald dX12_laysTurns_133 (sk_104 hS (by decide)) rfl h (fun r17 h => ?_)
  exact V_ireti dX12_laysTurns_134 rfl (q_wI h)
def fX12_best (M : xM) (v1 : Int) (v2 : Int) : Option (Int × xM) := (if (fX12_isIn v1 1 30) = true then (xj (fun (_ : Unit) => xb2 (fX12_laysTurns M v1) fun r3 M4 => (if wr v2 = 0 then some (r3, M4) else (xrd M4 105 30 (v2 - 10) fun r5 => some (r5 + 2, M4)))) fun j1 => (if wr v2 = 0 then j1 () else (if (fX12_isIn v2 10 (9 + v1)) = true then j1 () else some ((-1000000), M)))) else some ((-1000000), M))
set_option maxRecDepth 20000 in
set_option maxHeartbeats 1000000 in
theorem fX12_best_c {S : xS} {kp : Option Nat} (hS : xSk kp 106 S) {M : xM} {v1 : Int} {v2 : Int} {E : Int × xM} (h : fX12_best M v1 v2 = some E) :
    V Y_X12_best 6 0 0 0 (xarg 0 [vR (some 94), vI v1, vI v2]) [] S M (xqR S E.2 (some (vI E.1))) := by
  unfold fX12_best at h
  show V Y_X12_best 6 0 0 0 [(0, vR (some 94)), (1, vI v1), (2, vI v2)] [] S M _
  refine V_iload_n dX12_best_0 rfl (xm 1 rfl) ?_
  refine V_iconst dX12_best_1 ?_
  refine V_bipush dX12_best_2 (by decide) ?_
  refine T_callSI (host := "") dX12_best_4 ok_X12_isIn lk_X12_70.1 lk_X12_70.2 (hV := ((fX12_isIn_c (hS.le (by decide)) rfl).mono (by decide) (Nat.le_refl _) (Nat.le_refl _))) rfl (Nat.le_of_ble_eq_true rfl) rfl (Nat.le_of_ble_eq_true rfl) ?_
  refine V_if_eqB (tgt := 27) dX12_best_7 (by decide) h (fun _ h => ?_) (fun _ h => ?_)
  · refine V_iload_n dX12_best_10 rfl (xm 2 rfl) ?_
    refine xjE h (fun j1 hj1 h => ?_)
    have kj1 : ∀ (u : Unit), j1 u = some E → V Y_X12_best 6 0 0 31 [(0, vR (some 94)), (1, vI v1), (2, vI v2)] [] S M (xqR S E.2 (some (vI E.1))) := by
      intro u h
      rw [hj1] at h
      refine V_aload_n dX12_best_31 rfl (xm 0 rfl) ?_
      refine V_iload_n dX12_best_32 rfl (xm 1 rfl) ?_
      refine xb2E h (fun r3 M4 h2 h => ?_)
      refine T_callVI dX12_best_33 ok_X12_laysTurns (by exact ⟨by decide, rfl⟩) lk_X12_294.1 lk_X12_294.2 (sk_94 hS (by decide)) (hV := ((fX12_laysTurns_c (hS.le (by decide)) h2).mono (by decide) (Nat.le_refl _) (Nat.le_refl _))) rfl (Nat.le_of_ble_eq_true rfl) rfl (Nat.le_of_ble_eq_true rfl) ?_
      refine V_istore_n (ls' := [(3, vI r3), (0, vR (some 94)), (1, vI v1), (2, vI v2)]) dX12_best_36 rfl (by decide) rfl ?_
      refine V_iload_n dX12_best_37 rfl (xm 3 rfl) ?_
      refine V_if_ne (tgt := 45) dX12_best_38 (by decide) h (fun _ h => ?_) (fun _ h => ?_)
      · refine V_iload_n dX12_best_41 rfl (xm 0 rfl) ?_
        refine V_goto (tgt := 56) dX12_best_42 (by decide) ?_
        exact V_ireti dX12_best_56 rfl (q_wI h)
      · refine V_aload_n dX12_best_45 rfl (xm 1 rfl) ?_
        refine V_getR dX12_best_46 fl_X12_44 (sk_94 hS (by decide)) rfl ?_
        refine V_iload_n dX12_best_49 rfl (xm 3 rfl) ?_
        refine V_bipush dX12_best_50 (by decide) ?_
        refine V_isub dX12_best_52 ?_
        refine T_iald dX12_best_53 (sk_105 hS (by decide)) rfl h (fun r5 h => ?_)
        refine V_iconst dX12_best_54 ?_
        refine V_iadd dX12_best_55 ?_
        exact V_ireti dX12_best_56 rfl (q_wI h)
    refine V_if_eq (tgt := 31) dX12_best_11 (by decide) h (fun _ h => ?_) (fun _ h => ?_)
    · refine V.pick [0, 1, 2] rfl ?_
      exact kj1 () h
    · refine V_iload_n dX12_best_14 rfl (xm 2 rfl) ?_
      refine V_bipush dX12_best_15 (by decide) ?_
      refine V_bipush dX12_best_17 (by decide) ?_
      refine V_iload_n dX12_best_19 rfl (xm 1 rfl) ?_
      refine V_iadd dX12_best_20 ?_
      refine T_callSI (host := "") dX12_best_21 ok_X12_isIn lk_X12_70.1 lk_X12_70.2 (hV := ((fX12_isIn_c (hS.le (by decide)) rfl).mono (by decide) (Nat.le_refl _) (Nat.le_refl _))) rfl (Nat.le_of_ble_eq_true rfl) rfl (Nat.le_of_ble_eq_true rfl) ?_
      refine V_if_neB (tgt := 31) dX12_best_24 (by decide) h (fun _ h => ?_) (fun _ h => ?_)
      · refine V.pick [0, 1, 2] rfl ?_
        exact kj1 () h
      · refine V_ldcw (n := (-1000000)) dX12_best_27 (xsg7 66 rfl rfl : Cond.constant RX12 293 (-1000000) ∈ xT) (by decide) ?_
        exact V_ireti dX12_best_30 rfl (q_wI h)
  · refine V_ldcw (n := (-1000000)) dX12_best_27 (xsg7 66 rfl rfl : Cond.constant RX12 293 (-1000000) ∈ xT) (by decide) ?_
    exact V_ireti dX12_best_30 rfl (q_wI h)
def fX12_triesFair_L30 (rc : xM → Int → Int → Int → Option (xM)) (n : Nat) (M : xM) (v1 : Int) (v2 : Int) (v3 : Int) (v4 : Int) (v5 : Int) (v6 : Int) : Option (xM) := match n with
  | 0 => none
  | n + 1 => (if wr v6 < wr (M 95 5) then (xrd M 108 10 v6 fun r3 => xb2 (fX12_worthOf M v6 ((M 95 2) + v1) v5 (fX12_turnOf v4)) fun r5 M6 => xwt M6 108 10 v6 (r3 + r5) fun M7 => fX12_triesFair_L30 rc n M7 v1 v2 v3 v4 v5 (v6 + 1)) else some M)
set_option maxRecDepth 20000 in
set_option maxHeartbeats 1000000 in
theorem fX12_triesFair_L30_c {S : xS} {kp : Option Nat} (hS : xSk kp 109 S) {Q : Option xV → xS → xM → Prop} {m : Nat} {rc : xM → Int → Int → Int → Option (xM)} (hm : 3 ≤ m) (ih0 : ∀ {M : xM} {v1 : Int} {v2 : Int} {v3 : Int} {E : xM}, rc M v1 v2 v3 = some E → V Y_X12_triesFair m 0 0 0 (xarg 0 [vR (some 94), vI v1, vI v2, vI v3]) [] S M (xqR S E none)) :
    ∀ (n : Nat) (M : xM) (v1 : Int) (v2 : Int) (v3 : Int) (v4 : Int) (v5 : Int) (v6 : Int) {Mz : xM}, fX12_triesFair_L30 rc n M v1 v2 v3 v4 v5 v6 = some Mz → V Y_X12_triesFair (m + 1) 0 0 78 [(0, vR (some 94)), (1, vI v1), (2, vI v2), (3, vI v3), (4, vI v4), (5, vI v5)] [] S Mz Q → V Y_X12_triesFair (m + 1) 0 0 30 [(0, vR (some 94)), (1, vI v1), (2, vI v2), (3, vI v3), (4, vI v4), (5, vI v5), (6, vI v6)] [] S M Q := by
  intro n
  induction n with
  | zero =>
    intro M v1 v2 v3 v4 v5 v6 Mz h k
    cases h
  | succ n ih =>
    intro M v1 v2 v3 v4 v5 v6 Mz h k
    rw [fX12_triesFair_L30] at h
    refine V_iload dX12_triesFair_30 (xm 6 rfl) ?_
    refine V_aload_n dX12_triesFair_32 rfl (xm 0 rfl) ?_
    refine V_getR dX12_triesFair_33 fl_X12_7 (sk_94 hS (by decide)) rfl ?_
    refine V_iconst dX12_triesFair_36 ?_
    refine V_ialdK (j := 5) dX12_triesFair_37 (sk_95 hS (by decide)) (by decide) (by decide) ?_
    refine V_icmp_ge (tgt := 78) dX12_triesFair_38 (by decide) h (fun _ h => ?_) (fun _ h => ?_)
    · refine V_aload_n dX12_triesFair_41 rfl (xm 0 rfl) ?_
      refine V_getR dX12_triesFair_42 fl_X12_53 (sk_94 hS (by decide)) rfl ?_
      refine V_iload dX12_triesFair_45 (xm 6 rfl) ?_
      refine V_dup2 dX12_triesFair_47 rfl rfl ?_
      refine T_iald dX12_triesFair_48 (sk_108 hS (by decide)) rfl h (fun r3 h => ?_)
      refine V_aload_n dX12_triesFair_49 rfl (xm 0 rfl) ?_
      refine V_iload dX12_triesFair_50 (xm 6 rfl) ?_
      refine V_aload_n dX12_triesFair_52 rfl (xm 0 rfl) ?_
      refine V_getR dX12_triesFair_53 fl_X12_7 (sk_94 hS (by decide)) rfl ?_
      refine V_iconst dX12_triesFair_56 ?_
      refine V_ialdK (j := 2) dX12_triesFair_57 (sk_95 hS (by decide)) (by decide) (by decide) ?_
      refine V_iload_n dX12_triesFair_58 rfl (xm 1 rfl) ?_
      refine V_iadd dX12_triesFair_59 ?_
      refine V_iload dX12_triesFair_60 (xm 5 rfl) ?_
      refine V_iload dX12_triesFair_62 (xm 4 rfl) ?_
      refine T_callSI (host := "") dX12_triesFair_64 ok_X12_turnOf lk_X12_283.1 lk_X12_283.2 (hV := ((fX12_turnOf_c (hS.le (by decide)) rfl).mono (by omega) (Nat.le_refl _) (Nat.le_refl _))) rfl (Nat.le_of_ble_eq_true rfl) rfl (Nat.le_of_ble_eq_true rfl) ?_
      refine xb2E h (fun r5 M6 h4 h => ?_)
      refine T_callVI dX12_triesFair_67 ok_X12_worthOf (by exact ⟨by decide, rfl⟩) lk_X12_232.1 lk_X12_232.2 (sk_94 hS (by decide)) (hV := ((fX12_worthOf_c (hS.le (by decide)) h4).mono (by omega) (Nat.le_refl _) (Nat.le_refl _))) rfl (Nat.le_of_ble_eq_true rfl) rfl (Nat.le_of_ble_eq_true rfl) ?_
      refine V_iadd dX12_triesFair_70 ?_
      refine T_iast dX12_triesFair_71 (sk_108 hS (by decide)) rfl h (fun M7 h => ?_)
      refine V_iinc (ls' := [(6, vI (v6 + 1)), (0, vR (some 94)), (1, vI v1), (2, vI v2), (3, vI v3), (4, vI v4), (5, vI v5)]) dX12_triesFair_72 (xm 6 rfl) (by decide) rfl ?_
      refine V_goto (tgt := 30) dX12_triesFair_75 (by decide) ?_
      refine V.pick [1, 2, 3, 4, 5, 6, 0] rfl ?_
      exact ih M7 v1 v2 v3 v4 v5 (v6 + 1) h k
    · cases h
      refine V.pick [0, 1, 2, 3, 4, 5] rfl ?_
      exact k
theorem fX12_triesFair_L30_ci {S : xS} {kp : Option Nat} (hS : xSk kp 109 S) {Q : Option xV → xS → xM → Prop} {m : Nat} {rc : xM → Int → Int → Int → Option (xM)} (hm : 3 ≤ m) (ih0 : ∀ {M : xM} {v1 : Int} {v2 : Int} {v3 : Int} {E : xM}, rc M v1 v2 v3 = some E → V Y_X12_triesFair m 0 0 0 (xarg 0 [vR (some 94), vI v1, vI v2, vI v3]) [] S M (xqR S E none)) {n : Nat} {M : xM} {v1 : Int} {v2 : Int} {v3 : Int} {v4 : Int} {v5 : Int} {v6 : Int} {Mz : xM} (hl : fX12_triesFair_L30 rc n M v1 v2 v3 v4 v5 v6 = some Mz) (k : V Y_X12_triesFair (m + 1) 0 0 78 [(0, vR (some 94)), (1, vI v1), (2, vI v2), (3, vI v3), (4, vI v4), (5, vI v5)] [] S Mz Q) : V Y_X12_triesFair (m + 1) 0 0 30 [(0, vR (some 94)), (1, vI v1), (2, vI v2), (3, vI v3), (4, vI v4), (5, vI v5), (6, vI v6)] [] S M Q := fX12_triesFair_L30_c hS hm ih0 _ _ _ _ _ _ _ _ hl k
def fX12_triesFair_L102 (rc : xM → Int → Int → Int → Option (xM)) (n : Nat) (M : xM) (v1 : Int) (v2 : Int) (v3 : Int) (v4 : Int) (v5 : Int) (v6 : Int) : Option (xM) := match n with
  | 0 => none
  | n + 1 => (if wr v6 < wr (M 95 5) then (xrd M 108 10 v6 fun r13 => xb2 (fX12_worthOf M v6 ((M 95 2) + v1) v5 (fX12_turnOf v4)) fun r15 M16 => xwt M16 108 10 v6 (r13 - r15) fun M17 => fX12_triesFair_L102 rc n M17 v1 v2 v3 v4 v5 (v6 + 1)) else some M)
set_option maxRecDepth 20000 in
set_option maxHeartbeats 1000000 in
theorem fX12_triesFair_L102_c {S : xS} {kp : Option Nat} (hS : xSk kp 109 S) {Q : Option xV → xS → xM → Prop} {m : Nat} {rc : xM → Int → Int → Int → Option (xM)} (hm : 3 ≤ m) (ih0 : ∀ {M : xM} {v1 : Int} {v2 : Int} {v3 : Int} {E : xM}, rc M v1 v2 v3 = some E → V Y_X12_triesFair m 0 0 0 (xarg 0 [vR (some 94), vI v1, vI v2, vI v3]) [] S M (xqR S E none)) :
    ∀ (n : Nat) (M : xM) (v1 : Int) (v2 : Int) (v3 : Int) (v4 : Int) (v5 : Int) (v6 : Int) {Mz : xM}, fX12_triesFair_L102 rc n M v1 v2 v3 v4 v5 v6 = some Mz → V Y_X12_triesFair (m + 1) 0 0 150 [(0, vR (some 94)), (1, vI v1), (2, vI v2), (3, vI v3), (4, vI v4)] [] S Mz Q → V Y_X12_triesFair (m + 1) 0 0 102 [(0, vR (some 94)), (1, vI v1), (2, vI v2), (3, vI v3), (4, vI v4), (5, vI v5), (6, vI v6)] [] S M Q := by
  intro n
  induction n with
  | zero =>
    intro M v1 v2 v3 v4 v5 v6 Mz h k
    cases h
  | succ n ih =>
    intro M v1 v2 v3 v4 v5 v6 Mz h k
    rw [fX12_triesFair_L102] at h
    refine V_iload dX12_triesFair_102 (xm 6 rfl) ?_
    refine V_aload_n dX12_triesFair_104 rfl (xm 0 rfl) ?_
    refine V_getR dX12_triesFair_105 fl_X12_7 (sk_94 hS (by decide)) rfl ?_
    refine V_iconst dX12_triesFair_108 ?_
    refine V_ialdK (j := 5) dX12_triesFair_109 (sk_95 hS (by decide)) (by decide) (by decide) ?_
    refine V_icmp_ge (tgt := 150) dX12_triesFair_110 (by decide) h (fun _ h => ?_) (fun _ h => ?_)
    · refine V_aload_n dX12_triesFair_113 rfl (xm 0 rfl) ?_
      refine V_getR dX12_triesFair_114 fl_X12_53 (sk_94 hS (by decide)) rfl ?_
      refine V_iload dX12_triesFair_117 (xm 6 rfl) ?_
      refine V_dup2 dX12_triesFair_119 rfl rfl ?_
      refine T_iald dX12_triesFair_120 (sk_108 hS (by decide)) rfl h (fun r13 h => ?_)
      refine V_aload_n dX12_triesFair_121 rfl (xm 0 rfl) ?_
      refine V_iload dX12_triesFair_122 (xm 6 rfl) ?_
      refine V_aload_n dX12_triesFair_124 rfl (xm 0 rfl) ?_
      refine V_getR dX12_triesFair_125 fl_X12_7 (sk_94 hS (by decide)) rfl ?_
      refine V_iconst dX12_triesFair_128 ?_
      refine V_ialdK (j := 2) dX12_triesFair_129 (sk_95 hS (by decide)) (by decide) (by decide) ?_
      refine V_iload_n dX12_triesFair_130 rfl (xm 1 rfl) ?_
      refine V_iadd dX12_triesFair_131 ?_
      refine V_iload dX12_triesFair_132 (xm 5 rfl) ?_
      refine V_iload dX12_triesFair_134 (xm 4 rfl) ?_
      refine T_callSI (host := "") dX12_triesFair_136 ok_X12_turnOf lk_X12_283.1 lk_X12_283.2 (hV := ((fX12_turnOf_c (hS.le (by decide)) rfl).mono (by omega) (Nat.le_refl _) (Nat.le_refl _))) rfl (Nat.le_of_ble_eq_true rfl) rfl (Nat.le_of_ble_eq_true rfl) ?_
      refine xb2E h (fun r15 M16 h14 h => ?_)
      refine T_callVI dX12_triesFair_139 ok_X12_worthOf (by exact ⟨by decide, rfl⟩) lk_X12_232.1 lk_X12_232.2 (sk_94 hS (by decide)) (hV := ((fX12_worthOf_c (hS.le (by decide)) h14).mono (by omega) (Nat.le_refl _) (Nat.le_refl _))) rfl (Nat.le_of_ble_eq_true rfl) rfl (Nat.le_of_ble_eq_true rfl) ?_
      refine V_isub dX12_triesFair_142 ?_
      refine T_iast dX12_triesFair_143 (sk_108 hS (by decide)) rfl h (fun M17 h => ?_)
      refine V_iinc (ls' := [(6, vI (v6 + 1)), (0, vR (some 94)), (1, vI v1), (2, vI v2), (3, vI v3), (4, vI v4), (5, vI v5)]) dX12_triesFair_144 (xm 6 rfl) (by decide) rfl ?_
      refine V_goto (tgt := 102) dX12_triesFair_147 (by decide) ?_
      refine V.pick [1, 2, 3, 4, 5, 6, 0] rfl ?_
      exact ih M17 v1 v2 v3 v4 v5 (v6 + 1) h k
    · cases h
      refine V.pick [0, 1, 2, 3, 4] rfl ?_
      exact k
theorem fX12_triesFair_L102_ci {S : xS} {kp : Option Nat} (hS : xSk kp 109 S) {Q : Option xV → xS → xM → Prop} {m : Nat} {rc : xM → Int → Int → Int → Option (xM)} (hm : 3 ≤ m) (ih0 : ∀ {M : xM} {v1 : Int} {v2 : Int} {v3 : Int} {E : xM}, rc M v1 v2 v3 = some E → V Y_X12_triesFair m 0 0 0 (xarg 0 [vR (some 94), vI v1, vI v2, vI v3]) [] S M (xqR S E none)) {n : Nat} {M : xM} {v1 : Int} {v2 : Int} {v3 : Int} {v4 : Int} {v5 : Int} {v6 : Int} {Mz : xM} (hl : fX12_triesFair_L102 rc n M v1 v2 v3 v4 v5 v6 = some Mz) (k : V Y_X12_triesFair (m + 1) 0 0 150 [(0, vR (some 94)), (1, vI v1), (2, vI v2), (3, vI v3), (4, vI v4)] [] S Mz Q) : V Y_X12_triesFair (m + 1) 0 0 102 [(0, vR (some 94)), (1, vI v1), (2, vI v2), (3, vI v3), (4, vI v4), (5, vI v5), (6, vI v6)] [] S M Q := fX12_triesFair_L102_c hS hm ih0 _ _ _ _ _ _ _ _ hl k
def fX12_triesFair_L8 (rc : xM → Int → Int → Int → Option (xM)) (n : Nat) (M : xM) (v1 : Int) (v2 : Int) (v3 : Int) (v4 : Int) : Option (xM) := match n with
  | 0 => none
  | n + 1 => (if wr v4 < wr 3 then (xb (fX12_modulo M (v3 + (fX12_turnOf v4))) fun r2 => xb (fX12_triesFair_L30 rc xfuel M v1 v2 v3 v4 r2 0) fun M8 => xwt M8 106 6 v1 (fX12_turnOf v4) fun M10 => xb (rc M10 (v1 + 1) v2 r2) fun M12 => xb (fX12_triesFair_L102 rc xfuel M12 v1 v2 v3 v4 r2 0) fun M18 => fX12_triesFair_L8 rc n M18 v1 v2 v3 (v4 + 1)) else some M)
set_option maxRecDepth 20000 in
set_option maxHeartbeats 1000000 in
theorem fX12_triesFair_L8_c {S : xS} {kp : Option Nat} (hS : xSk kp 109 S) {Q : Option xV → xS → xM → Prop} {m : Nat} {rc : xM → Int → Int → Int → Option (xM)} (hm : 3 ≤ m) (ih0 : ∀ {M : xM} {v1 : Int} {v2 : Int} {v3 : Int} {E : xM}, rc M v1 v2 v3 = some E → V Y_X12_triesFair m 0 0 0 (xarg 0 [vR (some 94), vI v1, vI v2, vI v3]) [] S M (xqR S E none)) :
    ∀ (n : Nat) (M : xM) (v1 : Int) (v2 : Int) (v3 : Int) (v4 : Int) {Mz : xM}, fX12_triesFair_L8 rc n M v1 v2 v3 v4 = some Mz → V Y_X12_triesFair (m + 1) 0 0 156 [] [] S Mz Q → V Y_X12_triesFair (m + 1) 0 0 8 [(0, vR (some 94)), (1, vI v1), (2, vI v2), (3, vI v3), (4, vI v4)] [] S M Q := by
  intro n
  induction n with
  | zero =>
    intro M v1 v2 v3 v4 Mz h k
    cases h
  | succ n ih =>
    intro M v1 v2 v3 v4 Mz h k
    rw [fX12_triesFair_L8] at h
    refine V_iload dX12_triesFair_8 (xm 4 rfl) ?_
    refine V_iconst dX12_triesFair_10 ?_
    refine V_icmp_ge (tgt := 156) dX12_triesFair_11 (by decide) h (fun _ h => ?_) (fun _ h => ?_)
    · refine V_aload_n dX12_triesFair_14 rfl (xm 0 rfl) ?_
      refine V_iload_n dX12_triesFair_15 rfl (xm 3 rfl) ?_
      refine V_iload dX12_triesFair_16 (xm 4 rfl) ?_
      refine T_callSI (host := "") dX12_triesFair_18 ok_X12_turnOf lk_X12_283.1 lk_X12_283.2 (hV := ((fX12_turnOf_c (hS.le (by decide)) rfl).mono (by omega) (Nat.le_refl _) (Nat.le_refl _))) rfl (Nat.le_of_ble_eq_true rfl) rfl (Nat.le_of_ble_eq_true rfl) ?_
      refine V_iadd dX12_triesFair_21 ?_
      refine xbE h (fun r2 h1 h => ?_)
      refine T_callVI dX12_triesFair_22 ok_X12_modulo (by exact ⟨by decide, rfl⟩) lk_X12_216.1 lk_X12_216.2 (sk_94 hS (by decide)) (hV := ((fX12_modulo_c (hS.le (by decide)) h1).mono (by omega) (Nat.le_refl _) (Nat.le_refl _))) rfl (Nat.le_of_ble_eq_true rfl) rfl (Nat.le_of_ble_eq_true rfl) ?_
      refine V_istore (ls' := [(5, vI r2), (0, vR (some 94)), (1, vI v1), (2, vI v2), (3, vI v3), (4, vI v4)]) dX12_triesFair_25 (by decide) rfl ?_
      refine V_iconst dX12_triesFair_27 ?_
      refine V_istore (ls' := [(6, vI 0), (5, vI r2), (0, vR (some 94)), (1, vI v1), (2, vI v2), (3, vI v3), (4, vI v4)]) dX12_triesFair_28 (by decide) rfl ?_
      refine xbE h (fun M8 h9 h => ?_)
      refine V.pick [2, 3, 4, 5, 6, 1, 0] rfl ?_
      refine fX12_triesFair_L30_ci (hS.le (by decide)) hm ih0 h9 ?_
      refine V_aload_n dX12_triesFair_78 rfl (xm 0 rfl) ?_
      refine V_getR dX12_triesFair_79 fl_X12_47 (sk_94 hS (by decide)) rfl ?_
      refine V_iload_n dX12_triesFair_82 rfl (xm 1 rfl) ?_
      refine V_iload dX12_triesFair_83 (xm 4 rfl) ?_
      refine T_callSI (host := "") dX12_triesFair_85 ok_X12_turnOf lk_X12_283.1 lk_X12_283.2 (hV := ((fX12_turnOf_c (hS.le (by decide)) rfl).mono (by omega) (Nat.le_refl _) (Nat.le_refl _))) rfl (Nat.le_of_ble_eq_true rfl) rfl (Nat.le_of_ble_eq_true rfl) ?_
      refine T_iast dX12_triesFair_88 (sk_106 hS (by decide)) rfl h (fun M10 h => ?_)
      refine V_aload_n dX12_triesFair_89 rfl (xm 0 rfl) ?_
      refine V_iload_n dX12_triesFair_90 rfl (xm 1 rfl) ?_
      refine V_iconst dX12_triesFair_91 ?_
      refine V_iadd dX12_triesFair_92 ?_
      refine V_iload_n dX12_triesFair_93 rfl (xm 2 rfl) ?_
      refine V_iload dX12_triesFair_94 (xm 5 rfl) ?_
      refine xbE h (fun M12 h11 h => ?_)
      refine T_callVv dX12_triesFair_96 ok_X12_triesFair (by exact ⟨by decide, rfl⟩) lk_X12_297.1 lk_X12_297.2 (sk_94 hS (by decide)) (hV := (ih0 h11)) rfl (Nat.le_of_ble_eq_true rfl) rfl (Nat.le_of_ble_eq_true rfl) ?_
      refine V_iconst dX12_triesFair_99 ?_
      refine V_istore (ls' := [(6, vI 0), (0, vR (some 94)), (1, vI v1), (2, vI v2), (3, vI v3), (4, vI v4), (5, vI r2)]) dX12_triesFair_100 (by decide) rfl ?_
      refine xbE h (fun M18 h19 h => ?_)
      refine V.pick [1, 2, 3, 4, 5, 6, 0] rfl ?_
      refine fX12_triesFair_L102_ci (hS.le (by decide)) hm ih0 h19 ?_
      refine V_iinc (ls' := [(4, vI (v4 + 1)), (0, vR (some 94)), (1, vI v1), (2, vI v2), (3, vI v3)]) dX12_triesFair_150 (xm 4 rfl) (by decide) rfl ?_
      refine V_goto (tgt := 8) dX12_triesFair_153 (by decide) ?_
      refine V.pick [1, 2, 3, 4, 0] rfl ?_
      exact ih M18 v1 v2 v3 (v4 + 1) h k
    · cases h
      refine V.pick [] rfl ?_
      exact k
theorem fX12_triesFair_L8_ci {S : xS} {kp : Option Nat} (hS : xSk kp 109 S) {Q : Option xV → xS → xM → Prop} {m : Nat} {rc : xM → Int → Int → Int → Option (xM)} (hm : 3 ≤ m) (ih0 : ∀ {M : xM} {v1 : Int} {v2 : Int} {v3 : Int} {E : xM}, rc M v1 v2 v3 = some E → V Y_X12_triesFair m 0 0 0 (xarg 0 [vR (some 94), vI v1, vI v2, vI v3]) [] S M (xqR S E none)) {n : Nat} {M : xM} {v1 : Int} {v2 : Int} {v3 : Int} {v4 : Int} {Mz : xM} (hl : fX12_triesFair_L8 rc n M v1 v2 v3 v4 = some Mz) (k : V Y_X12_triesFair (m + 1) 0 0 156 [] [] S Mz Q) : V Y_X12_triesFair (m + 1) 0 0 8 [(0, vR (some 94)), (1, vI v1), (2, vI v2), (3, vI v3), (4, vI v4)] [] S M Q := fX12_triesFair_L8_c hS hm ih0 _ _ _ _ _ _ hl k
