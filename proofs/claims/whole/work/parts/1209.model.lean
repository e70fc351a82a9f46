def fX12_triesFair_L166 (rc : xM → Int → Int → Int → Option (xM)) (n : Nat) (M : xM) (v2 : Int) (v4 : Int) (v5 : Int) (v6 : Int) : Option (Int × Int) := match n with
  | 0 => none
  | n + 1 => (if wr v6 < wr (M 95 5) then (xj (fun (s22 : Int) => xrd M 108 10 v6 fun r24 => fX12_triesFair_L166 rc n M v2 s22 (v5 + r24) (v6 + 1)) fun j23 => xj (fun (_ : Unit) => xrd M 108 10 v6 fun r26 => j23 r26) fun j25 => (if wr v6 = 0 then j25 () else (xrd M 108 10 v6 fun r27 => (if wr r27 < wr v4 then j25 () else j23 v4)))) else some (v4, v5))
set_option maxRecDepth 20000 in
set_option maxHeartbeats 1000000 in
theorem fX12_triesFair_L166_c {S : xS} {kp : Option Nat} (hS : xSk kp 109 S) {Q : Option xV → xS → xM → Prop} {m : Nat} {rc : xM → Int → Int → Int → Option (xM)} (hm : 3 ≤ m) (ih0 : ∀ {M : xM} {v1 : Int} {v2 : Int} {v3 : Int} {E : xM}, rc M v1 v2 v3 = some E → V Y_X12_triesFair m 0 0 0 (xarg 0 [vR (some 94), vI v1, vI v2, vI v3]) [] S M (xqR S E none)) :
    ∀ (n : Nat) (M : xM) (v2 : Int) (v4 : Int) (v5 : Int) (v6 : Int) {x4 : Int} {x5 : Int}, fX12_triesFair_L166 rc n M v2 v4 v5 v6 = some (x4, x5) → V Y_X12_triesFair (m + 1) 0 0 226 [(0, vR (some 94)), (2, vI v2), (4, vI x4), (5, vI x5)] [] S M Q → V Y_X12_triesFair (m + 1) 0 0 166 [(0, vR (some 94)), (2, vI v2), (4, vI v4), (5, vI v5), (6, vI v6)] [] S M Q := by
  intro n
  induction n with
  | zero =>
    intro M v2 v4 v5 v6 x4 x5 h k
    cases h
  | succ n ih =>
    intro M v2 v4 v5 v6 x4 x5 h k
    rw [fX12_triesFair_L166] at h
    refine V_iload dX12_triesFair_166 (xm 4 rfl) ?_
    refine V_aload_n dX12_triesFair_168 rfl (xm 0 rfl) ?_
    refine V_getR dX12_triesFair_169 fl_X12_7 (sk_94 hS (by decide)) rfl ?_
    refine V_iconst dX12_triesFair_172 ?_
    refine V_ialdK (j := 5) dX12_triesFair_173 (sk_95 hS (by decide)) (by decide) (by decide) ?_
    refine V_icmp_ge (tgt := 226) dX12_triesFair_174 (by decide) h (fun _ h => ?_) (fun _ h => ?_)
    · refine V_iload dX12_triesFair_177 (xm 4 rfl) ?_
      refine xjE h (fun j23 hj23 h => ?_)
      have kj23 : ∀ (s22 : Int), j23 s22 = some (x4, x5) → V Y_X12_triesFair (m + 1) 0 0 206 [(0, vR (some 94)), (2, vI v2), (5, vI v5), (6, vI v6)] [vI s22] S M Q := by
        intro s22 h
        rw [hj23] at h
        refine V_istore (ls' := [(4, vI s22), (0, vR (some 94)), (2, vI v2), (5, vI v5), (6, vI v6)]) dX12_triesFair_206 (by decide) rfl ?_
        refine V_iload dX12_triesFair_208 (xm 3 rfl) ?_
        refine V_aload_n dX12_triesFair_210 rfl (xm 1 rfl) ?_
        refine V_getR dX12_triesFair_211 fl_X12_53 (sk_94 hS (by decide)) rfl ?_
        refine V_iload dX12_triesFair_214 (xm 4 rfl) ?_
        refine T_iald dX12_triesFair_216 (sk_108 hS (by decide)) rfl h (fun r24 h => ?_)
        refine V_iadd dX12_triesFair_217 ?_
        refine V_istore (ls' := [(5, vI (v5 + r24)), (4, vI s22), (0, vR (some 94)), (2, vI v2), (6, vI v6)]) dX12_triesFair_218 (by decide) rfl ?_
        refine V_iinc (ls' := [(6, vI (v6 + 1)), (5, vI (v5 + r24)), (4, vI s22), (0, vR (some 94)), (2, vI v2)]) dX12_triesFair_220 (xm 4 rfl) (by decide) rfl ?_
        refine V_goto (tgt := 166) dX12_triesFair_223 (by decide) ?_
        refine V.pick [3, 4, 2, 1, 0] rfl ?_
        exact ih M v2 s22 (v5 + r24) (v6 + 1) h k
      refine xjE h (fun j25 hj25 h => ?_)
      have kj25 : ∀ (u : Unit), j25 u = some (x4, x5) → V Y_X12_triesFair (m + 1) 0 0 194 [(0, vR (some 94)), (2, vI v2), (5, vI v5), (6, vI v6)] [] S M Q := by
        intro u h
        rw [hj25] at h
        refine V_aload_n dX12_triesFair_194 rfl (xm 0 rfl) ?_
        refine V_getR dX12_triesFair_195 fl_X12_53 (sk_94 hS (by decide)) rfl ?_
        refine V_iload dX12_triesFair_198 (xm 3 rfl) ?_
        refine T_iald dX12_triesFair_200 (sk_108 hS (by decide)) rfl h (fun r26 h => ?_)
        refine V_goto (tgt := 206) dX12_triesFair_201 (by decide) ?_
        refine V.pick [0, 1, 2, 3] rfl ?_
        exact kj23 r26 h
      refine V_if_eq (tgt := 194) dX12_triesFair_179 (by decide) h (fun _ h => ?_) (fun _ h => ?_)
      · refine V.pick [0, 1, 3, 4] rfl ?_
        exact kj25 () h
      · refine V_aload_n dX12_triesFair_182 rfl (xm 0 rfl) ?_
        refine V_getR dX12_triesFair_183 fl_X12_53 (sk_94 hS (by decide)) rfl ?_
        refine V_iload dX12_triesFair_186 (xm 4 rfl) ?_
        refine T_iald dX12_triesFair_188 (sk_108 hS (by decide)) rfl h (fun r27 h => ?_)
        refine V_iload dX12_triesFair_189 (xm 2 rfl) ?_
        refine V_icmp_ge (tgt := 204) dX12_triesFair_191 (by decide) h (fun _ h => ?_) (fun _ h => ?_)
        · refine V.pick [0, 1, 3, 4] rfl ?_
          exact kj25 () h
        · refine V_iload dX12_triesFair_204 (xm 2 rfl) ?_
          refine V.pick [0, 1, 3, 4] rfl ?_
          exact kj23 v4 h
    · cases h
      refine V.pick [0, 1, 2, 3] rfl ?_
      exact k
theorem fX12_triesFair_L166_ci {S : xS} {kp : Option Nat} (hS : xSk kp 109 S) {Q : Option xV → xS → xM → Prop} {m : Nat} {rc : xM → Int → Int → Int → Option (xM)} (hm : 3 ≤ m) (ih0 : ∀ {M : xM} {v1 : Int} {v2 : Int} {v3 : Int} {E : xM}, rc M v1 v2 v3 = some E → V Y_X12_triesFair m 0 0 0 (xarg 0 [vR (some 94), vI v1, vI v2, vI v3]) [] S M (xqR S E none)) {n : Nat} {M : xM} {v2 : Int} {v4 : Int} {v5 : Int} {v6 : Int} {x4 : Int} {x5 : Int} (hl : fX12_triesFair_L166 rc n M v2 v4 v5 v6 = some (x4, x5)) (k : V Y_X12_triesFair (m + 1) 0 0 226 [(0, vR (some 94)), (2, vI v2), (4, vI x4), (5, vI x5)] [] S M Q) : V Y_X12_triesFair (m + 1) 0 0 166 [(0, vR (some 94)), (2, vI v2), (4, vI v4), (5, vI v5), (6, vI v6)] [] S M Q := fX12_triesFair_L166_c hS hm ih0 _ _ _ _ _ _ hl k
def fX12_triesFair_L281 (rc : xM → Int → Int → Int → Option (xM)) (n : Nat) (M : xM) (v2 : Int) (v6 : Int) : Option (xM) := match n with
  | 0 => none
  | n + 1 => (if wr v6 < wr v2 then (xrd M 106 6 v6 fun r35 => xwt M 107 6 v6 r35 fun M36 => fX12_triesFair_L281 rc n M36 v2 (v6 + 1)) else some M)
set_option maxRecDepth 20000 in
set_option maxHeartbeats 1000000 in
theorem fX12_triesFair_L281_c {S : xS} {kp : Option Nat} (hS : xSk kp 108 S) {Q : Option xV → xS → xM → Prop} {m : Nat} {rc : xM → Int → Int → Int → Option (xM)} (hm : 3 ≤ m) (ih0 : ∀ {M : xM} {v1 : Int} {v2 : Int} {v3 : Int} {E : xM}, rc M v1 v2 v3 = some E → V Y_X12_triesFair m 0 0 0 (xarg 0 [vR (some 94), vI v1, vI v2, vI v3]) [] S M (xqR S E none)) :
    ∀ (n : Nat) (M : xM) (v2 : Int) (v6 : Int) {Mz : xM}, fX12_triesFair_L281 rc n M v2 v6 = some Mz → V Y_X12_triesFair (m + 1) 0 0 307 [] [] S Mz Q → V Y_X12_triesFair (m + 1) 0 0 281 [(0, vR (some 94)), (2, vI v2), (6, vI v6)] [] S M Q := by
  intro n
  induction n with
  | zero =>
    intro M v2 v6 Mz h k
    cases h
  | succ n ih =>
    intro M v2 v6 Mz h k
    rw [fX12_triesFair_L281] at h
    refine V_iload dX12_triesFair_281 (xm 2 rfl) ?_
    refine V_iload_n dX12_triesFair_283 rfl (xm 1 rfl) ?_
    refine V_icmp_ge (tgt := 307) dX12_triesFair_284 (by decide) h (fun _ h => ?_) (fun _ h => ?_)
    · refine V_aload_n dX12_triesFair_287 rfl (xm 0 rfl) ?_
      refine V_getR dX12_triesFair_288 fl_X12_50 (sk_94 hS (by decide)) rfl ?_
      refine V_iload dX12_triesFair_291 (xm 2 rfl) ?_
      refine V_aload_n dX12_triesFair_293 rfl (xm 0 rfl) ?_
      refine V_getR dX12_triesFair_294 fl_X12_47 (sk_94 hS (by decide)) rfl ?_
      refine V_iload dX12_triesFair_297 (xm 2 rfl) ?_
      refine T_iald dX12_triesFair_299 (sk_106 hS (by decide)) rfl h (fun r35 h => ?_)
      refine T_iast dX12_triesFair_300 (sk_107 hS (by decide)) rfl h (fun M36 h => ?_)
      refine V_iinc (ls' := [(6, vI (v6 + 1)), (0, vR (some 94)), (2, vI v2)]) dX12_triesFair_301 (xm 2 rfl) (by decide) rfl ?_
      refine V_goto (tgt := 281) dX12_triesFair_304 (by decide) ?_
      refine V.pick [1, 2, 0] rfl ?_
      exact ih M36 v2 (v6 + 1) h k
    · cases h
      refine V.pick [] rfl ?_
      exact k
theorem fX12_triesFair_L281_ci {S : xS} {kp : Option Nat} (hS : xSk kp 108 S) {Q : Option xV → xS → xM → Prop} {m : Nat} {rc : xM → Int → Int → Int → Option (xM)} (hm : 3 ≤ m) (ih0 : ∀ {M : xM} {v1 : Int} {v2 : Int} {v3 : Int} {E : xM}, rc M v1 v2 v3 = some E → V Y_X12_triesFair m 0 0 0 (xarg 0 [vR (some 94), vI v1, vI v2, vI v3]) [] S M (xqR S E none)) {n : Nat} {M : xM} {v2 : Int} {v6 : Int} {Mz : xM} (hl : fX12_triesFair_L281 rc n M v2 v6 = some Mz) (k : V Y_X12_triesFair (m + 1) 0 0 307 [] [] S Mz Q) : V Y_X12_triesFair (m + 1) 0 0 281 [(0, vR (some 94)), (2, vI v2), (6, vI v6)] [] S M Q := fX12_triesFair_L281_c hS hm ih0 _ _ _ _ hl k
def fX12_triesFair (n : Nat) (M : xM) (v1 : Int) (v2 : Int) (v3 : Int) : Option (xM) := match n with
  | 0 => none
  | n + 1 => (if wr v1 < wr v2 then (xb (fX12_triesFair_L8 (fX12_triesFair n) xfuel M v1 v2 v3 0) fun M20 => some M20) else (xb2 (fX12_triesFair_L166 (fX12_triesFair n) xfuel M v2 0 0 0) fun y28 y29 => xj (fun (_ : Unit) => xlet (xup M 94 30 1) fun M32 => xlet (xup M32 94 28 y28) fun M33 => xlet (xup M33 94 29 y29) fun M34 => xb (fX12_triesFair_L281 (fX12_triesFair n) xfuel M34 v2 0) fun M37 => some M37) fun j31 => (if wr (M 94 30) = 0 then j31 () else (if wr y28 < wr (M 94 28) then some M else (if wr y28 = wr (M 94 28) then (if wr (M 94 29) < wr y29 then j31 () else some M) else j31 ())))))
set_option maxRecDepth 20000 in
set_option maxHeartbeats 1000000 in
theorem fX12_triesFair_c {S : xS} {kp : Option Nat} (hS : xSk kp 109 S) : ∀ n : Nat, (∀ {M : xM} {v1 : Int} {v2 : Int} {v3 : Int} {E : xM}, fX12_triesFair n M v1 v2 v3 = some E → V Y_X12_triesFair (n + 3) 0 0 0 (xarg 0 [vR (some 94), vI v1, vI v2, vI v3]) [] S M (xqR S E none)) := by
  intro n
  induction n with
  | zero => exact fun h => by cases h
  | succ n ih =>
    have ih0 := @ih
    have e9 : n + 1 + 3 = n + 3 + 1 := by omega
    rw [e9]
    intro M v1 v2 v3 E h
    rw [fX12_triesFair] at h
    show V Y_X12_triesFair _ 0 0 0 [(0, vR (some 94)), (1, vI v1), (2, vI v2), (3, vI v3)] [] S M _
    refine V_iload_n dX12_triesFair_0 rfl (xm 1 rfl) ?_
    refine V_iload_n dX12_triesFair_1 rfl (xm 2 rfl) ?_
    refine V_icmp_ge (tgt := 157) dX12_triesFair_2 (by decide) h (fun _ h => ?_) (fun _ h => ?_)
    · refine V_iconst dX12_triesFair_5 ?_
      refine V_istore (ls' := [(4, vI 0), (0, vR (some 94)), (1, vI v1), (2, vI v2), (3, vI v3)]) dX12_triesFair_6 (by decide) rfl ?_
      refine xbE h (fun M20 h21 h => ?_)
      refine V.pick [1, 2, 3, 4, 0] rfl ?_
      refine fX12_triesFair_L8_ci (hS.le (by decide)) (m := n + 3) (by omega) ih0 h21 ?_
      exact V_ret dX12_triesFair_156 rfl (q_v h)
    · refine V_iconst dX12_triesFair_157 ?_
      refine V_istore (ls' := [(4, vI 0), (0, vR (some 94)), (1, vI v1), (2, vI v2), (3, vI v3)]) dX12_triesFair_158 (by decide) rfl ?_
      refine V_iconst dX12_triesFair_160 ?_
      refine V_istore (ls' := [(5, vI 0), (4, vI 0), (0, vR (some 94)), (1, vI v1), (2, vI v2), (3, vI v3)]) dX12_triesFair_161 (by decide) rfl ?_
      refine V_iconst dX12_triesFair_163 ?_
      refine V_istore (ls' := [(6, vI 0), (5, vI 0), (4, vI 0), (0, vR (some 94)), (1, vI v1), (2, vI v2), (3, vI v3)]) dX12_triesFair_164 (by decide) rfl ?_
      refine xb2E h (fun y28 y29 h30 h => ?_)
      refine V.pick [3, 5, 2, 1, 0] rfl ?_
      refine fX12_triesFair_L166_ci (hS.le (by decide)) (m := n + 3) (by omega) ih0 h30 ?_
      refine V_aload_n dX12_triesFair_226 rfl (xm 0 rfl) ?_
      refine V_getI (kI := 30) dX12_triesFair_227 fl_X12_301 (sk_94 hS (by decide)) rfl rfl ?_
      refine xjE h (fun j31 hj31 h => ?_)
      have kj31 : ∀ (u : Unit), j31 u = some E → V Y_X12_triesFair (n + 3 + 1) 0 0 261 [(0, vR (some 94)), (2, vI v2), (4, vI y28), (5, vI y29)] [] S M (xqR S E none) := by
        intro u h
        rw [hj31] at h
        refine V_aload_n dX12_triesFair_261 rfl (xm 0 rfl) ?_
        refine V_iconst dX12_triesFair_262 ?_
        refine T_putZ (kI := 30) (b := true) dX12_triesFair_263 fp_X12_301 (sk_94 hS (by decide)) rfl rfl (by decide) h (fun M32 h => ?_)
        refine V_aload_n dX12_triesFair_266 rfl (xm 0 rfl) ?_
        refine V_iload dX12_triesFair_267 (xm 2 rfl) ?_
        refine T_putI (kI := 28) dX12_triesFair_269 fp_X12_305 (sk_94 hS (by decide)) rfl rfl h (fun M33 h => ?_)
        refine V_aload_n dX12_triesFair_272 rfl (xm 0 rfl) ?_
        refine V_iload dX12_triesFair_273 (xm 3 rfl) ?_
        refine T_putI (kI := 29) dX12_triesFair_275 fp_X12_308 (sk_94 hS (by decide)) rfl rfl h (fun M34 h => ?_)
        refine V_iconst dX12_triesFair_278 ?_
        refine V_istore (ls' := [(6, vI 0), (0, vR (some 94)), (2, vI v2), (4, vI y28), (5, vI y29)]) dX12_triesFair_279 (by decide) rfl ?_
        refine xbE h (fun M37 h38 h => ?_)
        refine V.pick [1, 2, 0] rfl ?_
        refine fX12_triesFair_L281_ci (hS.le (by decide)) (m := n + 3) (by omega) ih0 h38 ?_
        exact V_ret dX12_triesFair_307 rfl (q_v h)
      refine V_if_eq (tgt := 261) dX12_triesFair_230 (by decide) h (fun _ h => ?_) (fun _ h => ?_)
      · refine V.pick [0, 1, 2, 3] rfl ?_
        exact kj31 () h
      · refine V_iload dX12_triesFair_233 (xm 2 rfl) ?_
        refine V_aload_n dX12_triesFair_235 rfl (xm 0 rfl) ?_
        refine V_getI (kI := 28) dX12_triesFair_236 fl_X12_305 (sk_94 hS (by decide)) rfl rfl ?_
        refine V_icmp_lt (tgt := 260) dX12_triesFair_239 (by decide) h (fun _ h => ?_) (fun _ h => ?_)
        · exact V_ret dX12_triesFair_260 rfl (q_v h)
        · refine V_iload dX12_triesFair_242 (xm 2 rfl) ?_
          refine V_aload_n dX12_triesFair_244 rfl (xm 0 rfl) ?_
          refine V_getI (kI := 28) dX12_triesFair_245 fl_X12_305 (sk_94 hS (by decide)) rfl rfl ?_
          refine V_icmp_ne (tgt := 261) dX12_triesFair_248 (by decide) h (fun _ h => ?_) (fun _ h => ?_)
          · refine V_iload dX12_triesFair_251 (xm 3 rfl) ?_
            refine V_aload_n dX12_triesFair_253 rfl (xm 0 rfl) ?_
            refine V_getI (kI := 29) dX12_triesFair_254 fl_X12_308 (sk_94 hS (by decide)) rfl rfl ?_
            refine V_icmp_gt (tgt := 261) dX12_triesFair_257 (by decide) h (fun _ h => ?_) (fun _ h => ?_)
            · refine V.pick [0, 1, 2, 3] rfl ?_
              exact kj31 () h
            · exact V_ret dX12_triesFair_260 rfl (q_v h)
          · refine V.pick [0, 1, 2, 3] rfl ?_
            exact kj31 () h
def fX12_fair (M : xM) (v1 : Int) (v2 : Int) : Option (Int × xM) := (if (fX12_isIn v1 1 6) = true then (xj (fun (_ : Unit) => xlet (xup M 94 30 0) fun M2 => xb (fX12_triesFair 40 M2 0 v1 (M2 95 1)) fun M4 => (if wr v2 = 0 then some (M4 94 28, M4) else (if wr v2 = wr 1 then some (M4 94 29, M4) else (xrd M4 107 6 (v2 - 10) fun r5 => some (r5 + 2, M4))))) fun j1 => (if (fX12_isIn v2 0 1) = true then j1 () else (if (fX12_isIn v2 10 (9 + v1)) = true then j1 () else some ((-1000000), M)))) else some ((-1000000), M))
set_option maxRecDepth 20000 in
set_option maxHeartbeats 1000000 in
theorem fX12_fair_c {S : xS} {kp : Option Nat} (hS : xSk kp 109 S) {M : xM} {v1 : Int} {v2 : Int} {E : Int × xM} (h : fX12_fair M v1 v2 = some E) :
    V Y_X12_fair 44 0 0 0 (xarg 0 [vR (some 94), vI v1, vI v2]) [] S M (xqR S E.2 (some (vI E.1))) := by
  unfold fX12_fair at h
  show V Y_X12_fair 44 0 0 0 [(0, vR (some 94)), (1, vI v1), (2, vI v2)] [] S M _
  refine V_iload_n dX12_fair_0 rfl (xm 1 rfl) ?_
  refine V_iconst dX12_fair_1 ?_
  refine V_bipush dX12_fair_2 (by decide) ?_
  refine T_callSI (host := "") dX12_fair_4 ok_X12_isIn lk_X12_70.1 lk_X12_70.2 (hV := ((fX12_isIn_c (hS.le (by decide)) rfl).mono (by decide) (Nat.le_refl _) (Nat.le_refl _))) rfl (Nat.le_of_ble_eq_true rfl) rfl (Nat.le_of_ble_eq_true rfl) ?_
  refine V_if_eqB (tgt := 32) dX12_fair_7 (by decide) h (fun _ h => ?_) (fun _ h => ?_)
  · refine V_iload_n dX12_fair_10 rfl (xm 2 rfl) ?_
    refine V_iconst dX12_fair_11 ?_
    refine V_iconst dX12_fair_12 ?_
    refine T_callSI (host := "") dX12_fair_13 ok_X12_isIn lk_X12_70.1 lk_X12_70.2 (hV := ((fX12_isIn_c (hS.le (by decide)) rfl).mono (by decide) (Nat.le_refl _) (Nat.le_refl _))) rfl (Nat.le_of_ble_eq_true rfl) rfl (Nat.le_of_ble_eq_true rfl) ?_
    refine xjE h (fun j1 hj1 h => ?_)
    have kj1 : ∀ (u : Unit), j1 u = some E → V Y_X12_fair 44 0 0 36 [(0, vR (some 94)), (1, vI v1), (2, vI v2)] [] S M (xqR S E.2 (some (vI E.1))) := by
      intro u h
      rw [hj1] at h
      refine V_aload_n dX12_fair_36 rfl (xm 0 rfl) ?_
      refine V_iconst dX12_fair_37 ?_
      refine T_putZ (kI := 30) (b := false) dX12_fair_38 fp_X12_301 (sk_94 hS (by decide)) rfl rfl (by decide) h (fun M2 h => ?_)
      refine V_aload_n dX12_fair_41 rfl (xm 0 rfl) ?_
      refine V_iconst dX12_fair_42 ?_
      refine V_iload_n dX12_fair_43 rfl (xm 1 rfl) ?_
      refine V_aload_n dX12_fair_44 rfl (xm 0 rfl) ?_
      refine V_getR dX12_fair_45 fl_X12_7 (sk_94 hS (by decide)) rfl ?_
      refine V_iconst dX12_fair_48 ?_
      refine V_ialdK (j := 1) dX12_fair_49 (sk_95 hS (by decide)) (by decide) (by decide) ?_
      refine xbE h (fun M4 h3 h => ?_)
      refine T_callVv dX12_fair_50 ok_X12_triesFair (by exact ⟨by decide, rfl⟩) lk_X12_297.1 lk_X12_297.2 (sk_94 hS (by decide)) (hV := (((fX12_triesFair_c (hS.le (by decide)) 40) h3).mono (by decide) (Nat.le_refl _) (Nat.le_refl _))) rfl (Nat.le_of_ble_eq_true rfl) rfl (Nat.le_of_ble_eq_true rfl) ?_
      refine V_iload_n dX12_fair_53 rfl (xm 2 rfl) ?_
      refine V_if_ne (tgt := 64) dX12_fair_54 (by decide) h (fun _ h => ?_) (fun _ h => ?_)
      · refine V_aload_n dX12_fair_57 rfl (xm 0 rfl) ?_
        refine V_getI (kI := 28) dX12_fair_58 fl_X12_305 (sk_94 hS (by decide)) rfl rfl ?_
        refine V_goto (tgt := 87) dX12_fair_61 (by decide) ?_
        exact V_ireti dX12_fair_87 rfl (q_wI h)
      · refine V_iload_n dX12_fair_64 rfl (xm 2 rfl) ?_
        refine V_iconst dX12_fair_65 ?_
        refine V_icmp_ne (tgt := 76) dX12_fair_66 (by decide) h (fun _ h => ?_) (fun _ h => ?_)
        · refine V_aload_n dX12_fair_69 rfl (xm 0 rfl) ?_
          refine V_getI (kI := 29) dX12_fair_70 fl_X12_308 (sk_94 hS (by decide)) rfl rfl ?_
          refine V_goto (tgt := 87) dX12_fair_73 (by decide) ?_
          exact V_ireti dX12_fair_87 rfl (q_wI h)
        · refine V_aload_n dX12_fair_76 rfl (xm 0 rfl) ?_
          refine V_getR dX12_fair_77 fl_X12_50 (sk_94 hS (by decide)) rfl ?_
          refine V_iload_n dX12_fair_80 rfl (xm 2 rfl) ?_
          refine V_bipush dX12_fair_81 (by decide) ?_
          refine V_isub dX12_fair_83 ?_
          refine T_iald dX12_fair_84 (sk_107 hS (by decide)) rfl h (fun r5 h => ?_)
          refine V_iconst dX12_fair_85 ?_
          refine V_iadd dX12_fair_86 ?_
          exact V_ireti dX12_fair_87 rfl (q_wI h)
    refine V_if_neB (tgt := 36) dX12_fair_16 (by decide) h (fun _ h => ?_) (fun _ h => ?_)
    · refine V.pick [0, 1, 2] rfl ?_
      exact kj1 () h
    · refine V_iload_n dX12_fair_19 rfl (xm 2 rfl) ?_
      refine V_bipush dX12_fair_20 (by decide) ?_
      refine V_bipush dX12_fair_22 (by decide) ?_
      refine V_iload_n dX12_fair_24 rfl (xm 1 rfl) ?_
      refine V_iadd dX12_fair_25 ?_
      refine T_callSI (host := "") dX12_fair_26 ok_X12_isIn lk_X12_70.1 lk_X12_70.2 (hV := ((fX12_isIn_c (hS.le (by decide)) rfl).mono (by decide) (Nat.le_refl _) (Nat.le_refl _))) rfl (Nat.le_of_ble_eq_true rfl) rfl (Nat.le_of_ble_eq_true rfl) ?_
      refine V_if_neB (tgt := 36) dX12_fair_29 (by decide) h (fun _ h => ?_) (fun _ h => ?_)
      · refine V.pick [0, 1, 2] rfl ?_
        exact kj1 () h
      · refine V_ldcw (n := (-1000000)) dX12_fair_32 (xsg7 66 rfl rfl : Cond.constant RX12 293 (-1000000) ∈ xT) (by decide) ?_
        exact V_ireti dX12_fair_35 rfl (q_wI h)
  · refine V_ldcw (n := (-1000000)) dX12_fair_32 (xsg7 66 rfl rfl : Cond.constant RX12 293 (-1000000) ∈ xT) (by decide) ?_
    exact V_ireti dX12_fair_35 rfl (q_wI h)
def fX12_aloneOf (M : xM) (v1 : Int) (v2 : Int) : Option (Int × xM) := xb (fX12_isEnough M v1) fun r2 => xb (fX12_laysBest M v1 v2 (b2i r2)) fun M4 => xrd M4 104 1464 (M4 95 1) fun r5 => some (r5, M4)
set_option maxRecDepth 20000 in
set_option maxHeartbeats 1000000 in
theorem fX12_aloneOf_c {S : xS} {kp : Option Nat} (hS : xSk kp 105 S) {M : xM} {v1 : Int} {v2 : Int} {E : Int × xM} (h : fX12_aloneOf M v1 v2 = some E) :
    V Y_X12_aloneOf 5 0 0 0 (xarg 0 [vR (some 94), vI v1, vI v2]) [] S M (xqR S E.2 (some (vI E.1))) := by
  unfold fX12_aloneOf at h
  show V Y_X12_aloneOf 5 0 0 0 [(0, vR (some 94)), (1, vI v1), (2, vI v2)] [] S M _
  refine V_aload_n dX12_aloneOf_0 rfl (xm 0 rfl) ?_
  refine V_iload_n dX12_aloneOf_1 rfl (xm 1 rfl) ?_
  refine V_iload_n dX12_aloneOf_2 rfl (xm 2 rfl) ?_
  refine V_aload_n dX12_aloneOf_3 rfl (xm 0 rfl) ?_
  refine V_iload_n dX12_aloneOf_4 rfl (xm 1 rfl) ?_
  refine xbE h (fun r2 h1 h => ?_)
  refine T_callVI dX12_aloneOf_5 ok_X12_isEnough (by exact ⟨by decide, rfl⟩) lk_X12_258.1 lk_X12_258.2 (sk_94 hS (by decide)) (hV := ((fX12_isEnough_c (hS.le (by decide)) h1).mono (by decide) (Nat.le_refl _) (Nat.le_refl _))) rfl (Nat.le_of_ble_eq_true rfl) rfl (Nat.le_of_ble_eq_true rfl) ?_
  refine xbE h (fun M4 h3 h => ?_)
  refine T_callVv dX12_aloneOf_8 ok_X12_laysBest (by exact ⟨by decide, rfl⟩) lk_X12_289.1 lk_X12_289.2 (sk_94 hS (by decide)) (hV := ((fX12_laysBest_c (hS.le (by decide)) h3).mono (by decide) (Nat.le_refl _) (Nat.le_refl _))) rfl (Nat.le_of_ble_eq_true rfl) rfl (Nat.le_of_ble_eq_true rfl) ?_
  refine V_aload_n dX12_aloneOf_11 rfl (xm 0 rfl) ?_
  refine V_getR dX12_aloneOf_12 fl_X12_41 (sk_94 hS (by decide)) rfl ?_
  refine V_aload_n dX12_aloneOf_15 rfl (xm 0 rfl) ?_
  refine V_getR dX12_aloneOf_16 fl_X12_7 (sk_94 hS (by decide)) rfl ?_
  refine V_iconst dX12_aloneOf_19 ?_
  refine V_ialdK (j := 1) dX12_aloneOf_20 (sk_95 hS (by decide)) (by decide) (by decide) ?_
  refine T_iald dX12_aloneOf_21 (sk_104 hS (by decide)) rfl h (fun r5 h => ?_)
  exact V_ireti dX12_aloneOf_22 rfl (q_wI h)
def fX12_alone (M : xM) (v1 : Int) (v2 : Int) : Option (Int × xM) := (if (fX12_isIn v1 1 (fX12_allPlots M)) = true then (if (fX12_isIn v2 1 6) = true then (xb2 (fX12_aloneOf M v1 v2) fun r2 M3 => some (r2, M3)) else some ((-1000000), M)) else some ((-1000000), M))
set_option maxRecDepth 20000 in
set_option maxHeartbeats 1000000 in
theorem fX12_alone_c {S : xS} {kp : Option Nat} (hS : xSk kp 105 S) {M : xM} {v1 : Int} {v2 : Int} {E : Int × xM} (h : fX12_alone M v1 v2 = some E) :
    V Y_X12_alone 6 0 0 0 (xarg 0 [vR (some 94), vI v1, vI v2]) [] S M (xqR S E.2 (some (vI E.1))) := by
  unfold fX12_alone at h
  show V Y_X12_alone 6 0 0 0 [(0, vR (some 94)), (1, vI v1), (2, vI v2)] [] S M _
  refine V_iload_n dX12_alone_0 rfl (xm 1 rfl) ?_
  refine V_iconst dX12_alone_1 ?_
  refine V_aload_n dX12_alone_2 rfl (xm 0 rfl) ?_
  refine T_callVI dX12_alone_3 ok_X12_allPlots (by exact ⟨by decide, rfl⟩) lk_X12_255.1 lk_X12_255.2 (sk_94 hS (by decide)) (hV := ((fX12_allPlots_c (hS.le (by decide)) rfl).mono (by decide) (Nat.le_refl _) (Nat.le_refl _))) rfl (Nat.le_of_ble_eq_true rfl) rfl (Nat.le_of_ble_eq_true rfl) ?_
  refine T_callSI (host := "") dX12_alone_6 ok_X12_isIn lk_X12_70.1 lk_X12_70.2 (hV := ((fX12_isIn_c (hS.le (by decide)) rfl).mono (by decide) (Nat.le_refl _) (Nat.le_refl _))) rfl (Nat.le_of_ble_eq_true rfl) rfl (Nat.le_of_ble_eq_true rfl) ?_
  refine V_if_eqB (tgt := 31) dX12_alone_9 (by decide) h (fun _ h => ?_) (fun _ h => ?_)
  · refine V_iload_n dX12_alone_12 rfl (xm 2 rfl) ?_
    refine V_iconst dX12_alone_13 ?_
    refine V_bipush dX12_alone_14 (by decide) ?_
    refine T_callSI (host := "") dX12_alone_16 ok_X12_isIn lk_X12_70.1 lk_X12_70.2 (hV := ((fX12_isIn_c (hS.le (by decide)) rfl).mono (by decide) (Nat.le_refl _) (Nat.le_refl _))) rfl (Nat.le_of_ble_eq_true rfl) rfl (Nat.le_of_ble_eq_true rfl) ?_
    refine V_if_eqB (tgt := 31) dX12_alone_19 (by decide) h (fun _ h => ?_) (fun _ h => ?_)
    · refine V_aload_n dX12_alone_22 rfl (xm 0 rfl) ?_
      refine V_iload_n dX12_alone_23 rfl (xm 1 rfl) ?_
      refine V_iload_n dX12_alone_24 rfl (xm 2 rfl) ?_
      refine xb2E h (fun r2 M3 h1 h => ?_)
      refine T_callVI dX12_alone_25 ok_X12_aloneOf (by exact ⟨by decide, rfl⟩) lk_X12_311.1 lk_X12_311.2 (sk_94 hS (by decide)) (hV := ((fX12_aloneOf_c (hS.le (by decide)) h1).mono (by decide) (Nat.le_refl _) (Nat.le_refl _))) rfl (Nat.le_of_ble_eq_true rfl) rfl (Nat.le_of_ble_eq_true rfl) ?_
      refine V_goto (tgt := 34) dX12_alone_28 (by decide) ?_
      exact V_ireti dX12_alone_34 rfl (q_wI h)
    · refine V_ldcw (n := (-1000000)) dX12_alone_31 (xsg7 66 rfl rfl : Cond.constant RX12 293 (-1000000) ∈ xT) (by decide) ?_
      exact V_ireti dX12_alone_34 rfl (q_wI h)
  · refine V_ldcw (n := (-1000000)) dX12_alone_31 (xsg7 66 rfl rfl : Cond.constant RX12 293 (-1000000) ∈ xT) (by decide) ?_
    exact V_ireti dX12_alone_34 rfl (q_wI h)
def fX12_pay (M : xM) (v1 : Int) (v2 : Int) : Option (Bool × xM) := (if (fX12_isPlot M v1) = true then (if (fX12_isIn v2 ((-99999)) 99999) = true then (xwt M 95 5820 (60 + v1) v2 fun M1 => some (true, M1)) else some (false, M)) else some (false, M))
set_option maxRecDepth 20000 in
set_option maxHeartbeats 1000000 in
theorem fX12_pay_c {S : xS} {kp : Option Nat} (hS : xSk kp 96 S) {M : xM} {v1 : Int} {v2 : Int} {E : Bool × xM} (h : fX12_pay M v1 v2 = some E) :
    V Y_X12_pay 2 0 0 0 (xarg 0 [vR (some 94), vI v1, vI v2]) [] S M (xqR S E.2 (some (vI (b2i E.1)))) := by
  unfold fX12_pay at h
  show V Y_X12_pay 2 0 0 0 [(0, vR (some 94)), (1, vI v1), (2, vI v2)] [] S M _
  refine V_aload_n dX12_pay_0 rfl (xm 0 rfl) ?_
  refine V_iload_n dX12_pay_1 rfl (xm 1 rfl) ?_
  refine T_callVI dX12_pay_2 ok_X12_isPlot (by exact ⟨by decide, rfl⟩) lk_X12_226.1 lk_X12_226.2 (sk_94 hS (by decide)) (hV := ((fX12_isPlot_c (hS.le (by decide)) rfl).mono (by decide) (Nat.le_refl _) (Nat.le_refl _))) rfl (Nat.le_of_ble_eq_true rfl) rfl (Nat.le_of_ble_eq_true rfl) ?_
  refine V_if_eqB (tgt := 19) dX12_pay_5 (by decide) h (fun _ h => ?_) (fun _ h => ?_)
  · refine V_iload_n dX12_pay_8 rfl (xm 2 rfl) ?_
    refine V_ldc (n := (-99999)) dX12_pay_9 (xsg6 73 rfl rfl : Cond.constant RX12 81 (-99999) ∈ xT) (by decide) ?_
    refine V_ldc (n := 99999) dX12_pay_11 (xsg6 74 rfl rfl : Cond.constant RX12 82 99999 ∈ xT) (by decide) ?_
    refine T_callSI (host := "") dX12_pay_13 ok_X12_isIn lk_X12_70.1 lk_X12_70.2 (hV := ((fX12_isIn_c (hS.le (by decide)) rfl).mono (by decide) (Nat.le_refl _) (Nat.le_refl _))) rfl (Nat.le_of_ble_eq_true rfl) rfl (Nat.le_of_ble_eq_true rfl) ?_
    refine V_if_neB (tgt := 21) dX12_pay_16 (by decide) h (fun _ h => ?_) (fun _ h => ?_)
    · refine V_aload_n dX12_pay_21 rfl (xm 0 rfl) ?_
      refine V_getR dX12_pay_22 fl_X12_7 (sk_94 hS (by decide)) rfl ?_
      refine V_bipush dX12_pay_25 (by decide) ?_
      refine V_iload_n dX12_pay_27 rfl (xm 1 rfl) ?_
      refine V_iadd dX12_pay_28 ?_
      refine V_iload_n dX12_pay_29 rfl (xm 2 rfl) ?_
      refine T_iast dX12_pay_30 (sk_95 hS (by decide)) rfl h (fun M1 h => ?_)
      refine V_iconst dX12_pay_31 ?_
      exact V_iretb (b := true) dX12_pay_32 rfl (by decide) (q_wB h)
    · refine V_iconst dX12_pay_19 ?_
      exact V_iretb (b := false) dX12_pay_20 rfl (by decide) (q_wB h)
  · refine V_iconst dX12_pay_19 ?_
    exact V_iretb (b := false) dX12_pay_20 rfl (by decide) (q_wB h)
def fX12_leave_L55 (n : Nat) (M : xM) (v1 : Int) (v2 : Int) (v3 : Int) (v4 : Int) : Option (xM) := match n with
  | 0 => none
  | n + 1 => (if wr v4 < wr v1 then (xrd M 105 30 v4 fun r6 => xb (fX12_modulo M (v3 + r6)) fun r8 => xrd M 109 10 v2 fun r9 => xrd M 105 30 v4 fun r10 => xb2 (fX12_worthOf M v2 ((M 95 2) + v4) r8 r10) fun r12 M13 => xwt M13 109 10 v2 (r9 + r12) fun M14 => fX12_leave_L55 n M14 v1 v2 r8 (v4 + 1)) else some M)
set_option maxRecDepth 20000 in
set_option maxHeartbeats 1000000 in
theorem fX12_leave_L55_c {S : xS} {kp : Option Nat} (hS : xSk kp 110 S) {Q : Option xV → xS → xM → Prop} :
    ∀ (n : Nat) (M : xM) (v1 : Int) (v2 : Int) (v3 : Int) (v4 : Int) {Mz : xM}, fX12_leave_L55 n M v1 v2 v3 v4 = some Mz → V Y_X12_leave 6 0 0 112 [(0, vR (some 94)), (1, vI v1), (2, vI v2)] [] S Mz Q → V Y_X12_leave 6 0 0 55 [(0, vR (some 94)), (1, vI v1), (2, vI v2), (3, vI v3), (4, vI v4)] [] S M Q := by
  intro n
  induction n with
  | zero =>
    intro M v1 v2 v3 v4 Mz h k
    cases h
  | succ n ih =>
    intro M v1 v2 v3 v4 Mz h k
    rw [fX12_leave_L55] at h
    refine V_iload dX12_leave_55 (xm 4 rfl) ?_
    refine V_iload_n dX12_leave_57 rfl (xm 1 rfl) ?_
    refine V_icmp_ge (tgt := 112) dX12_leave_58 (by decide) h (fun _ h => ?_) (fun _ h => ?_)
    · refine V_aload_n dX12_leave_61 rfl (xm 0 rfl) ?_
      refine V_iload_n dX12_leave_62 rfl (xm 3 rfl) ?_
      refine V_aload_n dX12_leave_63 rfl (xm 0 rfl) ?_
      refine V_getR dX12_leave_64 fl_X12_44 (sk_94 hS (by decide)) rfl ?_
      refine V_iload dX12_leave_67 (xm 4 rfl) ?_
      refine T_iald dX12_leave_69 (sk_105 hS (by decide)) rfl h (fun r6 h => ?_)
      refine V_iadd dX12_leave_70 ?_
      refine xbE h (fun r8 h7 h => ?_)
      refine T_callVI dX12_leave_71 ok_X12_modulo (by exact ⟨by decide, rfl⟩) lk_X12_216.1 lk_X12_216.2 (sk_94 hS (by decide)) (hV := ((fX12_modulo_c (hS.le (by decide)) h7).mono (by decide) (Nat.le_refl _) (Nat.le_refl _))) rfl (Nat.le_of_ble_eq_true rfl) rfl (Nat.le_of_ble_eq_true rfl) ?_
      refine V_istore_n (ls' := [(3, vI r8), (0, vR (some 94)), (1, vI v1), (2, vI v2), (4, vI v4)]) dX12_leave_74 rfl (by decide) rfl ?_
      refine V_aload_n dX12_leave_75 rfl (xm 1 rfl) ?_
      refine V_getR dX12_leave_76 fl_X12_56 (sk_94 hS (by decide)) rfl ?_
      refine V_iload_n dX12_leave_79 rfl (xm 3 rfl) ?_
      refine V_dup2 dX12_leave_80 rfl rfl ?_
      refine T_iald dX12_leave_81 (sk_109 hS (by decide)) rfl h (fun r9 h => ?_)
      refine V_aload_n dX12_leave_82 rfl (xm 1 rfl) ?_
      refine V_iload_n dX12_leave_83 rfl (xm 3 rfl) ?_
      refine V_aload_n dX12_leave_84 rfl (xm 1 rfl) ?_
      refine V_getR dX12_leave_85 fl_X12_7 (sk_94 hS (by decide)) rfl ?_
      refine V_iconst dX12_leave_88 ?_
      refine V_ialdK (j := 2) dX12_leave_89 (sk_95 hS (by decide)) (by decide) (by decide) ?_
      refine V_iload dX12_leave_90 (xm 4 rfl) ?_
      refine V_iadd dX12_leave_92 ?_
      refine V_iload_n dX12_leave_93 rfl (xm 0 rfl) ?_
      refine V_aload_n dX12_leave_94 rfl (xm 1 rfl) ?_
      refine V_getR dX12_leave_95 fl_X12_44 (sk_94 hS (by decide)) rfl ?_
      refine V_iload dX12_leave_98 (xm 4 rfl) ?_
      refine T_iald dX12_leave_100 (sk_105 hS (by decide)) rfl h (fun r10 h => ?_)
      refine xb2E h (fun r12 M13 h11 h => ?_)
      refine T_callVI dX12_leave_101 ok_X12_worthOf (by exact ⟨by decide, rfl⟩) lk_X12_232.1 lk_X12_232.2 (sk_94 hS (by decide)) (hV := ((fX12_worthOf_c (hS.le (by decide)) h11).mono (by decide) (Nat.le_refl _) (Nat.le_refl _))) rfl (Nat.le_of_ble_eq_true rfl) rfl (Nat.le_of_ble_eq_true rfl) ?_
      refine V_iadd dX12_leave_104 ?_
      refine T_iast dX12_leave_105 (sk_109 hS (by decide)) rfl h (fun M14 h => ?_)
      refine V_iinc (ls' := [(4, vI (v4 + 1)), (3, vI r8), (0, vR (some 94)), (1, vI v1), (2, vI v2)]) dX12_leave_106 (xm 4 rfl) (by decide) rfl ?_
      refine V_goto (tgt := 55) dX12_leave_109 (by decide) ?_
      refine V.pick [2, 3, 4, 1, 0] rfl ?_
      exact ih M14 v1 v2 r8 (v4 + 1) h k
    · cases h
      refine V.pick [0, 1, 2] rfl ?_
      exact k
theorem fX12_leave_L55_ci {S : xS} {kp : Option Nat} (hS : xSk kp 110 S) {Q : Option xV → xS → xM → Prop} {n : Nat} {M : xM} {v1 : Int} {v2 : Int} {v3 : Int} {v4 : Int} {Mz : xM} (hl : fX12_leave_L55 n M v1 v2 v3 v4 = some Mz) (k : V Y_X12_leave 6 0 0 112 [(0, vR (some 94)), (1, vI v1), (2, vI v2)] [] S Mz Q) : V Y_X12_leave 6 0 0 55 [(0, vR (some 94)), (1, vI v1), (2, vI v2), (3, vI v3), (4, vI v4)] [] S M Q := fX12_leave_L55_c hS _ _ _ _ _ _ hl k
def fX12_leave_L20 (n : Nat) (M : xM) (v1 : Int) (v2 : Int) : Option (xM) := match n with
  | 0 => none
  | n + 1 => (if wr v2 < wr (M 95 5) then (xrd M 95 5820 (60 + v2) fun r4 => xwt M 109 10 v2 r4 fun M5 => xb (fX12_leave_L55 xfuel M5 v1 v2 (M5 95 1) 0) fun M15 => fX12_leave_L20 n M15 v1 (v2 + 1)) else some M)
set_option maxRecDepth 20000 in
set_option maxHeartbeats 1000000 in
theorem fX12_leave_L20_c {S : xS} {kp : Option Nat} (hS : xSk kp 110 S) {Q : Option xV → xS → xM → Prop} :
    ∀ (n : Nat) (M : xM) (v1 : Int) (v2 : Int) {Mz : xM}, fX12_leave_L20 n M v1 v2 = some Mz → V Y_X12_leave 6 0 0 118 [(0, vR (some 94)), (1, vI v1)] [] S Mz Q → V Y_X12_leave 6 0 0 20 [(0, vR (some 94)), (1, vI v1), (2, vI v2)] [] S M Q := by
  intro n
  induction n with
  | zero =>
    intro M v1 v2 Mz h k
    cases h
  | succ n ih =>
    intro M v1 v2 Mz h k
    rw [fX12_leave_L20] at h
    refine V_iload_n dX12_leave_20 rfl (xm 2 rfl) ?_
    refine V_aload_n dX12_leave_21 rfl (xm 0 rfl) ?_
    refine V_getR dX12_leave_22 fl_X12_7 (sk_94 hS (by decide)) rfl ?_
    refine V_iconst dX12_leave_25 ?_
    refine V_ialdK (j := 5) dX12_leave_26 (sk_95 hS (by decide)) (by decide) (by decide) ?_
    refine V_icmp_ge (tgt := 118) dX12_leave_27 (by decide) h (fun _ h => ?_) (fun _ h => ?_)
    · refine V_aload_n dX12_leave_30 rfl (xm 0 rfl) ?_
      refine V_getR dX12_leave_31 fl_X12_56 (sk_94 hS (by decide)) rfl ?_
      refine V_iload_n dX12_leave_34 rfl (xm 2 rfl) ?_
      refine V_aload_n dX12_leave_35 rfl (xm 0 rfl) ?_
      refine V_getR dX12_leave_36 fl_X12_7 (sk_94 hS (by decide)) rfl ?_
      refine V_bipush dX12_leave_39 (by decide) ?_
      refine V_iload_n dX12_leave_41 rfl (xm 2 rfl) ?_
      refine V_iadd dX12_leave_42 ?_
      refine T_iald dX12_leave_43 (sk_95 hS (by decide)) rfl h (fun r4 h => ?_)
      refine T_iast dX12_leave_44 (sk_109 hS (by decide)) rfl h (fun M5 h => ?_)
      refine V_aload_n dX12_leave_45 rfl (xm 0 rfl) ?_
      refine V_getR dX12_leave_46 fl_X12_7 (sk_94 hS (by decide)) rfl ?_
      refine V_iconst dX12_leave_49 ?_
      refine V_ialdK (j := 1) dX12_leave_50 (sk_95 hS (by decide)) (by decide) (by decide) ?_
      refine V_istore_n (ls' := [(3, vI (M5 95 1)), (0, vR (some 94)), (1, vI v1), (2, vI v2)]) dX12_leave_51 rfl (by decide) rfl ?_
      refine V_iconst dX12_leave_52 ?_
      refine V_istore (ls' := [(4, vI 0), (3, vI (M5 95 1)), (0, vR (some 94)), (1, vI v1), (2, vI v2)]) dX12_leave_53 (by decide) rfl ?_
      refine xbE h (fun M15 h16 h => ?_)
      refine V.pick [2, 3, 4, 1, 0] rfl ?_
      refine fX12_leave_L55_ci (hS.le (by decide)) h16 ?_
      refine V_iinc (ls' := [(2, vI (v2 + 1)), (0, vR (some 94)), (1, vI v1)]) dX12_leave_112 (xm 2 rfl) (by decide) rfl ?_
      refine V_goto (tgt := 20) dX12_leave_115 (by decide) ?_
      refine V.pick [1, 2, 0] rfl ?_
      exact ih M15 v1 (v2 + 1) h k
    · cases h
      refine V.pick [0, 1] rfl ?_
      exact k
theorem fX12_leave_L20_ci {S : xS} {kp : Option Nat} (hS : xSk kp 110 S) {Q : Option xV → xS → xM → Prop} {n : Nat} {M : xM} {v1 : Int} {v2 : Int} {Mz : xM} (hl : fX12_leave_L20 n M v1 v2 = some Mz) (k : V Y_X12_leave 6 0 0 118 [(0, vR (some 94)), (1, vI v1)] [] S Mz Q) : V Y_X12_leave 6 0 0 20 [(0, vR (some 94)), (1, vI v1), (2, vI v2)] [] S M Q := fX12_leave_L20_c hS _ _ _ _ hl k
def fX12_leave_L155 (n : Nat) (M : xM) (v1 : Int) (v2 : Int) (v3 : Int) (v4 : Int) (v5 : Int) : Option (Int) := match n with
  | 0 => none
  | n + 1 => (if wr v5 < wr (M 95 5) then (if wr (xand (xshr v3 v5) 1) = wr 1 then (xrd M 109 10 v5 fun r20 => fX12_leave_L155 n M v1 v2 v3 (v4 + r20) (v5 + 1)) else fX12_leave_L155 n M v1 v2 v3 (v4 + 0) (v5 + 1)) else some v4)
set_option maxRecDepth 20000 in
set_option maxHeartbeats 1000000 in
theorem fX12_leave_L155_c {S : xS} {kp : Option Nat} (hS : xSk kp 110 S) {Q : Option xV → xS → xM → Prop} :
    ∀ (n : Nat) (M : xM) (v1 : Int) (v2 : Int) (v3 : Int) (v4 : Int) (v5 : Int) {x4 : Int}, fX12_leave_L155 n M v1 v2 v3 v4 v5 = some x4 → V Y_X12_leave 6 0 0 198 [(0, vR (some 94)), (1, vI v1), (2, vI v2), (3, vI v3), (4, vI x4)] [] S M Q → V Y_X12_leave 6 0 0 155 [(0, vR (some 94)), (1, vI v1), (2, vI v2), (3, vI v3), (4, vI v4), (5, vI v5)] [] S M Q := by
  intro n
  induction n with
  | zero =>
    intro M v1 v2 v3 v4 v5 x4 h k
    cases h
  | succ n ih =>
    intro M v1 v2 v3 v4 v5 x4 h k
    rw [fX12_leave_L155] at h
    refine V_iload dX12_leave_155 (xm 5 rfl) ?_
    refine V_aload_n dX12_leave_157 rfl (xm 0 rfl) ?_
    refine V_getR dX12_leave_158 fl_X12_7 (sk_94 hS (by decide)) rfl ?_
    refine V_iconst dX12_leave_161 ?_
    refine V_ialdK (j := 5) dX12_leave_162 (sk_95 hS (by decide)) (by decide) (by decide) ?_
    refine V_icmp_ge (tgt := 198) dX12_leave_163 (by decide) h (fun _ h => ?_) (fun _ h => ?_)
    · refine V_iload dX12_leave_166 (xm 4 rfl) ?_
      refine V_iload_n dX12_leave_168 rfl (xm 3 rfl) ?_
      refine V_iload dX12_leave_169 (xm 5 rfl) ?_
      refine V_ishr dX12_leave_171 ?_
      refine V_iconst dX12_leave_172 ?_
      refine V_iand dX12_leave_173 ?_
      refine V_iconst dX12_leave_174 ?_
      refine V_icmp_ne (tgt := 188) dX12_leave_175 (by decide) h (fun _ h => ?_) (fun _ h => ?_)
      · refine V_aload_n dX12_leave_178 rfl (xm 0 rfl) ?_
        refine V_getR dX12_leave_179 fl_X12_56 (sk_94 hS (by decide)) rfl ?_
        refine V_iload dX12_leave_182 (xm 5 rfl) ?_
        refine T_iald dX12_leave_184 (sk_109 hS (by decide)) rfl h (fun r20 h => ?_)
        refine V_goto (tgt := 189) dX12_leave_185 (by decide) ?_
        refine V_iadd dX12_leave_189 ?_
        refine V_istore (ls' := [(4, vI (v4 + r20)), (0, vR (some 94)), (1, vI v1), (2, vI v2), (3, vI v3), (5, vI v5)]) dX12_leave_190 (by decide) rfl ?_
        refine V_iinc (ls' := [(5, vI (v5 + 1)), (4, vI (v4 + r20)), (0, vR (some 94)), (1, vI v1), (2, vI v2), (3, vI v3)]) dX12_leave_192 (xm 5 rfl) (by decide) rfl ?_
        refine V_goto (tgt := 155) dX12_leave_195 (by decide) ?_
        refine V.pick [2, 3, 4, 5, 1, 0] rfl ?_
        exact ih M v1 v2 v3 (v4 + r20) (v5 + 1) h k
      · refine V_iconst dX12_leave_188 ?_
        refine V_iadd dX12_leave_189 ?_
        refine V_istore (ls' := [(4, vI (v4 + 0)), (0, vR (some 94)), (1, vI v1), (2, vI v2), (3, vI v3), (5, vI v5)]) dX12_leave_190 (by decide) rfl ?_
        refine V_iinc (ls' := [(5, vI (v5 + 1)), (4, vI (v4 + 0)), (0, vR (some 94)), (1, vI v1), (2, vI v2), (3, vI v3)]) dX12_leave_192 (xm 5 rfl) (by decide) rfl ?_
        refine V_goto (tgt := 155) dX12_leave_195 (by decide) ?_
        refine V.pick [2, 3, 4, 5, 1, 0] rfl ?_
        exact ih M v1 v2 v3 (v4 + 0) (v5 + 1) h k
    · cases h
      refine V.pick [0, 1, 2, 3, 4] rfl ?_
      exact k
theorem fX12_leave_L155_ci {S : xS} {kp : Option Nat} (hS : xSk kp 110 S) {Q : Option xV → xS → xM → Prop} {n : Nat} {M : xM} {v1 : Int} {v2 : Int} {v3 : Int} {v4 : Int} {v5 : Int} {x4 : Int} (hl : fX12_leave_L155 n M v1 v2 v3 v4 v5 = some x4) (k : V Y_X12_leave 6 0 0 198 [(0, vR (some 94)), (1, vI v1), (2, vI v2), (3, vI v3), (4, vI x4)] [] S M Q) : V Y_X12_leave 6 0 0 155 [(0, vR (some 94)), (1, vI v1), (2, vI v2), (3, vI v3), (4, vI v4), (5, vI v5)] [] S M Q := fX12_leave_L155_c hS _ _ _ _ _ _ _ hl k
def fX12_leave_L122 (n : Nat) (M : xM) (v1 : Int) (v2 : Int) (v3 : Int) : Option (Int × xM) := match n with
  | 0 => none
  | n + 1 => (if wr (fX12_allPlots M) < wr v3 then some (v2, M) else (xj (fun (_ : Unit) => xb (fX12_leave_L155 xfuel M v1 v2 v3 0 0) fun y21 => xb2 (fX12_aloneOf M v3 v1) fun r24 M25 => (if wr y21 < wr r24 then fX12_leave_L122 n M25 v1 v3 (v3 + 1) else fX12_leave_L122 n M25 v1 v2 (v3 + 1))) fun j19 => (if wr v2 = wr ((-1)) then j19 () else (xb (fX12_count M v3) fun r27 => xb (fX12_count M v2) fun r29 => (if wr r27 < wr r29 then j19 () else fX12_leave_L122 n M v1 v2 (v3 + 1))))))
set_option maxRecDepth 20000 in
set_option maxHeartbeats 1000000 in
theorem fX12_leave_L122_c {S : xS} {kp : Option Nat} (hS : xSk kp 110 S) {Q : Option xV → xS → xM → Prop} :
    ∀ (n : Nat) (M : xM) (v1 : Int) (v2 : Int) (v3 : Int) {x2 : Int} {Mz : xM}, fX12_leave_L122 n M v1 v2 v3 = some (x2, Mz) → V Y_X12_leave 6 0 0 217 [(2, vI x2)] [] S Mz Q → V Y_X12_leave 6 0 0 122 [(0, vR (some 94)), (1, vI v1), (2, vI v2), (3, vI v3)] [] S M Q := by
  intro n
  induction n with
  | zero =>
    intro M v1 v2 v3 x2 Mz h k
    cases h
  | succ n ih =>
    intro M v1 v2 v3 x2 Mz h k
    rw [fX12_leave_L122] at h
    refine V_iload_n dX12_leave_122 rfl (xm 3 rfl) ?_
    refine V_aload_n dX12_leave_123 rfl (xm 0 rfl) ?_
    refine T_callVI dX12_leave_124 ok_X12_allPlots (by exact ⟨by decide, rfl⟩) lk_X12_255.1 lk_X12_255.2 (sk_94 hS (by decide)) (hV := ((fX12_allPlots_c (hS.le (by decide)) rfl).mono (by decide) (Nat.le_refl _) (Nat.le_refl _))) rfl (Nat.le_of_ble_eq_true rfl) rfl (Nat.le_of_ble_eq_true rfl) ?_
    refine V_icmp_gt (tgt := 217) dX12_leave_127 (by decide) h (fun _ h => ?_) (fun _ h => ?_)
    · cases h
      refine V.pick [2] rfl ?_
      exact k
    · refine V_iload_n dX12_leave_130 rfl (xm 2 rfl) ?_
      refine V_iconst dX12_leave_131 ?_
      refine xjE h (fun j19 hj19 h => ?_)
      have kj19 : ∀ (u : Unit), j19 u = some (x2, Mz) → V Y_X12_leave 6 0 0 149 [(0, vR (some 94)), (1, vI v1), (2, vI v2), (3, vI v3)] [] S M Q := by
        intro u h
        rw [hj19] at h
        refine V_iconst dX12_leave_149 ?_
        refine V_istore (ls' := [(4, vI 0), (0, vR (some 94)), (1, vI v1), (2, vI v2), (3, vI v3)]) dX12_leave_150 (by decide) rfl ?_
        refine V_iconst dX12_leave_152 ?_
        refine V_istore (ls' := [(5, vI 0), (4, vI 0), (0, vR (some 94)), (1, vI v1), (2, vI v2), (3, vI v3)]) dX12_leave_153 (by decide) rfl ?_
        refine xbE h (fun y21 h22 h => ?_)
        refine V.pick [2, 3, 4, 5, 1, 0] rfl ?_
        refine fX12_leave_L155_ci (hS.le (by decide)) h22 ?_
        refine V_iload dX12_leave_198 (xm 4 rfl) ?_
        refine V_aload_n dX12_leave_200 rfl (xm 0 rfl) ?_
        refine V_iload_n dX12_leave_201 rfl (xm 3 rfl) ?_
        refine V_iload_n dX12_leave_202 rfl (xm 1 rfl) ?_
        refine xb2E h (fun r24 M25 h23 h => ?_)
        refine T_callVI dX12_leave_203 ok_X12_aloneOf (by exact ⟨by decide, rfl⟩) lk_X12_311.1 lk_X12_311.2 (sk_94 hS (by decide)) (hV := ((fX12_aloneOf_c (hS.le (by decide)) h23).mono (by decide) (Nat.le_refl _) (Nat.le_refl _))) rfl (Nat.le_of_ble_eq_true rfl) rfl (Nat.le_of_ble_eq_true rfl) ?_
        refine V_icmp_ge (tgt := 211) dX12_leave_206 (by decide) h (fun _ h => ?_) (fun _ h => ?_)
        · refine V_iload_n dX12_leave_209 rfl (xm 3 rfl) ?_
          refine V_istore_n (ls' := [(2, vI v3), (0, vR (some 94)), (1, vI v1), (3, vI v3), (4, vI y21)]) dX12_leave_210 rfl (by decide) rfl ?_
          refine V_iinc (ls' := [(3, vI (v3 + 1)), (2, vI v3), (0, vR (some 94)), (1, vI v1), (4, vI y21)]) dX12_leave_211 (xm 3 rfl) (by decide) rfl ?_
          refine V_goto (tgt := 122) dX12_leave_214 (by decide) ?_
          refine V.pick [2, 3, 1, 0] rfl ?_
          exact ih M25 v1 v3 (v3 + 1) h k
        · refine V_iinc (ls' := [(3, vI (v3 + 1)), (0, vR (some 94)), (1, vI v1), (2, vI v2), (4, vI y21)]) dX12_leave_211 (xm 3 rfl) (by decide) rfl ?_
          refine V_goto (tgt := 122) dX12_leave_214 (by decide) ?_
          refine V.pick [1, 2, 3, 0] rfl ?_
          exact ih M25 v1 v2 (v3 + 1) h k
      refine V_icmp_eq (tgt := 149) dX12_leave_132 (by decide) h (fun _ h => ?_) (fun _ h => ?_)
      · refine V.pick [0, 1, 2, 3] rfl ?_
        exact kj19 () h
      · refine V_iload_n dX12_leave_135 rfl (xm 3 rfl) ?_
        refine xbE h (fun r27 h26 h => ?_)
        refine T_callSI (host := "") dX12_leave_136 ok_X12_count lk_X12_273.1 lk_X12_273.2 (hV := ((fX12_count_c (hS.le (by decide)) h26).mono (by decide) (Nat.le_refl _) (Nat.le_refl _))) rfl (Nat.le_of_ble_eq_true rfl) rfl (Nat.le_of_ble_eq_true rfl) ?_
        refine V_iload_n dX12_leave_139 rfl (xm 2 rfl) ?_
        refine xbE h (fun r29 h28 h => ?_)
        refine T_callSI (host := "") dX12_leave_140 ok_X12_count lk_X12_273.1 lk_X12_273.2 (hV := ((fX12_count_c (hS.le (by decide)) h28).mono (by decide) (Nat.le_refl _) (Nat.le_refl _))) rfl (Nat.le_of_ble_eq_true rfl) rfl (Nat.le_of_ble_eq_true rfl) ?_
        refine V_icmp_lt (tgt := 149) dX12_leave_143 (by decide) h (fun _ h => ?_) (fun _ h => ?_)
        · refine V.pick [0, 1, 2, 3] rfl ?_
          exact kj19 () h
        · refine V_goto (tgt := 211) dX12_leave_146 (by decide) ?_
          refine V_iinc (ls' := [(3, vI (v3 + 1)), (0, vR (some 94)), (1, vI v1), (2, vI v2)]) dX12_leave_211 (xm 3 rfl) (by decide) rfl ?_
          refine V_goto (tgt := 122) dX12_leave_214 (by decide) ?_
          refine V.pick [1, 2, 3, 0] rfl ?_
          exact ih M v1 v2 (v3 + 1) h k
theorem fX12_leave_L122_ci {S : xS} {kp : Option Nat} (hS : xSk kp 110 S) {Q : Option xV → xS → xM → Prop} {n : Nat} {M : xM} {v1 : Int} {v2 : Int} {v3 : Int} {x2 : Int} {Mz : xM} (hl : fX12_leave_L122 n M v1 v2 v3 = some (x2, Mz)) (k : V Y_X12_leave 6 0 0 217 [(2, vI x2)] [] S Mz Q) : V Y_X12_leave 6 0 0 122 [(0, vR (some 94)), (1, vI v1), (2, vI v2), (3, vI v3)] [] S M Q := fX12_leave_L122_c hS _ _ _ _ _ hl k
def fX12_leave (M : xM) (v1 : Int) : Option (Int × xM) := (if (fX12_isIn v1 1 6) = true then (xb2 (fX12_laysTurns M v1) fun r2 M3 => xb (fX12_leave_L20 xfuel M3 v1 0) fun M17 => xb2 (fX12_leave_L122 xfuel M17 v1 ((-1)) 1) fun y30 M31 => some (y30, M31)) else some ((-1), M))
set_option maxRecDepth 20000 in
set_option maxHeartbeats 1000000 in
theorem fX12_leave_c {S : xS} {kp : Option Nat} (hS : xSk kp 110 S) {M : xM} {v1 : Int} {E : Int × xM} (h : fX12_leave M v1 = some E) :
    V Y_X12_leave 6 0 0 0 (xarg 0 [vR (some 94), vI v1]) [] S M (xqR S E.2 (some (vI E.1))) := by
  unfold fX12_leave at h
  show V Y_X12_leave 6 0 0 0 [(0, vR (some 94)), (1, vI v1)] [] S M _
  refine V_iload_n dX12_leave_0 rfl (xm 1 rfl) ?_
  refine V_iconst dX12_leave_1 ?_
  refine V_bipush dX12_leave_2 (by decide) ?_
  refine T_callSI (host := "") dX12_leave_4 ok_X12_isIn lk_X12_70.1 lk_X12_70.2 (hV := ((fX12_isIn_c (hS.le (by decide)) rfl).mono (by decide) (Nat.le_refl _) (Nat.le_refl _))) rfl (Nat.le_of_ble_eq_true rfl) rfl (Nat.le_of_ble_eq_true rfl) ?_
  refine V_if_neB (tgt := 12) dX12_leave_7 (by decide) h (fun _ h => ?_) (fun _ h => ?_)
  · refine V_aload_n dX12_leave_12 rfl (xm 0 rfl) ?_
    refine V_iload_n dX12_leave_13 rfl (xm 1 rfl) ?_
    refine xb2E h (fun r2 M3 h1 h => ?_)
    refine T_callVI dX12_leave_14 ok_X12_laysTurns (by exact ⟨by decide, rfl⟩) lk_X12_294.1 lk_X12_294.2 (sk_94 hS (by decide)) (hV := ((fX12_laysTurns_c (hS.le (by decide)) h1).mono (by decide) (Nat.le_refl _) (Nat.le_refl _))) rfl (Nat.le_of_ble_eq_true rfl) rfl (Nat.le_of_ble_eq_true rfl) ?_
    refine V_pop dX12_leave_17 rfl ?_
    refine V_iconst dX12_leave_18 ?_
    refine V_istore_n (ls' := [(2, vI 0), (0, vR (some 94)), (1, vI v1)]) dX12_leave_19 rfl (by decide) rfl ?_
    refine xbE h (fun M17 h18 h => ?_)
    refine V.pick [1, 2, 0] rfl ?_
    refine fX12_leave_L20_ci (hS.le (by decide)) h18 ?_
    refine V_iconst dX12_leave_118 ?_
    refine V_istore_n (ls' := [(2, vI ((-1))), (0, vR (some 94)), (1, vI v1)]) dX12_leave_119 rfl (by decide) rfl ?_
    refine V_iconst dX12_leave_120 ?_
    refine V_istore_n (ls' := [(3, vI 1), (2, vI ((-1))), (0, vR (some 94)), (1, vI v1)]) dX12_leave_121 rfl (by decide) rfl ?_
    refine xb2E h (fun y30 M31 h32 h => ?_)
    refine V.pick [2, 3, 1, 0] rfl ?_
    refine fX12_leave_L122_ci (hS.le (by decide)) h32 ?_
    refine V_iload_n dX12_leave_217 rfl (xm 0 rfl) ?_
    exact V_ireti dX12_leave_218 rfl (q_wI h)
  · refine V_iconst dX12_leave_10 ?_
    exact V_ireti dX12_leave_11 rfl (q_wI h)
