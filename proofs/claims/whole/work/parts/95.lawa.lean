/-! the law's loop, where no image is kept yet -/
def fL_A (xs : Nat → Int32) (L : Nat) (n : Nat) (M : xM) (v3 : Int) : Option ((xM) ⊕ (Bool × xM)) := match n with
  | 0 => none
  | n + 1 => (if wr (((L : Int)) - 6) < wr v3 then some (.inl M) else (xsc xs L v3 fun r1 => (if wr (xand r1 31) = 0 then (xsc xs L (v3 + 1) fun r2 => xb2 (fX11_notches M r2) fun r4 M5 => xsc xs L (v3 + 1) fun r6 => xb2 (fX12_notches M5 r6) fun r8 M9 => (if wr (b2i r4) = wr (b2i r8) then fL_A xs L n M9 (v3 + 6) else some (.inr (false, M9)))) else (if wr (xand r1 31) = 1 then (xsc xs L (v3 + 1) fun r10 => xsc xs L (v3 + 2) fun r11 => xsc xs L (v3 + 3) fun r12 => xsc xs L (v3 + 4) fun r13 => xb2 (fX11_sky M r10 r11 r12 r13) fun r15 M16 => xsc xs L (v3 + 1) fun r17 => xsc xs L (v3 + 2) fun r18 => xsc xs L (v3 + 3) fun r19 => xsc xs L (v3 + 4) fun r20 => xb2 (fX12_sky M16 r17 r18 r19 r20) fun r22 M23 => (if wr (b2i r15) = wr (b2i r22) then fL_A xs L n M23 (v3 + 6) else some (.inr (false, M23)))) else (if wr (xand r1 31) = 2 then (xsc xs L (v3 + 1) fun r24 => xsc xs L (v3 + 2) fun r25 => xsc xs L (v3 + 3) fun r26 => xsc xs L (v3 + 4) fun r27 => xb2 (fX11_plot M r24 r25 r26 r27) fun r29 M30 => xsc xs L (v3 + 1) fun r31 => xsc xs L (v3 + 2) fun r32 => xsc xs L (v3 + 3) fun r33 => xsc xs L (v3 + 4) fun r34 => xb2 (fX12_plot M30 r31 r32 r33 r34) fun r36 M37 => (if wr r29 = wr r36 then fL_A xs L n M37 (v3 + 6) else some (.inr (false, M37)))) else (if wr (xand r1 31) = 3 then (xsc xs L (v3 + 1) fun r38 => xsc xs L (v3 + 2) fun r39 => xb2 (fX11_set M r38 r39) fun r41 M42 => xsc xs L (v3 + 1) fun r43 => xsc xs L (v3 + 2) fun r44 => xb2 (fX12_set M42 r43 r44) fun r46 M47 => (if wr (b2i r41) = wr (b2i r46) then fL_A xs L n M47 (v3 + 6) else some (.inr (false, M47)))) else (if wr (xand r1 31) = 4 then (xsc xs L (v3 + 1) fun r48 => xsc xs L (v3 + 2) fun r49 => xsc xs L (v3 + 3) fun r50 => xsc xs L (v3 + 4) fun r51 => xsc xs L (v3 + 5) fun r52 => xb2 (fX11_feed M r48 r49 r50 r51 r52) fun r54 M55 => xsc xs L (v3 + 1) fun r56 => xsc xs L (v3 + 2) fun r57 => xsc xs L (v3 + 3) fun r58 => xsc xs L (v3 + 4) fun r59 => xsc xs L (v3 + 5) fun r60 => xb2 (fX12_feed M55 r56 r57 r58 r59 r60) fun r62 M63 => (if wr r54 = wr r62 then fL_A xs L n M63 (v3 + 6) else some (.inr (false, M63)))) else (if wr (xand r1 31) = 5 then (xsc xs L (v3 + 1) fun r64 => xb2 (fX11_end M r64) fun r66 M67 => xsc xs L (v3 + 1) fun r68 => xb2 (fX12_end M67 r68) fun r70 M71 => (if wr (b2i r66) = wr (b2i r70) then fL_A xs L n M71 (v3 + 6) else some (.inr (false, M71)))) else (if wr (xand r1 31) = 6 then (xsc xs L (v3 + 1) fun r72 => xb2 (fX11_text M r72) fun r74 M75 => xsc xs L (v3 + 1) fun r76 => xb2 (fX12_text M75 r76) fun r78 M79 => (if wr r74 = wr r78 then fL_A xs L n M79 (v3 + 6) else some (.inr (false, M79)))) else (if wr (xand r1 31) = 7 then (xsc xs L (v3 + 1) fun r80 => xsc xs L (v3 + 1) fun r81 => (if wr (fX11_fault M r80) = wr (fX12_fault M r81) then fL_A xs L n M (v3 + 6) else some (.inr (false, M)))) else (if wr (xand r1 31) = 8 then (xsc xs L (v3 + 1) fun r82 => xsc xs L (v3 + 2) fun r83 => xsc xs L (v3 + 3) fun r84 => xsc xs L (v3 + 4) fun r85 => xb2 (fX11_worth M r82 r83 r84 r85) fun r87 M88 => xsc xs L (v3 + 1) fun r89 => xsc xs L (v3 + 2) fun r90 => xsc xs L (v3 + 3) fun r91 => xsc xs L (v3 + 4) fun r92 => xb2 (fX12_worth M88 r89 r90 r91 r92) fun r94 M95 => (if wr r87 = wr r94 then fL_A xs L n M95 (v3 + 6) else some (.inr (false, M95)))) else (if wr (xand r1 31) = 9 then (xsc xs L (v3 + 1) fun r96 => xsc xs L (v3 + 2) fun r97 => xsc xs L (v3 + 3) fun r98 => xsc xs L (v3 + 4) fun r99 => xsc xs L (v3 + 5) fun r100 => xb2 (fX11_sell M r96 r97 r98 r99 r100) fun r102 M103 => xsc xs L (v3 + 1) fun r104 => xsc xs L (v3 + 2) fun r105 => xsc xs L (v3 + 3) fun r106 => xsc xs L (v3 + 4) fun r107 => xsc xs L (v3 + 5) fun r108 => xb2 (fX12_sell M103 r104 r105 r106 r107 r108) fun r110 M111 => (if wr (b2i r102) = wr (b2i r110) then fL_A xs L n M111 (v3 + 6) else some (.inr (false, M111)))) else (if wr (xand r1 31) = 10 then (xsc xs L (v3 + 1) fun r112 => xsc xs L (v3 + 2) fun r113 => xsc xs L (v3 + 3) fun r114 => xsc xs L (v3 + 4) fun r115 => xb2 (fX11_promise M r112 r113 r114 r115) fun r117 M118 => xsc xs L (v3 + 1) fun r119 => xsc xs L (v3 + 2) fun r120 => xsc xs L (v3 + 3) fun r121 => xsc xs L (v3 + 4) fun r122 => xb2 (fX12_promise M118 r119 r120 r121 r122) fun r124 M125 => (if wr r117 = wr r124 then fL_A xs L n M125 (v3 + 6) else some (.inr (false, M125)))) else (if wr (xand r1 31) = 11 then (xsc xs L (v3 + 1) fun r126 => xb2 (fX11_drop M r126) fun r128 M129 => xsc xs L (v3 + 1) fun r130 => xb2 (fX12_drop M129 r130) fun r132 M133 => (if wr (b2i r128) = wr (b2i r132) then fL_A xs L n M133 (v3 + 6) else some (.inr (false, M133)))) else (if wr (xand r1 31) = 12 then (xsc xs L (v3 + 1) fun r134 => xb2 (fX11_votes M r134) fun r136 M137 => xsc xs L (v3 + 1) fun r138 => xb2 (fX12_votes M137 r138) fun r140 M141 => (if wr r136 = wr r140 then fL_A xs L n M141 (v3 + 6) else some (.inr (false, M141)))) else (if wr (xand r1 31) = 13 then (xsc xs L (v3 + 1) fun r142 => xsc xs L (v3 + 2) fun r143 => xb (fX11_holder M r142 r143) fun r145 => xsc xs L (v3 + 1) fun r146 => xsc xs L (v3 + 2) fun r147 => xb (fX12_holder M r146 r147) fun r149 => (if wr r145 = wr r149 then fL_A xs L n M (v3 + 6) else some (.inr (false, M)))) else (if wr (xand r1 31) = 14 then (xsc xs L (v3 + 1) fun r150 => xb2 (fX11_noons M r150) fun r152 M153 => xsc xs L (v3 + 1) fun r154 => xb2 (fX12_noons M153 r154) fun r156 M157 => (if wr r152 = wr r156 then fL_A xs L n M157 (v3 + 6) else some (.inr (false, M157)))) else (if wr (xand r1 31) = 15 then (xsc xs L (v3 + 1) fun r158 => xsc xs L (v3 + 2) fun r159 => xb (fX11_of M r158 r159) fun r161 => xsc xs L (v3 + 1) fun r162 => xsc xs L (v3 + 2) fun r163 => xb (fX12_of M r162 r163) fun r165 => (if wr r161 = wr r165 then fL_A xs L n M (v3 + 6) else some (.inr (false, M)))) else (if wr (xand r1 31) = 16 then (xsc xs L (v3 + 1) fun r166 => xb (fX11_turned M r166) fun r168 => xsc xs L (v3 + 1) fun r169 => xb (fX12_turned M r169) fun r171 => (if wr r168 = wr r171 then fL_A xs L n M (v3 + 6) else some (.inr (false, M)))) else (if wr (xand r1 31) = 17 then (xsc xs L (v3 + 1) fun r172 => xsc xs L (v3 + 2) fun r173 => xb2 (fX11_best M r172 r173) fun r175 M176 => xsc xs L (v3 + 1) fun r177 => xsc xs L (v3 + 2) fun r178 => xb2 (fX12_best M176 r177 r178) fun r180 M181 => (if wr r175 = wr r180 then fL_A xs L n M181 (v3 + 6) else some (.inr (false, M181)))) else (if wr (xand r1 31) = 18 then (xsc xs L (v3 + 1) fun r182 => xsc xs L (v3 + 2) fun r183 => xb2 (fX11_fair M r182 r183) fun r185 M186 => xsc xs L (v3 + 1) fun r187 => xsc xs L (v3 + 2) fun r188 => xb2 (fX12_fair M186 r187 r188) fun r190 M191 => (if wr r185 = wr r190 then fL_A xs L n M191 (v3 + 6) else some (.inr (false, M191)))) else (if wr (xand r1 31) = 19 then (xsc xs L (v3 + 1) fun r192 => xsc xs L (v3 + 2) fun r193 => xb2 (fX11_alone M r192 r193) fun r195 M196 => xsc xs L (v3 + 1) fun r197 => xsc xs L (v3 + 2) fun r198 => xb2 (fX12_alone M196 r197 r198) fun r200 M201 => (if wr r195 = wr r200 then fL_A xs L n M201 (v3 + 6) else some (.inr (false, M201)))) else (if wr (xand r1 31) = 20 then (xsc xs L (v3 + 1) fun r202 => xsc xs L (v3 + 2) fun r203 => xb2 (fX11_pay M r202 r203) fun r205 M206 => xsc xs L (v3 + 1) fun r207 => xsc xs L (v3 + 2) fun r208 => xb2 (fX12_pay M206 r207 r208) fun r210 M211 => (if wr (b2i r205) = wr (b2i r210) then fL_A xs L n M211 (v3 + 6) else some (.inr (false, M211)))) else (if wr (xand r1 31) = 21 then (xsc xs L (v3 + 1) fun r212 => xb2 (fX11_leave M r212) fun r214 M215 => xsc xs L (v3 + 1) fun r216 => xb2 (fX12_leave M215 r216) fun r218 M219 => (if wr r214 = wr r218 then fL_A xs L n M219 (v3 + 6) else some (.inr (false, M219)))) else (if wr (xand r1 31) = 22 then (xb (fX11_quarrel M) fun r221 => xb (fX12_quarrel M) fun r223 => (if wr r221 = wr r223 then fL_A xs L n M (v3 + 6) else some (.inr (false, M)))) else (if wr (xand r1 31) = 23 then (xsc xs L (v3 + 1) fun r224 => xb2 (fX11_fewest M r224) fun r226 M227 => xsc xs L (v3 + 1) fun r228 => xb (fX12_fewest M227 r228) fun r230 => (if wr r226 = wr r230 then fL_A xs L n M227 (v3 + 6) else some (.inr (false, M227)))) else (if wr (xand r1 31) = 24 then (xsc xs L (v3 + 1) fun r231 => xsc xs L (v3 + 2) fun r232 => xb2 (fX11_plan M r231 r232) fun r234 M235 => xsc xs L (v3 + 1) fun r236 => xsc xs L (v3 + 2) fun r237 => xb2 (fX12_plan M235 r236 r237) fun r239 M240 => (if wr (b2i r234) = wr (b2i r239) then fL_A xs L n M240 (v3 + 6) else some (.inr (false, M240)))) else (if wr (xand r1 31) = 25 then (xsc xs L (v3 + 1) fun r241 => xsc xs L (v3 + 2) fun r242 => xsc xs L (v3 + 3) fun r243 => xb (fX11_boat M r241 r242 r243) fun r245 => xsc xs L (v3 + 1) fun r246 => xsc xs L (v3 + 2) fun r247 => xsc xs L (v3 + 3) fun r248 => xb (fX12_boat M r246 r247 r248) fun r250 => (if wr r245 = wr r250 then fL_A xs L n M (v3 + 6) else some (.inr (false, M)))) else (if wr (xand r1 31) = 26 then (xsc xs L (v3 + 1) fun r251 => xsc xs L (v3 + 2) fun r252 => xsc xs L (v3 + 3) fun r253 => xb2 (fX11_log M r251 r252 r253) fun r255 M256 => xsc xs L (v3 + 1) fun r257 => xsc xs L (v3 + 2) fun r258 => xsc xs L (v3 + 3) fun r259 => xb2 (fX12_log M256 r257 r258 r259) fun r261 M262 => (if wr (b2i r255) = wr (b2i r261) then fL_A xs L n M262 (v3 + 6) else some (.inr (false, M262)))) else (if wr (xand r1 31) = 27 then (xsc xs L (v3 + 1) fun r263 => xsc xs L (v3 + 2) fun r264 => xsc xs L (v3 + 3) fun r265 => xb2 (fX11_back M r263 r264 r265) fun r267 M268 => xsc xs L (v3 + 1) fun r269 => xsc xs L (v3 + 2) fun r270 => xsc xs L (v3 + 3) fun r271 => xb2 (fX12_back M268 r269 r270 r271) fun r273 M274 => (if wr (xlcmp r267 r273) = 0 then fL_A xs L n M274 (v3 + 6) else some (.inr (false, M274)))) else (if wr (xand r1 31) = 28 then (xb2 (fX11_undo M) fun r276 M277 => xb2 (fX12_undo M277) fun r279 M280 => (if wr (b2i r276) = wr (b2i r279) then fL_A xs L n M280 (v3 + 6) else some (.inr (false, M280)))) else (if wr (xand r1 31) = 29 then (xsc xs L (v3 + 1) fun r281 => (if wr r281 = 0 then (xsc xs L (v3 + 1) fun r287 => xj (fun (s288 : Int) => xb2 (fX12_image M s288) fun r291 M292 => (if wr (b2i false) = wr (b2i r291) then fL_A xs L n M292 (v3 + 6) else some (.inr (false, M292)))) fun j289 => (if wr r287 = 0 then j289 0 else j289 1)) else (xb (gX11_takeA M) fun M286 => xsc xs L (v3 + 1) fun r287 => xj (fun (s288 : Int) => xb2 (fX12_image M286 s288) fun r291 M292 => (if wr (b2i true) = wr (b2i r291) then fL_B xs L n M292 (v3 + 6) else some (.inr (false, M292)))) fun j289 => (if wr r287 = 0 then j289 0 else j289 1)))) else (if wr (xand r1 31) = 30 then (xsc xs L (v3 + 1) fun r293 => xb (fX11_look M r293) fun r295 => xsc xs L (v3 + 1) fun r296 => xb (fX12_look M r296) fun r298 => (if wr r295 = wr r298 then fL_A xs L n M (v3 + 6) else some (.inr (false, M)))) else fL_A xs L n M (v3 + 6))))))))))))))))))))))))))))))))))
set_option maxRecDepth 20000 in
set_option maxHeartbeats 1000000 in
theorem fL_A_c {Q : Option xV → xS → xM → Prop} {xs : Nat → Int32} {L : Nat} :
    ∀ (n : Nat) (M : xM) (v3 : Int) {E : (xM) ⊕ (Bool × xM)}, fL_A xs L n M v3 = some E → (∀ (S' : xS) (Mz : xM), E = .inl Mz → V (Y_L_law L xs) 54 0 0 1228 [] [] S' Mz Q) → (∀ (S' : xS) (w : Bool) (Mz : xM), E = .inr (w, Mz) → Q (some (vI (b2i w))) S' Mz) → V (Y_L_law L xs) 54 35 3531 18 [(0, vS 3), (1, vR (some 0)), (2, vR (some 94)), (3, vI v3)] [] (Sk none) M Q := by
  intro n
  induction n with
  | zero =>
    intro M v3 E h k kr
    cases h
  | succ n ih =>
    intro M v3 E h k kr
    have hS : xSk none 111 (Sk none) := fun i _ _ => rfl
    rw [fL_A] at h
    refine V_iload_n dL_law_18 rfl (xm 3 rfl) ?_
    refine V_aload_nS dL_law_19 rfl (xm 0 rfl) ?_
    refine V_slen dL_law_20 rfl ?_
    refine V_bipush dL_law_21 (by decide) ?_
    refine V_isub dL_law_23 ?_
    refine V_icmp_gt (tgt := 1228) dL_law_24 (by decide) h (fun _ h => ?_) (fun _ h => ?_)
    · refine V.pick [] rfl ?_
      exact (k (Sk none) M (Option.some.inj h).symm).mono (Nat.le_refl _) (by decide) (by decide)
    · refine V_aload_nS dL_law_27 rfl (xm 0 rfl) ?_
      refine V_iload_n dL_law_28 rfl (xm 3 rfl) ?_
      refine T_sld dL_law_29 rfl h (fun r1 h => ?_)
      refine V_bipush dL_law_30 (by decide) ?_
      refine V_iand dL_law_32 ?_
      refine xif h (fun c h => ?_) (fun c0 h => ?_)
      · refine V_tabIn (tgt := 172) dL_law_33 c (by decide) (by decide) rfl (by decide) ?_
        refine V_aload_n dL_law_172 rfl (xm 1 rfl) ?_
        refine V_aload_nS dL_law_173 rfl (xm 0 rfl) ?_
        refine V_iload_n dL_law_174 rfl (xm 3 rfl) ?_
        refine V_iconst dL_law_175 ?_
        refine V_iadd dL_law_176 ?_
        refine T_sld dL_law_177 rfl h (fun r2 h => ?_)
        refine xb2E h (fun r4 M5 h3 h => ?_)
        refine T_callVI dL_law_178 ok_X11_notches (by exact ⟨by decide, rfl⟩) lk_L_13.1 lk_L_13.2 (sk_0 hS (by decide)) (hV := ((fX11_notches_c (hS.le (by decide)) h3).mono (by decide) (Nat.le_refl _) (Nat.le_refl _))) rfl (Nat.le_of_ble_eq_true rfl) rfl (Nat.le_of_ble_eq_true rfl) ?_
        refine V_aload_n dL_law_181 rfl (xm 2 rfl) ?_
        refine V_aload_nS dL_law_182 rfl (xm 0 rfl) ?_
        refine V_iload_n dL_law_183 rfl (xm 3 rfl) ?_
        refine V_iconst dL_law_184 ?_
        refine V_iadd dL_law_185 ?_
        refine T_sld dL_law_186 rfl h (fun r6 h => ?_)
        refine xb2E h (fun r8 M9 h7 h => ?_)
        refine T_callVI dL_law_187 ok_X12_notches (by exact ⟨by decide, rfl⟩) lk_L_17.1 lk_L_17.2 (sk_94 hS (by decide)) (hV := ((fX12_notches_c (hS.le (by decide)) h7).mono (by decide) (Nat.le_refl _) (Nat.le_refl _))) rfl (Nat.le_of_ble_eq_true rfl) rfl (Nat.le_of_ble_eq_true rfl) ?_
        refine V_icmp_eq (tgt := 1222) dL_law_190 (by decide) h (fun _ h => ?_) (fun _ h => ?_)
        · refine V_iinc (ls' := [(3, vI (v3 + 6)), (0, vS 3), (1, vR (some 0)), (2, vR (some 94))]) dL_law_1222 (xm 3 rfl) (Nat.le_of_ble_eq_true rfl) rfl ?_
          refine V_goto (tgt := 18) dL_law_1225 (by decide) ?_
          refine V.pick [1, 2, 3, 0] rfl ?_
          exact ih M9 (v3 + 6) h k kr
        · refine V_iconst dL_law_193 ?_
          exact V_iretb (b := false) dL_law_194 rfl (by decide) (kr (Sk none) false M9 (Option.some.inj h).symm)
      · refine xif h (fun c h => ?_) (fun c1 h => ?_)
        · refine V_tabIn (tgt := 195) dL_law_33 c (by decide) (by decide) rfl (by decide) ?_
          refine V_aload_n dL_law_195 rfl (xm 1 rfl) ?_
          refine V_aload_nS dL_law_196 rfl (xm 0 rfl) ?_
          refine V_iload_n dL_law_197 rfl (xm 3 rfl) ?_
          refine V_iconst dL_law_198 ?_
          refine V_iadd dL_law_199 ?_
          refine T_sld dL_law_200 rfl h (fun r10 h => ?_)
          refine V_aload_nS dL_law_201 rfl (xm 0 rfl) ?_
          refine V_iload_n dL_law_202 rfl (xm 3 rfl) ?_
          refine V_iconst dL_law_203 ?_
          refine V_iadd dL_law_204 ?_
          refine T_sld dL_law_205 rfl h (fun r11 h => ?_)
          refine V_aload_nS dL_law_206 rfl (xm 0 rfl) ?_
          refine V_iload_n dL_law_207 rfl (xm 3 rfl) ?_
          refine V_iconst dL_law_208 ?_
          refine V_iadd dL_law_209 ?_
          refine T_sld dL_law_210 rfl h (fun r12 h => ?_)
          refine V_aload_nS dL_law_211 rfl (xm 0 rfl) ?_
          refine V_iload_n dL_law_212 rfl (xm 3 rfl) ?_
          refine V_iconst dL_law_213 ?_
          refine V_iadd dL_law_214 ?_
          refine T_sld dL_law_215 rfl h (fun r13 h => ?_)
          refine xb2E h (fun r15 M16 h14 h => ?_)
          refine T_callVI dL_law_216 ok_X11_sky (by exact ⟨by decide, rfl⟩) lk_L_18.1 lk_L_18.2 (sk_0 hS (by decide)) (hV := ((fX11_sky_c (hS.le (by decide)) h14).mono (by decide) (Nat.le_refl _) (Nat.le_refl _))) rfl (Nat.le_of_ble_eq_true rfl) rfl (Nat.le_of_ble_eq_true rfl) ?_
          refine V_aload_n dL_law_219 rfl (xm 2 rfl) ?_
          refine V_aload_nS dL_law_220 rfl (xm 0 rfl) ?_
          refine V_iload_n dL_law_221 rfl (xm 3 rfl) ?_
          refine V_iconst dL_law_222 ?_
          refine V_iadd dL_law_223 ?_
          refine T_sld dL_law_224 rfl h (fun r17 h => ?_)
          refine V_aload_nS dL_law_225 rfl (xm 0 rfl) ?_
          refine V_iload_n dL_law_226 rfl (xm 3 rfl) ?_
          refine V_iconst dL_law_227 ?_
          refine V_iadd dL_law_228 ?_
          refine T_sld dL_law_229 rfl h (fun r18 h => ?_)
          refine V_aload_nS dL_law_230 rfl (xm 0 rfl) ?_
          refine V_iload_n dL_law_231 rfl (xm 3 rfl) ?_
          refine V_iconst dL_law_232 ?_
          refine V_iadd dL_law_233 ?_
          refine T_sld dL_law_234 rfl h (fun r19 h => ?_)
          refine V_aload_nS dL_law_235 rfl (xm 0 rfl) ?_
          refine V_iload_n dL_law_236 rfl (xm 3 rfl) ?_
          refine V_iconst dL_law_237 ?_
          refine V_iadd dL_law_238 ?_
          refine T_sld dL_law_239 rfl h (fun r20 h => ?_)
          refine xb2E h (fun r22 M23 h21 h => ?_)
          refine T_callVI dL_law_240 ok_X12_sky (by exact ⟨by decide, rfl⟩) lk_L_22.1 lk_L_22.2 (sk_94 hS (by decide)) (hV := ((fX12_sky_c (hS.le (by decide)) h21).mono (by decide) (Nat.le_refl _) (Nat.le_refl _))) rfl (Nat.le_of_ble_eq_true rfl) rfl (Nat.le_of_ble_eq_true rfl) ?_
          refine V_icmp_eq (tgt := 1222) dL_law_243 (by decide) h (fun _ h => ?_) (fun _ h => ?_)
          · refine V_iinc (ls' := [(3, vI (v3 + 6)), (0, vS 3), (1, vR (some 0)), (2, vR (some 94))]) dL_law_1222 (xm 3 rfl) (Nat.le_of_ble_eq_true rfl) rfl ?_
            refine V_goto (tgt := 18) dL_law_1225 (by decide) ?_
            refine V.pick [1, 2, 3, 0] rfl ?_
            exact ih M23 (v3 + 6) h k kr
          · refine V_iconst dL_law_246 ?_
            exact V_iretb (b := false) dL_law_247 rfl (by decide) (kr (Sk none) false M23 (Option.some.inj h).symm)
        · refine xif h (fun c h => ?_) (fun c2 h => ?_)
          · refine V_tabIn (tgt := 248) dL_law_33 c (by decide) (by decide) rfl (by decide) ?_
            refine V_aload_n dL_law_248 rfl (xm 1 rfl) ?_
            refine V_aload_nS dL_law_249 rfl (xm 0 rfl) ?_
            refine V_iload_n dL_law_250 rfl (xm 3 rfl) ?_
            refine V_iconst dL_law_251 ?_
            refine V_iadd dL_law_252 ?_
            refine T_sld dL_law_253 rfl h (fun r24 h => ?_)
            refine V_aload_nS dL_law_254 rfl (xm 0 rfl) ?_
            refine V_iload_n dL_law_255 rfl (xm 3 rfl) ?_
            refine V_iconst dL_law_256 ?_
            refine V_iadd dL_law_257 ?_
            refine T_sld dL_law_258 rfl h (fun r25 h => ?_)
            refine V_aload_nS dL_law_259 rfl (xm 0 rfl) ?_
            refine V_iload_n dL_law_260 rfl (xm 3 rfl) ?_
            refine V_iconst dL_law_261 ?_
            refine V_iadd dL_law_262 ?_
            refine T_sld dL_law_263 rfl h (fun r26 h => ?_)
            refine V_aload_nS dL_law_264 rfl (xm 0 rfl) ?_
            refine V_iload_n dL_law_265 rfl (xm 3 rfl) ?_
            refine V_iconst dL_law_266 ?_
            refine V_iadd dL_law_267 ?_
            refine T_sld dL_law_268 rfl h (fun r27 h => ?_)
            refine xb2E h (fun r29 M30 h28 h => ?_)
            refine T_callVI dL_law_269 ok_X11_plot (by exact ⟨by decide, rfl⟩) lk_L_23.1 lk_L_23.2 (sk_0 hS (by decide)) (hV := ((fX11_plot_c (hS.le (by decide)) h28).mono (by decide) (Nat.le_refl _) (Nat.le_refl _))) rfl (Nat.le_of_ble_eq_true rfl) rfl (Nat.le_of_ble_eq_true rfl) ?_
            refine V_aload_n dL_law_272 rfl (xm 2 rfl) ?_
            refine V_aload_nS dL_law_273 rfl (xm 0 rfl) ?_
            refine V_iload_n dL_law_274 rfl (xm 3 rfl) ?_
            refine V_iconst dL_law_275 ?_
            refine V_iadd dL_law_276 ?_
            refine T_sld dL_law_277 rfl h (fun r31 h => ?_)
            refine V_aload_nS dL_law_278 rfl (xm 0 rfl) ?_
            refine V_iload_n dL_law_279 rfl (xm 3 rfl) ?_
            refine V_iconst dL_law_280 ?_
            refine V_iadd dL_law_281 ?_
            refine T_sld dL_law_282 rfl h (fun r32 h => ?_)
            refine V_aload_nS dL_law_283 rfl (xm 0 rfl) ?_
            refine V_iload_n dL_law_284 rfl (xm 3 rfl) ?_
            refine V_iconst dL_law_285 ?_
            refine V_iadd dL_law_286 ?_
            refine T_sld dL_law_287 rfl h (fun r33 h => ?_)
            refine V_aload_nS dL_law_288 rfl (xm 0 rfl) ?_
            refine V_iload_n dL_law_289 rfl (xm 3 rfl) ?_
            refine V_iconst dL_law_290 ?_
            refine V_iadd dL_law_291 ?_
            refine T_sld dL_law_292 rfl h (fun r34 h => ?_)
            refine xb2E h (fun r36 M37 h35 h => ?_)
            refine T_callVI dL_law_293 ok_X12_plot (by exact ⟨by decide, rfl⟩) lk_L_27.1 lk_L_27.2 (sk_94 hS (by decide)) (hV := ((fX12_plot_c (hS.le (by decide)) h35).mono (by decide) (Nat.le_refl _) (Nat.le_refl _))) rfl (Nat.le_of_ble_eq_true rfl) rfl (Nat.le_of_ble_eq_true rfl) ?_
            refine V_icmp_eq (tgt := 1222) dL_law_296 (by decide) h (fun _ h => ?_) (fun _ h => ?_)
            · refine V_iinc (ls' := [(3, vI (v3 + 6)), (0, vS 3), (1, vR (some 0)), (2, vR (some 94))]) dL_law_1222 (xm 3 rfl) (Nat.le_of_ble_eq_true rfl) rfl ?_
              refine V_goto (tgt := 18) dL_law_1225 (by decide) ?_
              refine V.pick [1, 2, 3, 0] rfl ?_
              exact ih M37 (v3 + 6) h k kr
            · refine V_iconst dL_law_299 ?_
              exact V_iretb (b := false) dL_law_300 rfl (by decide) (kr (Sk none) false M37 (Option.some.inj h).symm)
          · refine xif h (fun c h => ?_) (fun c3 h => ?_)
            · refine V_tabIn (tgt := 301) dL_law_33 c (by decide) (by decide) rfl (by decide) ?_
              refine V_aload_n dL_law_301 rfl (xm 1 rfl) ?_
              refine V_aload_nS dL_law_302 rfl (xm 0 rfl) ?_
              refine V_iload_n dL_law_303 rfl (xm 3 rfl) ?_
              refine V_iconst dL_law_304 ?_
              refine V_iadd dL_law_305 ?_
              refine T_sld dL_law_306 rfl h (fun r38 h => ?_)
              refine V_aload_nS dL_law_307 rfl (xm 0 rfl) ?_
              refine V_iload_n dL_law_308 rfl (xm 3 rfl) ?_
              refine V_iconst dL_law_309 ?_
              refine V_iadd dL_law_310 ?_
              refine T_sld dL_law_311 rfl h (fun r39 h => ?_)
              refine xb2E h (fun r41 M42 h40 h => ?_)
              refine T_callVI dL_law_312 ok_X11_set (by exact ⟨by decide, rfl⟩) lk_L_28.1 lk_L_28.2 (sk_0 hS (by decide)) (hV := ((fX11_set_c (hS.le (by decide)) h40).mono (by decide) (Nat.le_refl _) (Nat.le_refl _))) rfl (Nat.le_of_ble_eq_true rfl) rfl (Nat.le_of_ble_eq_true rfl) ?_
              refine V_aload_n dL_law_315 rfl (xm 2 rfl) ?_
              refine V_aload_nS dL_law_316 rfl (xm 0 rfl) ?_
              refine V_iload_n dL_law_317 rfl (xm 3 rfl) ?_
              refine V_iconst dL_law_318 ?_
              refine V_iadd dL_law_319 ?_
              refine T_sld dL_law_320 rfl h (fun r43 h => ?_)
              refine V_aload_nS dL_law_321 rfl (xm 0 rfl) ?_
              refine V_iload_n dL_law_322 rfl (xm 3 rfl) ?_
              refine V_iconst dL_law_323 ?_
              refine V_iadd dL_law_324 ?_
              refine T_sld dL_law_325 rfl h (fun r44 h => ?_)
              refine xb2E h (fun r46 M47 h45 h => ?_)
              refine T_callVI dL_law_326 ok_X12_set (by exact ⟨by decide, rfl⟩) lk_L_32.1 lk_L_32.2 (sk_94 hS (by decide)) (hV := ((fX12_set_c (hS.le (by decide)) h45).mono (by decide) (Nat.le_refl _) (Nat.le_refl _))) rfl (Nat.le_of_ble_eq_true rfl) rfl (Nat.le_of_ble_eq_true rfl) ?_
              refine V_icmp_eq (tgt := 1222) dL_law_329 (by decide) h (fun _ h => ?_) (fun _ h => ?_)
              · refine V_iinc (ls' := [(3, vI (v3 + 6)), (0, vS 3), (1, vR (some 0)), (2, vR (some 94))]) dL_law_1222 (xm 3 rfl) (Nat.le_of_ble_eq_true rfl) rfl ?_
                refine V_goto (tgt := 18) dL_law_1225 (by decide) ?_
                refine V.pick [1, 2, 3, 0] rfl ?_
                exact ih M47 (v3 + 6) h k kr
              · refine V_iconst dL_law_332 ?_
                exact V_iretb (b := false) dL_law_333 rfl (by decide) (kr (Sk none) false M47 (Option.some.inj h).symm)
            · refine xif h (fun c h => ?_) (fun c4 h => ?_)
              · refine V_tabIn (tgt := 334) dL_law_33 c (by decide) (by decide) rfl (by decide) ?_
                refine V_aload_n dL_law_334 rfl (xm 1 rfl) ?_
                refine V_aload_nS dL_law_335 rfl (xm 0 rfl) ?_
                refine V_iload_n dL_law_336 rfl (xm 3 rfl) ?_
                refine V_iconst dL_law_337 ?_
                refine V_iadd dL_law_338 ?_
                refine T_sld dL_law_339 rfl h (fun r48 h => ?_)
                refine V_aload_nS dL_law_340 rfl (xm 0 rfl) ?_
                refine V_iload_n dL_law_341 rfl (xm 3 rfl) ?_
                refine V_iconst dL_law_342 ?_
                refine V_iadd dL_law_343 ?_
                refine T_sld dL_law_344 rfl h (fun r49 h => ?_)
                refine V_aload_nS dL_law_345 rfl (xm 0 rfl) ?_
                refine V_iload_n dL_law_346 rfl (xm 3 rfl) ?_
                refine V_iconst dL_law_347 ?_
                refine V_iadd dL_law_348 ?_
                refine T_sld dL_law_349 rfl h (fun r50 h => ?_)
                refine V_aload_nS dL_law_350 rfl (xm 0 rfl) ?_
                refine V_iload_n dL_law_351 rfl (xm 3 rfl) ?_
                refine V_iconst dL_law_352 ?_
                refine V_iadd dL_law_353 ?_
                refine T_sld dL_law_354 rfl h (fun r51 h => ?_)
                refine V_aload_nS dL_law_355 rfl (xm 0 rfl) ?_
                refine V_iload_n dL_law_356 rfl (xm 3 rfl) ?_
                refine V_iconst dL_law_357 ?_
                refine V_iadd dL_law_358 ?_
                refine T_sld dL_law_359 rfl h (fun r52 h => ?_)
                refine xb2E h (fun r54 M55 h53 h => ?_)
                refine T_callVI dL_law_360 ok_X11_feed (by exact ⟨by decide, rfl⟩) lk_L_33.1 lk_L_33.2 (sk_0 hS (by decide)) (hV := ((fX11_feed_c (hS.le (by decide)) h53).mono (by decide) (Nat.le_refl _) (Nat.le_refl _))) rfl (Nat.le_of_ble_eq_true rfl) rfl (Nat.le_of_ble_eq_true rfl) ?_
                refine V_aload_n dL_law_363 rfl (xm 2 rfl) ?_
                refine V_aload_nS dL_law_364 rfl (xm 0 rfl) ?_
                refine V_iload_n dL_law_365 rfl (xm 3 rfl) ?_
                refine V_iconst dL_law_366 ?_
                refine V_iadd dL_law_367 ?_
                refine T_sld dL_law_368 rfl h (fun r56 h => ?_)
                refine V_aload_nS dL_law_369 rfl (xm 0 rfl) ?_
                refine V_iload_n dL_law_370 rfl (xm 3 rfl) ?_
                refine V_iconst dL_law_371 ?_
                refine V_iadd dL_law_372 ?_
                refine T_sld dL_law_373 rfl h (fun r57 h => ?_)
                refine V_aload_nS dL_law_374 rfl (xm 0 rfl) ?_
                refine V_iload_n dL_law_375 rfl (xm 3 rfl) ?_
                refine V_iconst dL_law_376 ?_
                refine V_iadd dL_law_377 ?_
                refine T_sld dL_law_378 rfl h (fun r58 h => ?_)
                refine V_aload_nS dL_law_379 rfl (xm 0 rfl) ?_
                refine V_iload_n dL_law_380 rfl (xm 3 rfl) ?_
                refine V_iconst dL_law_381 ?_
                refine V_iadd dL_law_382 ?_
                refine T_sld dL_law_383 rfl h (fun r59 h => ?_)
                refine V_aload_nS dL_law_384 rfl (xm 0 rfl) ?_
                refine V_iload_n dL_law_385 rfl (xm 3 rfl) ?_
                refine V_iconst dL_law_386 ?_
                refine V_iadd dL_law_387 ?_
                refine T_sld dL_law_388 rfl h (fun r60 h => ?_)
                refine xb2E h (fun r62 M63 h61 h => ?_)
                refine T_callVI dL_law_389 ok_X12_feed (by exact ⟨by decide, rfl⟩) lk_L_37.1 lk_L_37.2 (sk_94 hS (by decide)) (hV := ((fX12_feed_c (hS.le (by decide)) h61).mono (by decide) (Nat.le_refl _) (Nat.le_refl _))) rfl (Nat.le_of_ble_eq_true rfl) rfl (Nat.le_of_ble_eq_true rfl) ?_
                refine V_icmp_eq (tgt := 1222) dL_law_392 (by decide) h (fun _ h => ?_) (fun _ h => ?_)
                · refine V_iinc (ls' := [(3, vI (v3 + 6)), (0, vS 3), (1, vR (some 0)), (2, vR (some 94))]) dL_law_1222 (xm 3 rfl) (Nat.le_of_ble_eq_true rfl) rfl ?_
                  refine V_goto (tgt := 18) dL_law_1225 (by decide) ?_
                  refine V.pick [1, 2, 3, 0] rfl ?_
                  exact ih M63 (v3 + 6) h k kr
                · refine V_iconst dL_law_395 ?_
                  exact V_iretb (b := false) dL_law_396 rfl (by decide) (kr (Sk none) false M63 (Option.some.inj h).symm)
              · refine xif h (fun c h => ?_) (fun c5 h => ?_)
                · refine V_tabIn (tgt := 397) dL_law_33 c (by decide) (by decide) rfl (by decide) ?_
                  refine V_aload_n dL_law_397 rfl (xm 1 rfl) ?_
                  refine V_aload_nS dL_law_398 rfl (xm 0 rfl) ?_
                  refine V_iload_n dL_law_399 rfl (xm 3 rfl) ?_
                  refine V_iconst dL_law_400 ?_
                  refine V_iadd dL_law_401 ?_
                  refine T_sld dL_law_402 rfl h (fun r64 h => ?_)
                  refine xb2E h (fun r66 M67 h65 h => ?_)
                  refine T_callVI dL_law_403 ok_X11_end (by exact ⟨by decide, rfl⟩) lk_L_38.1 lk_L_38.2 (sk_0 hS (by decide)) (hV := ((fX11_end_c (hS.le (by decide)) h65).mono (by decide) (Nat.le_refl _) (Nat.le_refl _))) rfl (Nat.le_of_ble_eq_true rfl) rfl (Nat.le_of_ble_eq_true rfl) ?_
                  refine V_aload_n dL_law_406 rfl (xm 2 rfl) ?_
                  refine V_aload_nS dL_law_407 rfl (xm 0 rfl) ?_
                  refine V_iload_n dL_law_408 rfl (xm 3 rfl) ?_
                  refine V_iconst dL_law_409 ?_
                  refine V_iadd dL_law_410 ?_
                  refine T_sld dL_law_411 rfl h (fun r68 h => ?_)
                  refine xb2E h (fun r70 M71 h69 h => ?_)
                  refine T_callVI dL_law_412 ok_X12_end (by exact ⟨by decide, rfl⟩) lk_L_41.1 lk_L_41.2 (sk_94 hS (by decide)) (hV := ((fX12_end_c (hS.le (by decide)) h69).mono (by decide) (Nat.le_refl _) (Nat.le_refl _))) rfl (Nat.le_of_ble_eq_true rfl) rfl (Nat.le_of_ble_eq_true rfl) ?_
                  refine V_icmp_eq (tgt := 1222) dL_law_415 (by decide) h (fun _ h => ?_) (fun _ h => ?_)
                  · refine V_iinc (ls' := [(3, vI (v3 + 6)), (0, vS 3), (1, vR (some 0)), (2, vR (some 94))]) dL_law_1222 (xm 3 rfl) (Nat.le_of_ble_eq_true rfl) rfl ?_
                    refine V_goto (tgt := 18) dL_law_1225 (by decide) ?_
                    refine V.pick [1, 2, 3, 0] rfl ?_
                    exact ih M71 (v3 + 6) h k kr
                  · refine V_iconst dL_law_418 ?_
                    exact V_iretb (b := false) dL_law_419 rfl (by decide) (kr (Sk none) false M71 (Option.some.inj h).symm)
                · refine xif h (fun c h => ?_) (fun c6 h => ?_)
                  · refine V_tabIn (tgt := 420) dL_law_33 c (by decide) (by decide) rfl (by decide) ?_
                    refine V_aload_n dL_law_420 rfl (xm 1 rfl) ?_
                    refine V_aload_nS dL_law_421 rfl (xm 0 rfl) ?_
                    refine V_iload_n dL_law_422 rfl (xm 3 rfl) ?_
                    refine V_iconst dL_law_423 ?_
                    refine V_iadd dL_law_424 ?_
                    refine T_sld dL_law_425 rfl h (fun r72 h => ?_)
                    refine xb2E h (fun r74 M75 h73 h => ?_)
                    refine T_callVI dL_law_426 ok_X11_text (by exact ⟨by decide, rfl⟩) lk_L_42.1 lk_L_42.2 (sk_0 hS (by decide)) (hV := ((fX11_text_c (hS.le (by decide)) h73).mono (by decide) (Nat.le_refl _) (Nat.le_refl _))) rfl (Nat.le_of_ble_eq_true rfl) rfl (Nat.le_of_ble_eq_true rfl) ?_
                    refine V_aload_n dL_law_429 rfl (xm 2 rfl) ?_
                    refine V_aload_nS dL_law_430 rfl (xm 0 rfl) ?_
                    refine V_iload_n dL_law_431 rfl (xm 3 rfl) ?_
                    refine V_iconst dL_law_432 ?_
                    refine V_iadd dL_law_433 ?_
                    refine T_sld dL_law_434 rfl h (fun r76 h => ?_)
                    refine xb2E h (fun r78 M79 h77 h => ?_)
                    refine T_callVI dL_law_435 ok_X12_text (by exact ⟨by decide, rfl⟩) lk_L_46.1 lk_L_46.2 (sk_94 hS (by decide)) (hV := ((fX12_text_c (hS.le (by decide)) h77).mono (by decide) (Nat.le_refl _) (Nat.le_refl _))) rfl (Nat.le_of_ble_eq_true rfl) rfl (Nat.le_of_ble_eq_true rfl) ?_
                    refine V_icmp_eq (tgt := 1222) dL_law_438 (by decide) h (fun _ h => ?_) (fun _ h => ?_)
                    · refine V_iinc (ls' := [(3, vI (v3 + 6)), (0, vS 3), (1, vR (some 0)), (2, vR (some 94))]) dL_law_1222 (xm 3 rfl) (Nat.le_of_ble_eq_true rfl) rfl ?_
                      refine V_goto (tgt := 18) dL_law_1225 (by decide) ?_
                      refine V.pick [1, 2, 3, 0] rfl ?_
                      exact ih M79 (v3 + 6) h k kr
                    · refine V_iconst dL_law_441 ?_
                      exact V_iretb (b := false) dL_law_442 rfl (by decide) (kr (Sk none) false M79 (Option.some.inj h).symm)
                  · refine xif h (fun c h => ?_) (fun c7 h => ?_)
                    · refine V_tabIn (tgt := 443) dL_law_33 c (by decide) (by decide) rfl (by decide) ?_
                      refine V_aload_n dL_law_443 rfl (xm 1 rfl) ?_
                      refine V_aload_nS dL_law_444 rfl (xm 0 rfl) ?_
                      refine V_iload_n dL_law_445 rfl (xm 3 rfl) ?_
                      refine V_iconst dL_law_446 ?_
                      refine V_iadd dL_law_447 ?_
                      refine T_sld dL_law_448 rfl h (fun r80 h => ?_)
                      refine T_callVI dL_law_449 ok_X11_fault (by exact ⟨by decide, rfl⟩) lk_L_47.1 lk_L_47.2 (sk_0 hS (by decide)) (hV := ((fX11_fault_c (hS.le (by decide)) rfl).mono (by decide) (Nat.le_refl _) (Nat.le_refl _))) rfl (Nat.le_of_ble_eq_true rfl) rfl (Nat.le_of_ble_eq_true rfl) ?_
                      refine V_aload_n dL_law_452 rfl (xm 2 rfl) ?_
                      refine V_aload_nS dL_law_453 rfl (xm 0 rfl) ?_
                      refine V_iload_n dL_law_454 rfl (xm 3 rfl) ?_
                      refine V_iconst dL_law_455 ?_
                      refine V_iadd dL_law_456 ?_
                      refine T_sld dL_law_457 rfl h (fun r81 h => ?_)
                      refine T_callVI dL_law_458 ok_X12_fault (by exact ⟨by decide, rfl⟩) lk_L_50.1 lk_L_50.2 (sk_94 hS (by decide)) (hV := ((fX12_fault_c (hS.le (by decide)) rfl).mono (by decide) (Nat.le_refl _) (Nat.le_refl _))) rfl (Nat.le_of_ble_eq_true rfl) rfl (Nat.le_of_ble_eq_true rfl) ?_
                      refine V_icmp_eq (tgt := 1222) dL_law_461 (by decide) h (fun _ h => ?_) (fun _ h => ?_)
                      · refine V_iinc (ls' := [(3, vI (v3 + 6)), (0, vS 3), (1, vR (some 0)), (2, vR (some 94))]) dL_law_1222 (xm 3 rfl) (Nat.le_of_ble_eq_true rfl) rfl ?_
                        refine V_goto (tgt := 18) dL_law_1225 (by decide) ?_
                        refine V.pick [1, 2, 3, 0] rfl ?_
                        exact ih M (v3 + 6) h k kr
                      · refine V_iconst dL_law_464 ?_
                        exact V_iretb (b := false) dL_law_465 rfl (by decide) (kr (Sk none) false M (Option.some.inj h).symm)
                    · refine xif h (fun c h => ?_) (fun c8 h => ?_)
                      · refine V_tabIn (tgt := 466) dL_law_33 c (by decide) (by decide) rfl (by decide) ?_
                        refine V_aload_n dL_law_466 rfl (xm 1 rfl) ?_
                        refine V_aload_nS dL_law_467 rfl (xm 0 rfl) ?_
                        refine V_iload_n dL_law_468 rfl (xm 3 rfl) ?_
                        refine V_iconst dL_law_469 ?_
                        refine V_iadd dL_law_470 ?_
                        refine T_sld dL_law_471 rfl h (fun r82 h => ?_)
                        refine V_aload_nS dL_law_472 rfl (xm 0 rfl) ?_
                        refine V_iload_n dL_law_473 rfl (xm 3 rfl) ?_
                        refine V_iconst dL_law_474 ?_
                        refine V_iadd dL_law_475 ?_
                        refine T_sld dL_law_476 rfl h (fun r83 h => ?_)
                        refine V_aload_nS dL_law_477 rfl (xm 0 rfl) ?_
                        refine V_iload_n dL_law_478 rfl (xm 3 rfl) ?_
                        refine V_iconst dL_law_479 ?_
                        refine V_iadd dL_law_480 ?_
                        refine T_sld dL_law_481 rfl h (fun r84 h => ?_)
                        refine V_aload_nS dL_law_482 rfl (xm 0 rfl) ?_
                        refine V_iload_n dL_law_483 rfl (xm 3 rfl) ?_
                        refine V_iconst dL_law_484 ?_
                        refine V_iadd dL_law_485 ?_
                        refine T_sld dL_law_486 rfl h (fun r85 h => ?_)
                        refine xb2E h (fun r87 M88 h86 h => ?_)
                        refine T_callVI dL_law_487 ok_X11_worth (by exact ⟨by decide, rfl⟩) lk_L_51.1 lk_L_51.2 (sk_0 hS (by decide)) (hV := ((fX11_worth_c (hS.le (by decide)) h86).mono (by decide) (Nat.le_refl _) (Nat.le_refl _))) rfl (Nat.le_of_ble_eq_true rfl) rfl (Nat.le_of_ble_eq_true rfl) ?_
                        refine V_aload_n dL_law_490 rfl (xm 2 rfl) ?_
                        refine V_aload_nS dL_law_491 rfl (xm 0 rfl) ?_
                        refine V_iload_n dL_law_492 rfl (xm 3 rfl) ?_
                        refine V_iconst dL_law_493 ?_
                        refine V_iadd dL_law_494 ?_
                        refine T_sld dL_law_495 rfl h (fun r89 h => ?_)
                        refine V_aload_nS dL_law_496 rfl (xm 0 rfl) ?_
                        refine V_iload_n dL_law_497 rfl (xm 3 rfl) ?_
                        refine V_iconst dL_law_498 ?_
                        refine V_iadd dL_law_499 ?_
                        refine T_sld dL_law_500 rfl h (fun r90 h => ?_)
                        refine V_aload_nS dL_law_501 rfl (xm 0 rfl) ?_
                        refine V_iload_n dL_law_502 rfl (xm 3 rfl) ?_
                        refine V_iconst dL_law_503 ?_
                        refine V_iadd dL_law_504 ?_
                        refine T_sld dL_law_505 rfl h (fun r91 h => ?_)
                        refine V_aload_nS dL_law_506 rfl (xm 0 rfl) ?_
                        refine V_iload_n dL_law_507 rfl (xm 3 rfl) ?_
                        refine V_iconst dL_law_508 ?_
                        refine V_iadd dL_law_509 ?_
                        refine T_sld dL_law_510 rfl h (fun r92 h => ?_)
                        refine xb2E h (fun r94 M95 h93 h => ?_)
                        refine T_callVI dL_law_511 ok_X12_worth (by exact ⟨by decide, rfl⟩) lk_L_54.1 lk_L_54.2 (sk_94 hS (by decide)) (hV := ((fX12_worth_c (hS.le (by decide)) h93).mono (by decide) (Nat.le_refl _) (Nat.le_refl _))) rfl (Nat.le_of_ble_eq_true rfl) rfl (Nat.le_of_ble_eq_true rfl) ?_
                        refine V_icmp_eq (tgt := 1222) dL_law_514 (by decide) h (fun _ h => ?_) (fun _ h => ?_)
                        · refine V_iinc (ls' := [(3, vI (v3 + 6)), (0, vS 3), (1, vR (some 0)), (2, vR (some 94))]) dL_law_1222 (xm 3 rfl) (Nat.le_of_ble_eq_true rfl) rfl ?_
                          refine V_goto (tgt := 18) dL_law_1225 (by decide) ?_
                          refine V.pick [1, 2, 3, 0] rfl ?_
                          exact ih M95 (v3 + 6) h k kr
                        · refine V_iconst dL_law_517 ?_
                          exact V_iretb (b := false) dL_law_518 rfl (by decide) (kr (Sk none) false M95 (Option.some.inj h).symm)
                      · refine xif h (fun c h => ?_) (fun c9 h => ?_)
                        · refine V_tabIn (tgt := 519) dL_law_33 c (by decide) (by decide) rfl (by decide) ?_
                          refine V_aload_n dL_law_519 rfl (xm 1 rfl) ?_
                          refine V_aload_nS dL_law_520 rfl (xm 0 rfl) ?_
                          refine V_iload_n dL_law_521 rfl (xm 3 rfl) ?_
                          refine V_iconst dL_law_522 ?_
                          refine V_iadd dL_law_523 ?_
                          refine T_sld dL_law_524 rfl h (fun r96 h => ?_)
                          refine V_aload_nS dL_law_525 rfl (xm 0 rfl) ?_
                          refine V_iload_n dL_law_526 rfl (xm 3 rfl) ?_
                          refine V_iconst dL_law_527 ?_
                          refine V_iadd dL_law_528 ?_
                          refine T_sld dL_law_529 rfl h (fun r97 h => ?_)
                          refine V_aload_nS dL_law_530 rfl (xm 0 rfl) ?_
                          refine V_iload_n dL_law_531 rfl (xm 3 rfl) ?_
                          refine V_iconst dL_law_532 ?_
                          refine V_iadd dL_law_533 ?_
                          refine T_sld dL_law_534 rfl h (fun r98 h => ?_)
                          refine V_aload_nS dL_law_535 rfl (xm 0 rfl) ?_
                          refine V_iload_n dL_law_536 rfl (xm 3 rfl) ?_
                          refine V_iconst dL_law_537 ?_
                          refine V_iadd dL_law_538 ?_
                          refine T_sld dL_law_539 rfl h (fun r99 h => ?_)
                          refine V_aload_nS dL_law_540 rfl (xm 0 rfl) ?_
                          refine V_iload_n dL_law_541 rfl (xm 3 rfl) ?_
                          refine V_iconst dL_law_542 ?_
                          refine V_iadd dL_law_543 ?_
                          refine T_sld dL_law_544 rfl h (fun r100 h => ?_)
                          refine xb2E h (fun r102 M103 h101 h => ?_)
                          refine T_callVI dL_law_545 ok_X11_sell (by exact ⟨by decide, rfl⟩) lk_L_55.1 lk_L_55.2 (sk_0 hS (by decide)) (hV := ((fX11_sell_c (hS.le (by decide)) h101).mono (by decide) (Nat.le_refl _) (Nat.le_refl _))) rfl (Nat.le_of_ble_eq_true rfl) rfl (Nat.le_of_ble_eq_true rfl) ?_
                          refine V_aload_n dL_law_548 rfl (xm 2 rfl) ?_
                          refine V_aload_nS dL_law_549 rfl (xm 0 rfl) ?_
                          refine V_iload_n dL_law_550 rfl (xm 3 rfl) ?_
                          refine V_iconst dL_law_551 ?_
                          refine V_iadd dL_law_552 ?_
                          refine T_sld dL_law_553 rfl h (fun r104 h => ?_)
                          refine V_aload_nS dL_law_554 rfl (xm 0 rfl) ?_
                          refine V_iload_n dL_law_555 rfl (xm 3 rfl) ?_
                          refine V_iconst dL_law_556 ?_
                          refine V_iadd dL_law_557 ?_
                          refine T_sld dL_law_558 rfl h (fun r105 h => ?_)
                          refine V_aload_nS dL_law_559 rfl (xm 0 rfl) ?_
                          refine V_iload_n dL_law_560 rfl (xm 3 rfl) ?_
                          refine V_iconst dL_law_561 ?_
                          refine V_iadd dL_law_562 ?_
                          refine T_sld dL_law_563 rfl h (fun r106 h => ?_)
                          refine V_aload_nS dL_law_564 rfl (xm 0 rfl) ?_
                          refine V_iload_n dL_law_565 rfl (xm 3 rfl) ?_
                          refine V_iconst dL_law_566 ?_
                          refine V_iadd dL_law_567 ?_
                          refine T_sld dL_law_568 rfl h (fun r107 h => ?_)
                          refine V_aload_nS dL_law_569 rfl (xm 0 rfl) ?_
                          refine V_iload_n dL_law_570 rfl (xm 3 rfl) ?_
                          refine V_iconst dL_law_571 ?_
                          refine V_iadd dL_law_572 ?_
                          refine T_sld dL_law_573 rfl h (fun r108 h => ?_)
                          refine xb2E h (fun r110 M111 h109 h => ?_)
                          refine T_callVI dL_law_574 ok_X12_sell (by exact ⟨by decide, rfl⟩) lk_L_59.1 lk_L_59.2 (sk_94 hS (by decide)) (hV := ((fX12_sell_c (hS.le (by decide)) h109).mono (by decide) (Nat.le_refl _) (Nat.le_refl _))) rfl (Nat.le_of_ble_eq_true rfl) rfl (Nat.le_of_ble_eq_true rfl) ?_
                          refine V_icmp_eq (tgt := 1222) dL_law_577 (by decide) h (fun _ h => ?_) (fun _ h => ?_)
                          · refine V_iinc (ls' := [(3, vI (v3 + 6)), (0, vS 3), (1, vR (some 0)), (2, vR (some 94))]) dL_law_1222 (xm 3 rfl) (Nat.le_of_ble_eq_true rfl) rfl ?_
                            refine V_goto (tgt := 18) dL_law_1225 (by decide) ?_
                            refine V.pick [1, 2, 3, 0] rfl ?_
                            exact ih M111 (v3 + 6) h k kr
                          · refine V_iconst dL_law_580 ?_
                            exact V_iretb (b := false) dL_law_581 rfl (by decide) (kr (Sk none) false M111 (Option.some.inj h).symm)
                        · refine xif h (fun c h => ?_) (fun c10 h => ?_)
                          · refine V_tabIn (tgt := 582) dL_law_33 c (by decide) (by decide) rfl (by decide) ?_
                            refine V_aload_n dL_law_582 rfl (xm 1 rfl) ?_
                            refine V_aload_nS dL_law_583 rfl (xm 0 rfl) ?_
                            refine V_iload_n dL_law_584 rfl (xm 3 rfl) ?_
                            refine V_iconst dL_law_585 ?_
                            refine V_iadd dL_law_586 ?_
                            refine T_sld dL_law_587 rfl h (fun r112 h => ?_)
                            refine V_aload_nS dL_law_588 rfl (xm 0 rfl) ?_
                            refine V_iload_n dL_law_589 rfl (xm 3 rfl) ?_
                            refine V_iconst dL_law_590 ?_
                            refine V_iadd dL_law_591 ?_
                            refine T_sld dL_law_592 rfl h (fun r113 h => ?_)
                            refine V_aload_nS dL_law_593 rfl (xm 0 rfl) ?_
                            refine V_iload_n dL_law_594 rfl (xm 3 rfl) ?_
                            refine V_iconst dL_law_595 ?_
                            refine V_iadd dL_law_596 ?_
                            refine T_sld dL_law_597 rfl h (fun r114 h => ?_)
                            refine V_aload_nS dL_law_598 rfl (xm 0 rfl) ?_
                            refine V_iload_n dL_law_599 rfl (xm 3 rfl) ?_
                            refine V_iconst dL_law_600 ?_
                            refine V_iadd dL_law_601 ?_
                            refine T_sld dL_law_602 rfl h (fun r115 h => ?_)
                            refine xb2E h (fun r117 M118 h116 h => ?_)
                            refine T_callVI dL_law_603 ok_X11_promise (by exact ⟨by decide, rfl⟩) lk_L_60.1 lk_L_60.2 (sk_0 hS (by decide)) (hV := ((fX11_promise_c (hS.le (by decide)) h116).mono (by decide) (Nat.le_refl _) (Nat.le_refl _))) rfl (Nat.le_of_ble_eq_true rfl) rfl (Nat.le_of_ble_eq_true rfl) ?_
                            refine V_aload_n dL_law_606 rfl (xm 2 rfl) ?_
                            refine V_aload_nS dL_law_607 rfl (xm 0 rfl) ?_
                            refine V_iload_n dL_law_608 rfl (xm 3 rfl) ?_
                            refine V_iconst dL_law_609 ?_
                            refine V_iadd dL_law_610 ?_
                            refine T_sld dL_law_611 rfl h (fun r119 h => ?_)
                            refine V_aload_nS dL_law_612 rfl (xm 0 rfl) ?_
                            refine V_iload_n dL_law_613 rfl (xm 3 rfl) ?_
                            refine V_iconst dL_law_614 ?_
                            refine V_iadd dL_law_615 ?_
                            refine T_sld dL_law_616 rfl h (fun r120 h => ?_)
                            refine V_aload_nS dL_law_617 rfl (xm 0 rfl) ?_
                            refine V_iload_n dL_law_618 rfl (xm 3 rfl) ?_
                            refine V_iconst dL_law_619 ?_
                            refine V_iadd dL_law_620 ?_
                            refine T_sld dL_law_621 rfl h (fun r121 h => ?_)
                            refine V_aload_nS dL_law_622 rfl (xm 0 rfl) ?_
                            refine V_iload_n dL_law_623 rfl (xm 3 rfl) ?_
                            refine V_iconst dL_law_624 ?_
                            refine V_iadd dL_law_625 ?_
                            refine T_sld dL_law_626 rfl h (fun r122 h => ?_)
                            refine xb2E h (fun r124 M125 h123 h => ?_)
                            refine T_callVI dL_law_627 ok_X12_promise (by exact ⟨by decide, rfl⟩) lk_L_63.1 lk_L_63.2 (sk_94 hS (by decide)) (hV := ((fX12_promise_c (hS.le (by decide)) h123).mono (by decide) (Nat.le_refl _) (Nat.le_refl _))) rfl (Nat.le_of_ble_eq_true rfl) rfl (Nat.le_of_ble_eq_true rfl) ?_
                            refine V_icmp_eq (tgt := 1222) dL_law_630 (by decide) h (fun _ h => ?_) (fun _ h => ?_)
                            · refine V_iinc (ls' := [(3, vI (v3 + 6)), (0, vS 3), (1, vR (some 0)), (2, vR (some 94))]) dL_law_1222 (xm 3 rfl) (Nat.le_of_ble_eq_true rfl) rfl ?_
                              refine V_goto (tgt := 18) dL_law_1225 (by decide) ?_
                              refine V.pick [1, 2, 3, 0] rfl ?_
                              exact ih M125 (v3 + 6) h k kr
                            · refine V_iconst dL_law_633 ?_
                              exact V_iretb (b := false) dL_law_634 rfl (by decide) (kr (Sk none) false M125 (Option.some.inj h).symm)
                          · refine xif h (fun c h => ?_) (fun c11 h => ?_)
                            · refine V_tabIn (tgt := 635) dL_law_33 c (by decide) (by decide) rfl (by decide) ?_
                              refine V_aload_n dL_law_635 rfl (xm 1 rfl) ?_
                              refine V_aload_nS dL_law_636 rfl (xm 0 rfl) ?_
                              refine V_iload_n dL_law_637 rfl (xm 3 rfl) ?_
                              refine V_iconst dL_law_638 ?_
                              refine V_iadd dL_law_639 ?_
                              refine T_sld dL_law_640 rfl h (fun r126 h => ?_)
                              refine xb2E h (fun r128 M129 h127 h => ?_)
                              refine T_callVI dL_law_641 ok_X11_drop (by exact ⟨by decide, rfl⟩) lk_L_64.1 lk_L_64.2 (sk_0 hS (by decide)) (hV := ((fX11_drop_c (hS.le (by decide)) h127).mono (by decide) (Nat.le_refl _) (Nat.le_refl _))) rfl (Nat.le_of_ble_eq_true rfl) rfl (Nat.le_of_ble_eq_true rfl) ?_
                              refine V_aload_n dL_law_644 rfl (xm 2 rfl) ?_
                              refine V_aload_nS dL_law_645 rfl (xm 0 rfl) ?_
                              refine V_iload_n dL_law_646 rfl (xm 3 rfl) ?_
                              refine V_iconst dL_law_647 ?_
                              refine V_iadd dL_law_648 ?_
                              refine T_sld dL_law_649 rfl h (fun r130 h => ?_)
                              refine xb2E h (fun r132 M133 h131 h => ?_)
                              refine T_callVI dL_law_650 ok_X12_drop (by exact ⟨by decide, rfl⟩) lk_L_67.1 lk_L_67.2 (sk_94 hS (by decide)) (hV := ((fX12_drop_c (hS.le (by decide)) h131).mono (by decide) (Nat.le_refl _) (Nat.le_refl _))) rfl (Nat.le_of_ble_eq_true rfl) rfl (Nat.le_of_ble_eq_true rfl) ?_
                              refine V_icmp_eq (tgt := 1222) dL_law_653 (by decide) h (fun _ h => ?_) (fun _ h => ?_)
                              · refine V_iinc (ls' := [(3, vI (v3 + 6)), (0, vS 3), (1, vR (some 0)), (2, vR (some 94))]) dL_law_1222 (xm 3 rfl) (Nat.le_of_ble_eq_true rfl) rfl ?_
                                refine V_goto (tgt := 18) dL_law_1225 (by decide) ?_
                                refine V.pick [1, 2, 3, 0] rfl ?_
                                exact ih M133 (v3 + 6) h k kr
                              · refine V_iconst dL_law_656 ?_
                                exact V_iretb (b := false) dL_law_657 rfl (by decide) (kr (Sk none) false M133 (Option.some.inj h).symm)
                            · refine xif h (fun c h => ?_) (fun c12 h => ?_)
                              · refine V_tabIn (tgt := 658) dL_law_33 c (by decide) (by decide) rfl (by decide) ?_
                                refine V_aload_n dL_law_658 rfl (xm 1 rfl) ?_
                                refine V_aload_nS dL_law_659 rfl (xm 0 rfl) ?_
                                refine V_iload_n dL_law_660 rfl (xm 3 rfl) ?_
                                refine V_iconst dL_law_661 ?_
                                refine V_iadd dL_law_662 ?_
                                refine T_sld dL_law_663 rfl h (fun r134 h => ?_)
                                refine xb2E h (fun r136 M137 h135 h => ?_)
                                refine T_callVI dL_law_664 ok_X11_votes (by exact ⟨by decide, rfl⟩) lk_L_68.1 lk_L_68.2 (sk_0 hS (by decide)) (hV := ((fX11_votes_c (hS.le (by decide)) h135).mono (by decide) (Nat.le_refl _) (Nat.le_refl _))) rfl (Nat.le_of_ble_eq_true rfl) rfl (Nat.le_of_ble_eq_true rfl) ?_
                                refine V_aload_n dL_law_667 rfl (xm 2 rfl) ?_
                                refine V_aload_nS dL_law_668 rfl (xm 0 rfl) ?_
                                refine V_iload_n dL_law_669 rfl (xm 3 rfl) ?_
                                refine V_iconst dL_law_670 ?_
                                refine V_iadd dL_law_671 ?_
                                refine T_sld dL_law_672 rfl h (fun r138 h => ?_)
                                refine xb2E h (fun r140 M141 h139 h => ?_)
                                refine T_callVI dL_law_673 ok_X12_votes (by exact ⟨by decide, rfl⟩) lk_L_71.1 lk_L_71.2 (sk_94 hS (by decide)) (hV := ((fX12_votes_c (hS.le (by decide)) h139).mono (by decide) (Nat.le_refl _) (Nat.le_refl _))) rfl (Nat.le_of_ble_eq_true rfl) rfl (Nat.le_of_ble_eq_true rfl) ?_
                                refine V_icmp_eq (tgt := 1222) dL_law_676 (by decide) h (fun _ h => ?_) (fun _ h => ?_)
                                · refine V_iinc (ls' := [(3, vI (v3 + 6)), (0, vS 3), (1, vR (some 0)), (2, vR (some 94))]) dL_law_1222 (xm 3 rfl) (Nat.le_of_ble_eq_true rfl) rfl ?_
                                  refine V_goto (tgt := 18) dL_law_1225 (by decide) ?_
                                  refine V.pick [1, 2, 3, 0] rfl ?_
                                  exact ih M141 (v3 + 6) h k kr
                                · refine V_iconst dL_law_679 ?_
                                  exact V_iretb (b := false) dL_law_680 rfl (by decide) (kr (Sk none) false M141 (Option.some.inj h).symm)
                              · refine xif h (fun c h => ?_) (fun c13 h => ?_)
                                · refine V_tabIn (tgt := 681) dL_law_33 c (by decide) (by decide) rfl (by decide) ?_
                                  refine V_aload_n dL_law_681 rfl (xm 1 rfl) ?_
                                  refine V_aload_nS dL_law_682 rfl (xm 0 rfl) ?_
                                  refine V_iload_n dL_law_683 rfl (xm 3 rfl) ?_
                                  refine V_iconst dL_law_684 ?_
                                  refine V_iadd dL_law_685 ?_
                                  refine T_sld dL_law_686 rfl h (fun r142 h => ?_)
                                  refine V_aload_nS dL_law_687 rfl (xm 0 rfl) ?_
                                  refine V_iload_n dL_law_688 rfl (xm 3 rfl) ?_
                                  refine V_iconst dL_law_689 ?_
                                  refine V_iadd dL_law_690 ?_
                                  refine T_sld dL_law_691 rfl h (fun r143 h => ?_)
                                  refine xbE h (fun r145 h144 h => ?_)
                                  refine T_callVI dL_law_692 ok_X11_holder (by exact ⟨by decide, rfl⟩) lk_L_72.1 lk_L_72.2 (sk_0 hS (by decide)) (hV := ((fX11_holder_c (hS.le (by decide)) h144).mono (by decide) (Nat.le_refl _) (Nat.le_refl _))) rfl (Nat.le_of_ble_eq_true rfl) rfl (Nat.le_of_ble_eq_true rfl) ?_
                                  refine V_aload_n dL_law_695 rfl (xm 2 rfl) ?_
                                  refine V_aload_nS dL_law_696 rfl (xm 0 rfl) ?_
                                  refine V_iload_n dL_law_697 rfl (xm 3 rfl) ?_
                                  refine V_iconst dL_law_698 ?_
                                  refine V_iadd dL_law_699 ?_
                                  refine T_sld dL_law_700 rfl h (fun r146 h => ?_)
                                  refine V_aload_nS dL_law_701 rfl (xm 0 rfl) ?_
                                  refine V_iload_n dL_law_702 rfl (xm 3 rfl) ?_
                                  refine V_iconst dL_law_703 ?_
                                  refine V_iadd dL_law_704 ?_
                                  refine T_sld dL_law_705 rfl h (fun r147 h => ?_)
                                  refine xbE h (fun r149 h148 h => ?_)
                                  refine T_callVI dL_law_706 ok_X12_holder (by exact ⟨by decide, rfl⟩) lk_L_76.1 lk_L_76.2 (sk_94 hS (by decide)) (hV := ((fX12_holder_c (hS.le (by decide)) h148).mono (by decide) (Nat.le_refl _) (Nat.le_refl _))) rfl (Nat.le_of_ble_eq_true rfl) rfl (Nat.le_of_ble_eq_true rfl) ?_
                                  refine V_icmp_eq (tgt := 1222) dL_law_709 (by decide) h (fun _ h => ?_) (fun _ h => ?_)
                                  · refine V_iinc (ls' := [(3, vI (v3 + 6)), (0, vS 3), (1, vR (some 0)), (2, vR (some 94))]) dL_law_1222 (xm 3 rfl) (Nat.le_of_ble_eq_true rfl) rfl ?_
                                    refine V_goto (tgt := 18) dL_law_1225 (by decide) ?_
                                    refine V.pick [1, 2, 3, 0] rfl ?_
                                    exact ih M (v3 + 6) h k kr
                                  · refine V_iconst dL_law_712 ?_
                                    exact V_iretb (b := false) dL_law_713 rfl (by decide) (kr (Sk none) false M (Option.some.inj h).symm)
                                · refine xif h (fun c h => ?_) (fun c14 h => ?_)
                                  · refine V_tabIn (tgt := 714) dL_law_33 c (by decide) (by decide) rfl (by decide) ?_
                                    refine V_aload_n dL_law_714 rfl (xm 1 rfl) ?_
                                    refine V_aload_nS dL_law_715 rfl (xm 0 rfl) ?_
                                    refine V_iload_n dL_law_716 rfl (xm 3 rfl) ?_
                                    refine V_iconst dL_law_717 ?_
                                    refine V_iadd dL_law_718 ?_
                                    refine T_sld dL_law_719 rfl h (fun r150 h => ?_)
                                    refine xb2E h (fun r152 M153 h151 h => ?_)
                                    refine T_callVI dL_law_720 ok_X11_noons (by exact ⟨by decide, rfl⟩) lk_L_77.1 lk_L_77.2 (sk_0 hS (by decide)) (hV := ((fX11_noons_c (hS.le (by decide)) h151).mono (by decide) (Nat.le_refl _) (Nat.le_refl _))) rfl (Nat.le_of_ble_eq_true rfl) rfl (Nat.le_of_ble_eq_true rfl) ?_
                                    refine V_aload_n dL_law_723 rfl (xm 2 rfl) ?_
                                    refine V_aload_nS dL_law_724 rfl (xm 0 rfl) ?_
                                    refine V_iload_n dL_law_725 rfl (xm 3 rfl) ?_
                                    refine V_iconst dL_law_726 ?_
                                    refine V_iadd dL_law_727 ?_
                                    refine T_sld dL_law_728 rfl h (fun r154 h => ?_)
                                    refine xb2E h (fun r156 M157 h155 h => ?_)
                                    refine T_callVI dL_law_729 ok_X12_noons (by exact ⟨by decide, rfl⟩) lk_L_80.1 lk_L_80.2 (sk_94 hS (by decide)) (hV := ((fX12_noons_c (hS.le (by decide)) h155).mono (by decide) (Nat.le_refl _) (Nat.le_refl _))) rfl (Nat.le_of_ble_eq_true rfl) rfl (Nat.le_of_ble_eq_true rfl) ?_
                                    refine V_icmp_eq (tgt := 1222) dL_law_732 (by decide) h (fun _ h => ?_) (fun _ h => ?_)
                                    · refine V_iinc (ls' := [(3, vI (v3 + 6)), (0, vS 3), (1, vR (some 0)), (2, vR (some 94))]) dL_law_1222 (xm 3 rfl) (Nat.le_of_ble_eq_true rfl) rfl ?_
                                      refine V_goto (tgt := 18) dL_law_1225 (by decide) ?_
                                      refine V.pick [1, 2, 3, 0] rfl ?_
                                      exact ih M157 (v3 + 6) h k kr
                                    · refine V_iconst dL_law_735 ?_
                                      exact V_iretb (b := false) dL_law_736 rfl (by decide) (kr (Sk none) false M157 (Option.some.inj h).symm)
                                  · refine xif h (fun c h => ?_) (fun c15 h => ?_)
                                    · refine V_tabIn (tgt := 737) dL_law_33 c (by decide) (by decide) rfl (by decide) ?_
                                      refine V_aload_n dL_law_737 rfl (xm 1 rfl) ?_
                                      refine V_aload_nS dL_law_738 rfl (xm 0 rfl) ?_
                                      refine V_iload_n dL_law_739 rfl (xm 3 rfl) ?_
                                      refine V_iconst dL_law_740 ?_
                                      refine V_iadd dL_law_741 ?_
                                      refine T_sld dL_law_742 rfl h (fun r158 h => ?_)
                                      refine V_aload_nS dL_law_743 rfl (xm 0 rfl) ?_
                                      refine V_iload_n dL_law_744 rfl (xm 3 rfl) ?_
                                      refine V_iconst dL_law_745 ?_
                                      refine V_iadd dL_law_746 ?_
                                      refine T_sld dL_law_747 rfl h (fun r159 h => ?_)
                                      refine xbE h (fun r161 h160 h => ?_)
                                      refine T_callVI dL_law_748 ok_X11_of (by exact ⟨by decide, rfl⟩) lk_L_81.1 lk_L_81.2 (sk_0 hS (by decide)) (hV := ((fX11_of_c (hS.le (by decide)) h160).mono (by decide) (Nat.le_refl _) (Nat.le_refl _))) rfl (Nat.le_of_ble_eq_true rfl) rfl (Nat.le_of_ble_eq_true rfl) ?_
                                      refine V_aload_n dL_law_751 rfl (xm 2 rfl) ?_
                                      refine V_aload_nS dL_law_752 rfl (xm 0 rfl) ?_
                                      refine V_iload_n dL_law_753 rfl (xm 3 rfl) ?_
                                      refine V_iconst dL_law_754 ?_
                                      refine V_iadd dL_law_755 ?_
                                      refine T_sld dL_law_756 rfl h (fun r162 h => ?_)
                                      refine V_aload_nS dL_law_757 rfl (xm 0 rfl) ?_
                                      refine V_iload_n dL_law_758 rfl (xm 3 rfl) ?_
                                      refine V_iconst dL_law_759 ?_
                                      refine V_iadd dL_law_760 ?_
                                      refine T_sld dL_law_761 rfl h (fun r163 h => ?_)
                                      refine xbE h (fun r165 h164 h => ?_)
                                      refine T_callVI dL_law_762 ok_X12_of (by exact ⟨by decide, rfl⟩) lk_L_84.1 lk_L_84.2 (sk_94 hS (by decide)) (hV := ((fX12_of_c (hS.le (by decide)) h164).mono (by decide) (Nat.le_refl _) (Nat.le_refl _))) rfl (Nat.le_of_ble_eq_true rfl) rfl (Nat.le_of_ble_eq_true rfl) ?_
                                      refine V_icmp_eq (tgt := 1222) dL_law_765 (by decide) h (fun _ h => ?_) (fun _ h => ?_)
                                      · refine V_iinc (ls' := [(3, vI (v3 + 6)), (0, vS 3), (1, vR (some 0)), (2, vR (some 94))]) dL_law_1222 (xm 3 rfl) (Nat.le_of_ble_eq_true rfl) rfl ?_
                                        refine V_goto (tgt := 18) dL_law_1225 (by decide) ?_
                                        refine V.pick [1, 2, 3, 0] rfl ?_
                                        exact ih M (v3 + 6) h k kr
                                      · refine V_iconst dL_law_768 ?_
                                        exact V_iretb (b := false) dL_law_769 rfl (by decide) (kr (Sk none) false M (Option.some.inj h).symm)
                                    · refine xif h (fun c h => ?_) (fun c16 h => ?_)
                                      · refine V_tabIn (tgt := 770) dL_law_33 c (by decide) (by decide) rfl (by decide) ?_
                                        refine V_aload_n dL_law_770 rfl (xm 1 rfl) ?_
                                        refine V_aload_nS dL_law_771 rfl (xm 0 rfl) ?_
                                        refine V_iload_n dL_law_772 rfl (xm 3 rfl) ?_
                                        refine V_iconst dL_law_773 ?_
                                        refine V_iadd dL_law_774 ?_
                                        refine T_sld dL_law_775 rfl h (fun r166 h => ?_)
                                        refine xbE h (fun r168 h167 h => ?_)
                                        refine T_callVI dL_law_776 ok_X11_turned (by exact ⟨by decide, rfl⟩) lk_L_85.1 lk_L_85.2 (sk_0 hS (by decide)) (hV := ((fX11_turned_c (hS.le (by decide)) h167).mono (by decide) (Nat.le_refl _) (Nat.le_refl _))) rfl (Nat.le_of_ble_eq_true rfl) rfl (Nat.le_of_ble_eq_true rfl) ?_
                                        refine V_aload_n dL_law_779 rfl (xm 2 rfl) ?_
                                        refine V_aload_nS dL_law_780 rfl (xm 0 rfl) ?_
                                        refine V_iload_n dL_law_781 rfl (xm 3 rfl) ?_
                                        refine V_iconst dL_law_782 ?_
                                        refine V_iadd dL_law_783 ?_
                                        refine T_sld dL_law_784 rfl h (fun r169 h => ?_)
                                        refine xbE h (fun r171 h170 h => ?_)
                                        refine T_callVI dL_law_785 ok_X12_turned (by exact ⟨by decide, rfl⟩) lk_L_88.1 lk_L_88.2 (sk_94 hS (by decide)) (hV := ((fX12_turned_c (hS.le (by decide)) h170).mono (by decide) (Nat.le_refl _) (Nat.le_refl _))) rfl (Nat.le_of_ble_eq_true rfl) rfl (Nat.le_of_ble_eq_true rfl) ?_
                                        refine V_icmp_eq (tgt := 1222) dL_law_788 (by decide) h (fun _ h => ?_) (fun _ h => ?_)
                                        · refine V_iinc (ls' := [(3, vI (v3 + 6)), (0, vS 3), (1, vR (some 0)), (2, vR (some 94))]) dL_law_1222 (xm 3 rfl) (Nat.le_of_ble_eq_true rfl) rfl ?_
                                          refine V_goto (tgt := 18) dL_law_1225 (by decide) ?_
                                          refine V.pick [1, 2, 3, 0] rfl ?_
                                          exact ih M (v3 + 6) h k kr
                                        · refine V_iconst dL_law_791 ?_
                                          exact V_iretb (b := false) dL_law_792 rfl (by decide) (kr (Sk none) false M (Option.some.inj h).symm)
                                      · refine xif h (fun c h => ?_) (fun c17 h => ?_)
                                        · refine V_tabIn (tgt := 793) dL_law_33 c (by decide) (by decide) rfl (by decide) ?_
                                          refine V_aload_n dL_law_793 rfl (xm 1 rfl) ?_
                                          refine V_aload_nS dL_law_794 rfl (xm 0 rfl) ?_
                                          refine V_iload_n dL_law_795 rfl (xm 3 rfl) ?_
                                          refine V_iconst dL_law_796 ?_
                                          refine V_iadd dL_law_797 ?_
                                          refine T_sld dL_law_798 rfl h (fun r172 h => ?_)
                                          refine V_aload_nS dL_law_799 rfl (xm 0 rfl) ?_
                                          refine V_iload_n dL_law_800 rfl (xm 3 rfl) ?_
                                          refine V_iconst dL_law_801 ?_
                                          refine V_iadd dL_law_802 ?_
                                          refine T_sld dL_law_803 rfl h (fun r173 h => ?_)
                                          refine xb2E h (fun r175 M176 h174 h => ?_)
                                          refine T_callVI dL_law_804 ok_X11_best (by exact ⟨by decide, rfl⟩) lk_L_89.1 lk_L_89.2 (sk_0 hS (by decide)) (hV := ((fX11_best_c (hS.le (by decide)) h174).mono (by decide) (Nat.le_refl _) (Nat.le_refl _))) rfl (Nat.le_of_ble_eq_true rfl) rfl (Nat.le_of_ble_eq_true rfl) ?_
                                          refine V_aload_n dL_law_807 rfl (xm 2 rfl) ?_
                                          refine V_aload_nS dL_law_808 rfl (xm 0 rfl) ?_
                                          refine V_iload_n dL_law_809 rfl (xm 3 rfl) ?_
                                          refine V_iconst dL_law_810 ?_
                                          refine V_iadd dL_law_811 ?_
                                          refine T_sld dL_law_812 rfl h (fun r177 h => ?_)
                                          refine V_aload_nS dL_law_813 rfl (xm 0 rfl) ?_
                                          refine V_iload_n dL_law_814 rfl (xm 3 rfl) ?_
                                          refine V_iconst dL_law_815 ?_
                                          refine V_iadd dL_law_816 ?_
                                          refine T_sld dL_law_817 rfl h (fun r178 h => ?_)
                                          refine xb2E h (fun r180 M181 h179 h => ?_)
                                          refine T_callVI dL_law_818 ok_X12_best (by exact ⟨by decide, rfl⟩) lk_L_92.1 lk_L_92.2 (sk_94 hS (by decide)) (hV := ((fX12_best_c (hS.le (by decide)) h179).mono (by decide) (Nat.le_refl _) (Nat.le_refl _))) rfl (Nat.le_of_ble_eq_true rfl) rfl (Nat.le_of_ble_eq_true rfl) ?_
                                          refine V_icmp_eq (tgt := 1222) dL_law_821 (by decide) h (fun _ h => ?_) (fun _ h => ?_)
                                          · refine V_iinc (ls' := [(3, vI (v3 + 6)), (0, vS 3), (1, vR (some 0)), (2, vR (some 94))]) dL_law_1222 (xm 3 rfl) (Nat.le_of_ble_eq_true rfl) rfl ?_
                                            refine V_goto (tgt := 18) dL_law_1225 (by decide) ?_
                                            refine V.pick [1, 2, 3, 0] rfl ?_
                                            exact ih M181 (v3 + 6) h k kr
                                          · refine V_iconst dL_law_824 ?_
                                            exact V_iretb (b := false) dL_law_825 rfl (by decide) (kr (Sk none) false M181 (Option.some.inj h).symm)
                                        · refine xif h (fun c h => ?_) (fun c18 h => ?_)
                                          · refine V_tabIn (tgt := 826) dL_law_33 c (by decide) (by decide) rfl (by decide) ?_
                                            refine V_aload_n dL_law_826 rfl (xm 1 rfl) ?_
                                            refine V_aload_nS dL_law_827 rfl (xm 0 rfl) ?_
                                            refine V_iload_n dL_law_828 rfl (xm 3 rfl) ?_
                                            refine V_iconst dL_law_829 ?_
                                            refine V_iadd dL_law_830 ?_
                                            refine T_sld dL_law_831 rfl h (fun r182 h => ?_)
                                            refine V_aload_nS dL_law_832 rfl (xm 0 rfl) ?_
                                            refine V_iload_n dL_law_833 rfl (xm 3 rfl) ?_
                                            refine V_iconst dL_law_834 ?_
                                            refine V_iadd dL_law_835 ?_
                                            refine T_sld dL_law_836 rfl h (fun r183 h => ?_)
                                            refine xb2E h (fun r185 M186 h184 h => ?_)
                                            refine T_callVI dL_law_837 ok_X11_fair (by exact ⟨by decide, rfl⟩) lk_L_93.1 lk_L_93.2 (sk_0 hS (by decide)) (hV := ((fX11_fair_c (hS.le (by decide)) h184).mono (by decide) (Nat.le_refl _) (Nat.le_refl _))) rfl (Nat.le_of_ble_eq_true rfl) rfl (Nat.le_of_ble_eq_true rfl) ?_
                                            refine V_aload_n dL_law_840 rfl (xm 2 rfl) ?_
                                            refine V_aload_nS dL_law_841 rfl (xm 0 rfl) ?_
                                            refine V_iload_n dL_law_842 rfl (xm 3 rfl) ?_
                                            refine V_iconst dL_law_843 ?_
                                            refine V_iadd dL_law_844 ?_
                                            refine T_sld dL_law_845 rfl h (fun r187 h => ?_)
                                            refine V_aload_nS dL_law_846 rfl (xm 0 rfl) ?_
                                            refine V_iload_n dL_law_847 rfl (xm 3 rfl) ?_
                                            refine V_iconst dL_law_848 ?_
                                            refine V_iadd dL_law_849 ?_
                                            refine T_sld dL_law_850 rfl h (fun r188 h => ?_)
                                            refine xb2E h (fun r190 M191 h189 h => ?_)
                                            refine T_callVI dL_law_851 ok_X12_fair (by exact ⟨by decide, rfl⟩) lk_L_96.1 lk_L_96.2 (sk_94 hS (by decide)) (hV := ((fX12_fair_c (hS.le (by decide)) h189).mono (by decide) (Nat.le_refl _) (Nat.le_refl _))) rfl (Nat.le_of_ble_eq_true rfl) rfl (Nat.le_of_ble_eq_true rfl) ?_
                                            refine V_icmp_eq (tgt := 1222) dL_law_854 (by decide) h (fun _ h => ?_) (fun _ h => ?_)
                                            · refine V_iinc (ls' := [(3, vI (v3 + 6)), (0, vS 3), (1, vR (some 0)), (2, vR (some 94))]) dL_law_1222 (xm 3 rfl) (Nat.le_of_ble_eq_true rfl) rfl ?_
                                              refine V_goto (tgt := 18) dL_law_1225 (by decide) ?_
                                              refine V.pick [1, 2, 3, 0] rfl ?_
                                              exact ih M191 (v3 + 6) h k kr
                                            · refine V_iconst dL_law_857 ?_
                                              exact V_iretb (b := false) dL_law_858 rfl (by decide) (kr (Sk none) false M191 (Option.some.inj h).symm)
                                          · refine xif h (fun c h => ?_) (fun c19 h => ?_)
                                            · refine V_tabIn (tgt := 859) dL_law_33 c (by decide) (by decide) rfl (by decide) ?_
                                              refine V_aload_n dL_law_859 rfl (xm 1 rfl) ?_
                                              refine V_aload_nS dL_law_860 rfl (xm 0 rfl) ?_
                                              refine V_iload_n dL_law_861 rfl (xm 3 rfl) ?_
                                              refine V_iconst dL_law_862 ?_
                                              refine V_iadd dL_law_863 ?_
                                              refine T_sld dL_law_864 rfl h (fun r192 h => ?_)
                                              refine V_aload_nS dL_law_865 rfl (xm 0 rfl) ?_
                                              refine V_iload_n dL_law_866 rfl (xm 3 rfl) ?_
                                              refine V_iconst dL_law_867 ?_
                                              refine V_iadd dL_law_868 ?_
                                              refine T_sld dL_law_869 rfl h (fun r193 h => ?_)
                                              refine xb2E h (fun r195 M196 h194 h => ?_)
                                              refine T_callVI dL_law_870 ok_X11_alone (by exact ⟨by decide, rfl⟩) lk_L_97.1 lk_L_97.2 (sk_0 hS (by decide)) (hV := ((fX11_alone_c (hS.le (by decide)) h194).mono (by decide) (Nat.le_refl _) (Nat.le_refl _))) rfl (Nat.le_of_ble_eq_true rfl) rfl (Nat.le_of_ble_eq_true rfl) ?_
                                              refine V_aload_n dL_law_873 rfl (xm 2 rfl) ?_
                                              refine V_aload_nS dL_law_874 rfl (xm 0 rfl) ?_
                                              refine V_iload_n dL_law_875 rfl (xm 3 rfl) ?_
                                              refine V_iconst dL_law_876 ?_
                                              refine V_iadd dL_law_877 ?_
                                              refine T_sld dL_law_878 rfl h (fun r197 h => ?_)
                                              refine V_aload_nS dL_law_879 rfl (xm 0 rfl) ?_
                                              refine V_iload_n dL_law_880 rfl (xm 3 rfl) ?_
                                              refine V_iconst dL_law_881 ?_
                                              refine V_iadd dL_law_882 ?_
                                              refine T_sld dL_law_883 rfl h (fun r198 h => ?_)
                                              refine xb2E h (fun r200 M201 h199 h => ?_)
                                              refine T_callVI dL_law_884 ok_X12_alone (by exact ⟨by decide, rfl⟩) lk_L_100.1 lk_L_100.2 (sk_94 hS (by decide)) (hV := ((fX12_alone_c (hS.le (by decide)) h199).mono (by decide) (Nat.le_refl _) (Nat.le_refl _))) rfl (Nat.le_of_ble_eq_true rfl) rfl (Nat.le_of_ble_eq_true rfl) ?_
                                              refine V_icmp_eq (tgt := 1222) dL_law_887 (by decide) h (fun _ h => ?_) (fun _ h => ?_)
                                              · refine V_iinc (ls' := [(3, vI (v3 + 6)), (0, vS 3), (1, vR (some 0)), (2, vR (some 94))]) dL_law_1222 (xm 3 rfl) (Nat.le_of_ble_eq_true rfl) rfl ?_
                                                refine V_goto (tgt := 18) dL_law_1225 (by decide) ?_
                                                refine V.pick [1, 2, 3, 0] rfl ?_
                                                exact ih M201 (v3 + 6) h k kr
                                              · refine V_iconst dL_law_890 ?_
                                                exact V_iretb (b := false) dL_law_891 rfl (by decide) (kr (Sk none) false M201 (Option.some.inj h).symm)
                                            · refine xif h (fun c h => ?_) (fun c20 h => ?_)
                                              · refine V_tabIn (tgt := 892) dL_law_33 c (by decide) (by decide) rfl (by decide) ?_
                                                refine V_aload_n dL_law_892 rfl (xm 1 rfl) ?_
                                                refine V_aload_nS dL_law_893 rfl (xm 0 rfl) ?_
                                                refine V_iload_n dL_law_894 rfl (xm 3 rfl) ?_
                                                refine V_iconst dL_law_895 ?_
                                                refine V_iadd dL_law_896 ?_
                                                refine T_sld dL_law_897 rfl h (fun r202 h => ?_)
                                                refine V_aload_nS dL_law_898 rfl (xm 0 rfl) ?_
                                                refine V_iload_n dL_law_899 rfl (xm 3 rfl) ?_
                                                refine V_iconst dL_law_900 ?_
                                                refine V_iadd dL_law_901 ?_
                                                refine T_sld dL_law_902 rfl h (fun r203 h => ?_)
                                                refine xb2E h (fun r205 M206 h204 h => ?_)
                                                refine T_callVI dL_law_903 ok_X11_pay (by exact ⟨by decide, rfl⟩) lk_L_101.1 lk_L_101.2 (sk_0 hS (by decide)) (hV := ((fX11_pay_c (hS.le (by decide)) h204).mono (by decide) (Nat.le_refl _) (Nat.le_refl _))) rfl (Nat.le_of_ble_eq_true rfl) rfl (Nat.le_of_ble_eq_true rfl) ?_
                                                refine V_aload_n dL_law_906 rfl (xm 2 rfl) ?_
                                                refine V_aload_nS dL_law_907 rfl (xm 0 rfl) ?_
                                                refine V_iload_n dL_law_908 rfl (xm 3 rfl) ?_
                                                refine V_iconst dL_law_909 ?_
                                                refine V_iadd dL_law_910 ?_
                                                refine T_sld dL_law_911 rfl h (fun r207 h => ?_)
                                                refine V_aload_nS dL_law_912 rfl (xm 0 rfl) ?_
                                                refine V_iload_n dL_law_913 rfl (xm 3 rfl) ?_
                                                refine V_iconst dL_law_914 ?_
                                                refine V_iadd dL_law_915 ?_
                                                refine T_sld dL_law_916 rfl h (fun r208 h => ?_)
                                                refine xb2E h (fun r210 M211 h209 h => ?_)
                                                refine T_callVI dL_law_917 ok_X12_pay (by exact ⟨by decide, rfl⟩) lk_L_104.1 lk_L_104.2 (sk_94 hS (by decide)) (hV := ((fX12_pay_c (hS.le (by decide)) h209).mono (by decide) (Nat.le_refl _) (Nat.le_refl _))) rfl (Nat.le_of_ble_eq_true rfl) rfl (Nat.le_of_ble_eq_true rfl) ?_
                                                refine V_icmp_eq (tgt := 1222) dL_law_920 (by decide) h (fun _ h => ?_) (fun _ h => ?_)
                                                · refine V_iinc (ls' := [(3, vI (v3 + 6)), (0, vS 3), (1, vR (some 0)), (2, vR (some 94))]) dL_law_1222 (xm 3 rfl) (Nat.le_of_ble_eq_true rfl) rfl ?_
                                                  refine V_goto (tgt := 18) dL_law_1225 (by decide) ?_
                                                  refine V.pick [1, 2, 3, 0] rfl ?_
                                                  exact ih M211 (v3 + 6) h k kr
                                                · refine V_iconst dL_law_923 ?_
                                                  exact V_iretb (b := false) dL_law_924 rfl (by decide) (kr (Sk none) false M211 (Option.some.inj h).symm)
                                              · refine xif h (fun c h => ?_) (fun c21 h => ?_)
                                                · refine V_tabIn (tgt := 925) dL_law_33 c (by decide) (by decide) rfl (by decide) ?_
                                                  refine V_aload_n dL_law_925 rfl (xm 1 rfl) ?_
                                                  refine V_aload_nS dL_law_926 rfl (xm 0 rfl) ?_
                                                  refine V_iload_n dL_law_927 rfl (xm 3 rfl) ?_
                                                  refine V_iconst dL_law_928 ?_
                                                  refine V_iadd dL_law_929 ?_
                                                  refine T_sld dL_law_930 rfl h (fun r212 h => ?_)
                                                  refine xb2E h (fun r214 M215 h213 h => ?_)
                                                  refine T_callVI dL_law_931 ok_X11_leave (by exact ⟨by decide, rfl⟩) lk_L_105.1 lk_L_105.2 (sk_0 hS (by decide)) (hV := ((fX11_leave_c (hS.le (by decide)) h213).mono (by decide) (Nat.le_refl _) (Nat.le_refl _))) rfl (Nat.le_of_ble_eq_true rfl) rfl (Nat.le_of_ble_eq_true rfl) ?_
                                                  refine V_aload_n dL_law_934 rfl (xm 2 rfl) ?_
                                                  refine V_aload_nS dL_law_935 rfl (xm 0 rfl) ?_
                                                  refine V_iload_n dL_law_936 rfl (xm 3 rfl) ?_
                                                  refine V_iconst dL_law_937 ?_
                                                  refine V_iadd dL_law_938 ?_
                                                  refine T_sld dL_law_939 rfl h (fun r216 h => ?_)
                                                  refine xb2E h (fun r218 M219 h217 h => ?_)
                                                  refine T_callVI dL_law_940 ok_X12_leave (by exact ⟨by decide, rfl⟩) lk_L_108.1 lk_L_108.2 (sk_94 hS (by decide)) (hV := ((fX12_leave_c (hS.le (by decide)) h217).mono (by decide) (Nat.le_refl _) (Nat.le_refl _))) rfl (Nat.le_of_ble_eq_true rfl) rfl (Nat.le_of_ble_eq_true rfl) ?_
                                                  refine V_icmp_eq (tgt := 1222) dL_law_943 (by decide) h (fun _ h => ?_) (fun _ h => ?_)
                                                  · refine V_iinc (ls' := [(3, vI (v3 + 6)), (0, vS 3), (1, vR (some 0)), (2, vR (some 94))]) dL_law_1222 (xm 3 rfl) (Nat.le_of_ble_eq_true rfl) rfl ?_
                                                    refine V_goto (tgt := 18) dL_law_1225 (by decide) ?_
                                                    refine V.pick [1, 2, 3, 0] rfl ?_
                                                    exact ih M219 (v3 + 6) h k kr
                                                  · refine V_iconst dL_law_946 ?_
                                                    exact V_iretb (b := false) dL_law_947 rfl (by decide) (kr (Sk none) false M219 (Option.some.inj h).symm)
                                                · refine xif h (fun c h => ?_) (fun c22 h => ?_)
                                                  · refine V_tabIn (tgt := 948) dL_law_33 c (by decide) (by decide) rfl (by decide) ?_
                                                    refine V_aload_n dL_law_948 rfl (xm 1 rfl) ?_
                                                    refine xbE h (fun r221 h220 h => ?_)
                                                    refine T_callVI dL_law_949 ok_X11_quarrel (by exact ⟨by decide, rfl⟩) lk_L_109.1 lk_L_109.2 (sk_0 hS (by decide)) (hV := ((fX11_quarrel_c (hS.le (by decide)) h220).mono (by decide) (Nat.le_refl _) (Nat.le_refl _))) rfl (Nat.le_of_ble_eq_true rfl) rfl (Nat.le_of_ble_eq_true rfl) ?_
                                                    refine V_aload_n dL_law_952 rfl (xm 2 rfl) ?_
                                                    refine xbE h (fun r223 h222 h => ?_)
                                                    refine T_callVI dL_law_953 ok_X12_quarrel (by exact ⟨by decide, rfl⟩) lk_L_113.1 lk_L_113.2 (sk_94 hS (by decide)) (hV := ((fX12_quarrel_c (hS.le (by decide)) h222).mono (by decide) (Nat.le_refl _) (Nat.le_refl _))) rfl (Nat.le_of_ble_eq_true rfl) rfl (Nat.le_of_ble_eq_true rfl) ?_
                                                    refine V_icmp_eq (tgt := 1222) dL_law_956 (by decide) h (fun _ h => ?_) (fun _ h => ?_)
                                                    · refine V_iinc (ls' := [(3, vI (v3 + 6)), (0, vS 3), (1, vR (some 0)), (2, vR (some 94))]) dL_law_1222 (xm 3 rfl) (Nat.le_of_ble_eq_true rfl) rfl ?_
                                                      refine V_goto (tgt := 18) dL_law_1225 (by decide) ?_
                                                      refine V.pick [1, 2, 3, 0] rfl ?_
                                                      exact ih M (v3 + 6) h k kr
                                                    · refine V_iconst dL_law_959 ?_
                                                      exact V_iretb (b := false) dL_law_960 rfl (by decide) (kr (Sk none) false M (Option.some.inj h).symm)
                                                  · refine xif h (fun c h => ?_) (fun c23 h => ?_)
                                                    · refine V_tabIn (tgt := 961) dL_law_33 c (by decide) (by decide) rfl (by decide) ?_
                                                      refine V_aload_n dL_law_961 rfl (xm 1 rfl) ?_
                                                      refine V_aload_nS dL_law_962 rfl (xm 0 rfl) ?_
                                                      refine V_iload_n dL_law_963 rfl (xm 3 rfl) ?_
                                                      refine V_iconst dL_law_964 ?_
                                                      refine V_iadd dL_law_965 ?_
                                                      refine T_sld dL_law_966 rfl h (fun r224 h => ?_)
                                                      refine xb2E h (fun r226 M227 h225 h => ?_)
                                                      refine T_callVI dL_law_967 ok_X11_fewest (by exact ⟨by decide, rfl⟩) lk_L_114.1 lk_L_114.2 (sk_0 hS (by decide)) (hV := ((fX11_fewest_c (hS.le (by decide)) h225).mono (by decide) (Nat.le_refl _) (Nat.le_refl _))) rfl (Nat.le_of_ble_eq_true rfl) rfl (Nat.le_of_ble_eq_true rfl) ?_
                                                      refine V_aload_n dL_law_970 rfl (xm 2 rfl) ?_
                                                      refine V_aload_nS dL_law_971 rfl (xm 0 rfl) ?_
                                                      refine V_iload_n dL_law_972 rfl (xm 3 rfl) ?_
                                                      refine V_iconst dL_law_973 ?_
                                                      refine V_iadd dL_law_974 ?_
                                                      refine T_sld dL_law_975 rfl h (fun r228 h => ?_)
                                                      refine xbE h (fun r230 h229 h => ?_)
                                                      refine T_callVI dL_law_976 ok_X12_fewest (by exact ⟨by decide, rfl⟩) lk_L_117.1 lk_L_117.2 (sk_94 hS (by decide)) (hV := ((fX12_fewest_c (hS.le (by decide)) h229).mono (by decide) (Nat.le_refl _) (Nat.le_refl _))) rfl (Nat.le_of_ble_eq_true rfl) rfl (Nat.le_of_ble_eq_true rfl) ?_
                                                      refine V_icmp_eq (tgt := 1222) dL_law_979 (by decide) h (fun _ h => ?_) (fun _ h => ?_)
                                                      · refine V_iinc (ls' := [(3, vI (v3 + 6)), (0, vS 3), (1, vR (some 0)), (2, vR (some 94))]) dL_law_1222 (xm 3 rfl) (Nat.le_of_ble_eq_true rfl) rfl ?_
                                                        refine V_goto (tgt := 18) dL_law_1225 (by decide) ?_
                                                        refine V.pick [1, 2, 3, 0] rfl ?_
                                                        exact ih M227 (v3 + 6) h k kr
                                                      · refine V_iconst dL_law_982 ?_
                                                        exact V_iretb (b := false) dL_law_983 rfl (by decide) (kr (Sk none) false M227 (Option.some.inj h).symm)
                                                    · refine xif h (fun c h => ?_) (fun c24 h => ?_)
                                                      · refine V_tabIn (tgt := 984) dL_law_33 c (by decide) (by decide) rfl (by decide) ?_
                                                        refine V_aload_n dL_law_984 rfl (xm 1 rfl) ?_
                                                        refine V_aload_nS dL_law_985 rfl (xm 0 rfl) ?_
                                                        refine V_iload_n dL_law_986 rfl (xm 3 rfl) ?_
                                                        refine V_iconst dL_law_987 ?_
                                                        refine V_iadd dL_law_988 ?_
                                                        refine T_sld dL_law_989 rfl h (fun r231 h => ?_)
                                                        refine V_aload_nS dL_law_990 rfl (xm 0 rfl) ?_
                                                        refine V_iload_n dL_law_991 rfl (xm 3 rfl) ?_
                                                        refine V_iconst dL_law_992 ?_
                                                        refine V_iadd dL_law_993 ?_
                                                        refine T_sld dL_law_994 rfl h (fun r232 h => ?_)
                                                        refine xb2E h (fun r234 M235 h233 h => ?_)
                                                        refine T_callVI dL_law_995 ok_X11_plan (by exact ⟨by decide, rfl⟩) lk_L_118.1 lk_L_118.2 (sk_0 hS (by decide)) (hV := ((fX11_plan_c (hS.le (by decide)) h233).mono (by decide) (Nat.le_refl _) (Nat.le_refl _))) rfl (Nat.le_of_ble_eq_true rfl) rfl (Nat.le_of_ble_eq_true rfl) ?_
                                                        refine V_aload_n dL_law_998 rfl (xm 2 rfl) ?_
                                                        refine V_aload_nS dL_law_999 rfl (xm 0 rfl) ?_
                                                        refine V_iload_n dL_law_1000 rfl (xm 3 rfl) ?_
                                                        refine V_iconst dL_law_1001 ?_
                                                        refine V_iadd dL_law_1002 ?_
                                                        refine T_sld dL_law_1003 rfl h (fun r236 h => ?_)
                                                        refine V_aload_nS dL_law_1004 rfl (xm 0 rfl) ?_
                                                        refine V_iload_n dL_law_1005 rfl (xm 3 rfl) ?_
                                                        refine V_iconst dL_law_1006 ?_
                                                        refine V_iadd dL_law_1007 ?_
                                                        refine T_sld dL_law_1008 rfl h (fun r237 h => ?_)
                                                        refine xb2E h (fun r239 M240 h238 h => ?_)
                                                        refine T_callVI dL_law_1009 ok_X12_plan (by exact ⟨by decide, rfl⟩) lk_L_121.1 lk_L_121.2 (sk_94 hS (by decide)) (hV := ((fX12_plan_c (hS.le (by decide)) h238).mono (by decide) (Nat.le_refl _) (Nat.le_refl _))) rfl (Nat.le_of_ble_eq_true rfl) rfl (Nat.le_of_ble_eq_true rfl) ?_
                                                        refine V_icmp_eq (tgt := 1222) dL_law_1012 (by decide) h (fun _ h => ?_) (fun _ h => ?_)
                                                        · refine V_iinc (ls' := [(3, vI (v3 + 6)), (0, vS 3), (1, vR (some 0)), (2, vR (some 94))]) dL_law_1222 (xm 3 rfl) (Nat.le_of_ble_eq_true rfl) rfl ?_
                                                          refine V_goto (tgt := 18) dL_law_1225 (by decide) ?_
                                                          refine V.pick [1, 2, 3, 0] rfl ?_
                                                          exact ih M240 (v3 + 6) h k kr
                                                        · refine V_iconst dL_law_1015 ?_
                                                          exact V_iretb (b := false) dL_law_1016 rfl (by decide) (kr (Sk none) false M240 (Option.some.inj h).symm)
                                                      · refine xif h (fun c h => ?_) (fun c25 h => ?_)
                                                        · refine V_tabIn (tgt := 1017) dL_law_33 c (by decide) (by decide) rfl (by decide) ?_
                                                          refine V_aload_n dL_law_1017 rfl (xm 1 rfl) ?_
                                                          refine V_aload_nS dL_law_1018 rfl (xm 0 rfl) ?_
                                                          refine V_iload_n dL_law_1019 rfl (xm 3 rfl) ?_
                                                          refine V_iconst dL_law_1020 ?_
                                                          refine V_iadd dL_law_1021 ?_
                                                          refine T_sld dL_law_1022 rfl h (fun r241 h => ?_)
                                                          refine V_aload_nS dL_law_1023 rfl (xm 0 rfl) ?_
                                                          refine V_iload_n dL_law_1024 rfl (xm 3 rfl) ?_
                                                          refine V_iconst dL_law_1025 ?_
                                                          refine V_iadd dL_law_1026 ?_
                                                          refine T_sld dL_law_1027 rfl h (fun r242 h => ?_)
                                                          refine V_aload_nS dL_law_1028 rfl (xm 0 rfl) ?_
                                                          refine V_iload_n dL_law_1029 rfl (xm 3 rfl) ?_
                                                          refine V_iconst dL_law_1030 ?_
                                                          refine V_iadd dL_law_1031 ?_
                                                          refine T_sld dL_law_1032 rfl h (fun r243 h => ?_)
                                                          refine xbE h (fun r245 h244 h => ?_)
                                                          refine T_callVI dL_law_1033 ok_X11_boat (by exact ⟨by decide, rfl⟩) lk_L_122.1 lk_L_122.2 (sk_0 hS (by decide)) (hV := ((fX11_boat_c (hS.le (by decide)) h244).mono (by decide) (Nat.le_refl _) (Nat.le_refl _))) rfl (Nat.le_of_ble_eq_true rfl) rfl (Nat.le_of_ble_eq_true rfl) ?_
                                                          refine V_aload_n dL_law_1036 rfl (xm 2 rfl) ?_
                                                          refine V_aload_nS dL_law_1037 rfl (xm 0 rfl) ?_
                                                          refine V_iload_n dL_law_1038 rfl (xm 3 rfl) ?_
                                                          refine V_iconst dL_law_1039 ?_
                                                          refine V_iadd dL_law_1040 ?_
                                                          refine T_sld dL_law_1041 rfl h (fun r246 h => ?_)
                                                          refine V_aload_nS dL_law_1042 rfl (xm 0 rfl) ?_
                                                          refine V_iload_n dL_law_1043 rfl (xm 3 rfl) ?_
                                                          refine V_iconst dL_law_1044 ?_
                                                          refine V_iadd dL_law_1045 ?_
                                                          refine T_sld dL_law_1046 rfl h (fun r247 h => ?_)
                                                          refine V_aload_nS dL_law_1047 rfl (xm 0 rfl) ?_
                                                          refine V_iload_n dL_law_1048 rfl (xm 3 rfl) ?_
                                                          refine V_iconst dL_law_1049 ?_
                                                          refine V_iadd dL_law_1050 ?_
                                                          refine T_sld dL_law_1051 rfl h (fun r248 h => ?_)
                                                          refine xbE h (fun r250 h249 h => ?_)
                                                          refine T_callVI dL_law_1052 ok_X12_boat (by exact ⟨by decide, rfl⟩) lk_L_126.1 lk_L_126.2 (sk_94 hS (by decide)) (hV := ((fX12_boat_c (hS.le (by decide)) h249).mono (by decide) (Nat.le_refl _) (Nat.le_refl _))) rfl (Nat.le_of_ble_eq_true rfl) rfl (Nat.le_of_ble_eq_true rfl) ?_
                                                          refine V_icmp_eq (tgt := 1222) dL_law_1055 (by decide) h (fun _ h => ?_) (fun _ h => ?_)
                                                          · refine V_iinc (ls' := [(3, vI (v3 + 6)), (0, vS 3), (1, vR (some 0)), (2, vR (some 94))]) dL_law_1222 (xm 3 rfl) (Nat.le_of_ble_eq_true rfl) rfl ?_
                                                            refine V_goto (tgt := 18) dL_law_1225 (by decide) ?_
                                                            refine V.pick [1, 2, 3, 0] rfl ?_
                                                            exact ih M (v3 + 6) h k kr
                                                          · refine V_iconst dL_law_1058 ?_
                                                            exact V_iretb (b := false) dL_law_1059 rfl (by decide) (kr (Sk none) false M (Option.some.inj h).symm)
                                                        · refine xif h (fun c h => ?_) (fun c26 h => ?_)
                                                          · refine V_tabIn (tgt := 1060) dL_law_33 c (by decide) (by decide) rfl (by decide) ?_
                                                            refine V_aload_n dL_law_1060 rfl (xm 1 rfl) ?_
                                                            refine V_aload_nS dL_law_1061 rfl (xm 0 rfl) ?_
                                                            refine V_iload_n dL_law_1062 rfl (xm 3 rfl) ?_
                                                            refine V_iconst dL_law_1063 ?_
                                                            refine V_iadd dL_law_1064 ?_
                                                            refine T_sld dL_law_1065 rfl h (fun r251 h => ?_)
                                                            refine V_aload_nS dL_law_1066 rfl (xm 0 rfl) ?_
                                                            refine V_iload_n dL_law_1067 rfl (xm 3 rfl) ?_
                                                            refine V_iconst dL_law_1068 ?_
                                                            refine V_iadd dL_law_1069 ?_
                                                            refine T_sld dL_law_1070 rfl h (fun r252 h => ?_)
                                                            refine V_aload_nS dL_law_1071 rfl (xm 0 rfl) ?_
                                                            refine V_iload_n dL_law_1072 rfl (xm 3 rfl) ?_
                                                            refine V_iconst dL_law_1073 ?_
                                                            refine V_iadd dL_law_1074 ?_
                                                            refine T_sld dL_law_1075 rfl h (fun r253 h => ?_)
                                                            refine xb2E h (fun r255 M256 h254 h => ?_)
                                                            refine T_callVI dL_law_1076 ok_X11_log (by exact ⟨by decide, rfl⟩) lk_L_127.1 lk_L_127.2 (sk_0 hS (by decide)) (hV := ((fX11_log_c (hS.le (by decide)) h254).mono (by decide) (Nat.le_refl _) (Nat.le_refl _))) rfl (Nat.le_of_ble_eq_true rfl) rfl (Nat.le_of_ble_eq_true rfl) ?_
                                                            refine V_aload_n dL_law_1079 rfl (xm 2 rfl) ?_
                                                            refine V_aload_nS dL_law_1080 rfl (xm 0 rfl) ?_
                                                            refine V_iload_n dL_law_1081 rfl (xm 3 rfl) ?_
                                                            refine V_iconst dL_law_1082 ?_
                                                            refine V_iadd dL_law_1083 ?_
                                                            refine T_sld dL_law_1084 rfl h (fun r257 h => ?_)
                                                            refine V_aload_nS dL_law_1085 rfl (xm 0 rfl) ?_
                                                            refine V_iload_n dL_law_1086 rfl (xm 3 rfl) ?_
                                                            refine V_iconst dL_law_1087 ?_
                                                            refine V_iadd dL_law_1088 ?_
                                                            refine T_sld dL_law_1089 rfl h (fun r258 h => ?_)
                                                            refine V_aload_nS dL_law_1090 rfl (xm 0 rfl) ?_
                                                            refine V_iload_n dL_law_1091 rfl (xm 3 rfl) ?_
                                                            refine V_iconst dL_law_1092 ?_
                                                            refine V_iadd dL_law_1093 ?_
                                                            refine T_sld dL_law_1094 rfl h (fun r259 h => ?_)
                                                            refine xb2E h (fun r261 M262 h260 h => ?_)
                                                            refine T_callVI dL_law_1095 ok_X12_log (by exact ⟨by decide, rfl⟩) lk_L_131.1 lk_L_131.2 (sk_94 hS (by decide)) (hV := ((fX12_log_c (hS.le (by decide)) h260).mono (by decide) (Nat.le_refl _) (Nat.le_refl _))) rfl (Nat.le_of_ble_eq_true rfl) rfl (Nat.le_of_ble_eq_true rfl) ?_
                                                            refine V_icmp_eq (tgt := 1222) dL_law_1098 (by decide) h (fun _ h => ?_) (fun _ h => ?_)
                                                            · refine V_iinc (ls' := [(3, vI (v3 + 6)), (0, vS 3), (1, vR (some 0)), (2, vR (some 94))]) dL_law_1222 (xm 3 rfl) (Nat.le_of_ble_eq_true rfl) rfl ?_
                                                              refine V_goto (tgt := 18) dL_law_1225 (by decide) ?_
                                                              refine V.pick [1, 2, 3, 0] rfl ?_
                                                              exact ih M262 (v3 + 6) h k kr
                                                            · refine V_iconst dL_law_1101 ?_
                                                              exact V_iretb (b := false) dL_law_1102 rfl (by decide) (kr (Sk none) false M262 (Option.some.inj h).symm)
                                                          · refine xif h (fun c h => ?_) (fun c27 h => ?_)
                                                            · refine V_tabIn (tgt := 1103) dL_law_33 c (by decide) (by decide) rfl (by decide) ?_
                                                              refine V_aload_n dL_law_1103 rfl (xm 1 rfl) ?_
                                                              refine V_aload_nS dL_law_1104 rfl (xm 0 rfl) ?_
                                                              refine V_iload_n dL_law_1105 rfl (xm 3 rfl) ?_
                                                              refine V_iconst dL_law_1106 ?_
                                                              refine V_iadd dL_law_1107 ?_
                                                              refine T_sld dL_law_1108 rfl h (fun r263 h => ?_)
                                                              refine V_aload_nS dL_law_1109 rfl (xm 0 rfl) ?_
                                                              refine V_iload_n dL_law_1110 rfl (xm 3 rfl) ?_
                                                              refine V_iconst dL_law_1111 ?_
                                                              refine V_iadd dL_law_1112 ?_
                                                              refine T_sld dL_law_1113 rfl h (fun r264 h => ?_)
                                                              refine V_aload_nS dL_law_1114 rfl (xm 0 rfl) ?_
                                                              refine V_iload_n dL_law_1115 rfl (xm 3 rfl) ?_
                                                              refine V_iconst dL_law_1116 ?_
                                                              refine V_iadd dL_law_1117 ?_
                                                              refine T_sld dL_law_1118 rfl h (fun r265 h => ?_)
                                                              refine xb2E h (fun r267 M268 h266 h => ?_)
                                                              refine T_callVL dL_law_1119 ok_X11_back (by exact ⟨by decide, rfl⟩) lk_L_132.1 lk_L_132.2 (sk_0 hS (by decide)) (hV := ((fX11_back_c (hS.le (by decide)) h266).mono (by decide) (Nat.le_refl _) (Nat.le_refl _))) rfl (Nat.le_of_ble_eq_true rfl) rfl (Nat.le_of_ble_eq_true rfl) ?_
                                                              refine V_aload_n dL_law_1122 rfl (xm 2 rfl) ?_
                                                              refine V_aload_nS dL_law_1123 rfl (xm 0 rfl) ?_
                                                              refine V_iload_n dL_law_1124 rfl (xm 3 rfl) ?_
                                                              refine V_iconst dL_law_1125 ?_
                                                              refine V_iadd dL_law_1126 ?_
                                                              refine T_sld dL_law_1127 rfl h (fun r269 h => ?_)
                                                              refine V_aload_nS dL_law_1128 rfl (xm 0 rfl) ?_
                                                              refine V_iload_n dL_law_1129 rfl (xm 3 rfl) ?_
                                                              refine V_iconst dL_law_1130 ?_
                                                              refine V_iadd dL_law_1131 ?_
                                                              refine T_sld dL_law_1132 rfl h (fun r270 h => ?_)
                                                              refine V_aload_nS dL_law_1133 rfl (xm 0 rfl) ?_
                                                              refine V_iload_n dL_law_1134 rfl (xm 3 rfl) ?_
                                                              refine V_iconst dL_law_1135 ?_
                                                              refine V_iadd dL_law_1136 ?_
                                                              refine T_sld dL_law_1137 rfl h (fun r271 h => ?_)
                                                              refine xb2E h (fun r273 M274 h272 h => ?_)
                                                              refine T_callVL dL_law_1138 ok_X12_back (by exact ⟨by decide, rfl⟩) lk_L_136.1 lk_L_136.2 (sk_94 hS (by decide)) (hV := ((fX12_back_c (hS.le (by decide)) h272).mono (by decide) (Nat.le_refl _) (Nat.le_refl _))) rfl (Nat.le_of_ble_eq_true rfl) rfl (Nat.le_of_ble_eq_true rfl) ?_
                                                              refine V_lcmp dL_law_1141 ?_
                                                              refine V_if_eq (tgt := 1222) dL_law_1142 (by decide) h (fun _ h => ?_) (fun _ h => ?_)
                                                              · refine V_iinc (ls' := [(3, vI (v3 + 6)), (0, vS 3), (1, vR (some 0)), (2, vR (some 94))]) dL_law_1222 (xm 3 rfl) (Nat.le_of_ble_eq_true rfl) rfl ?_
                                                                refine V_goto (tgt := 18) dL_law_1225 (by decide) ?_
                                                                refine V.pick [1, 2, 3, 0] rfl ?_
                                                                exact ih M274 (v3 + 6) h k kr
                                                              · refine V_iconst dL_law_1145 ?_
                                                                exact V_iretb (b := false) dL_law_1146 rfl (by decide) (kr (Sk none) false M274 (Option.some.inj h).symm)
                                                            · refine xif h (fun c h => ?_) (fun c28 h => ?_)
                                                              · refine V_tabIn (tgt := 1147) dL_law_33 c (by decide) (by decide) rfl (by decide) ?_
                                                                refine V_aload_n dL_law_1147 rfl (xm 1 rfl) ?_
                                                                refine xb2E h (fun r276 M277 h275 h => ?_)
                                                                refine T_callVI dL_law_1148 ok_X11_undo (by exact ⟨by decide, rfl⟩) lk_L_137.1 lk_L_137.2 (sk_0 hS (by decide)) (hV := ((fX11_undo_c (hS.le (by decide)) h275).mono (by decide) (Nat.le_refl _) (Nat.le_refl _))) rfl (Nat.le_of_ble_eq_true rfl) rfl (Nat.le_of_ble_eq_true rfl) ?_
                                                                refine V_aload_n dL_law_1151 rfl (xm 2 rfl) ?_
                                                                refine xb2E h (fun r279 M280 h278 h => ?_)
                                                                refine T_callVI dL_law_1152 ok_X12_undo (by exact ⟨by decide, rfl⟩) lk_L_141.1 lk_L_141.2 (sk_94 hS (by decide)) (hV := ((fX12_undo_c (hS.le (by decide)) h278).mono (by decide) (Nat.le_refl _) (Nat.le_refl _))) rfl (Nat.le_of_ble_eq_true rfl) rfl (Nat.le_of_ble_eq_true rfl) ?_
                                                                refine V_icmp_eq (tgt := 1222) dL_law_1155 (by decide) h (fun _ h => ?_) (fun _ h => ?_)
                                                                · refine V_iinc (ls' := [(3, vI (v3 + 6)), (0, vS 3), (1, vR (some 0)), (2, vR (some 94))]) dL_law_1222 (xm 3 rfl) (Nat.le_of_ble_eq_true rfl) rfl ?_
                                                                  refine V_goto (tgt := 18) dL_law_1225 (by decide) ?_
                                                                  refine V.pick [1, 2, 3, 0] rfl ?_
                                                                  exact ih M280 (v3 + 6) h k kr
                                                                · refine V_iconst dL_law_1158 ?_
                                                                  exact V_iretb (b := false) dL_law_1159 rfl (by decide) (kr (Sk none) false M280 (Option.some.inj h).symm)
                                                              · refine xif h (fun c h => ?_) (fun c29 h => ?_)
                                                                · refine V_tabIn (tgt := 1160) dL_law_33 c (by decide) (by decide) rfl (by decide) ?_
                                                                  refine V_aload_n dL_law_1160 rfl (xm 1 rfl) ?_
                                                                  refine V_aload_nS dL_law_1161 rfl (xm 0 rfl) ?_
                                                                  refine V_iload_n dL_law_1162 rfl (xm 3 rfl) ?_
                                                                  refine V_iconst dL_law_1163 ?_
                                                                  refine V_iadd dL_law_1164 ?_
                                                                  refine T_sld dL_law_1165 rfl h (fun r281 h => ?_)
                                                                  refine V_if_eq (tgt := 1173) dL_law_1166 (by decide) h (fun cz h => ?_) (fun cz h => ?_)
                                                                  · refine V_iconst dL_law_1173 ?_
                                                                    refine T_callVI dL_law_1174 ok_X11_image (by exact ⟨by decide, rfl⟩) lk_L_142.1 lk_L_142.2 (sk_0 hS (by decide)) (hV := ((imgA_f_c (M := M) (v1 := 0) wr_0).mono (by decide) (Nat.le_refl _) (Nat.le_refl _))) rfl (Nat.le_of_ble_eq_true rfl) rfl (Nat.le_of_ble_eq_true rfl) ?_
                                                                    refine V_aload_n dL_law_1177 rfl (xm 2 rfl) ?_
                                                                    refine V_aload_nS dL_law_1178 rfl (xm 0 rfl) ?_
                                                                    refine V_iload_n dL_law_1179 rfl (xm 3 rfl) ?_
                                                                    refine V_iconst dL_law_1180 ?_
                                                                    refine V_iadd dL_law_1181 ?_
                                                                    refine T_sld dL_law_1182 rfl h (fun r287 h => ?_)
                                                                    refine xjE h (fun j289 hj289 h => ?_)
                                                                    have kj289 : ∀ (s288 : Int), j289 s288 = some E → V (Y_L_law L xs) 54 35 3531 1191 [(0, vS 3), (1, vR (some 0)), (2, vR (some 94)), (3, vI v3)] [vI s288, vR (some 94), vI (b2i false)] (Sk none) M Q := by
                                                                      intro s288 h
                                                                      rw [hj289] at h
                                                                      refine xb2E h (fun r291 M292 h290 h => ?_)
                                                                      refine T_callVI dL_law_1191 ok_X12_image (by exact ⟨by decide, rfl⟩) lk_L_146.1 lk_L_146.2 (sk_94 hS (by decide)) (hV := ((fX12_image_c (hS.le (by decide)) h290).mono (by decide) (Nat.le_refl _) (Nat.le_refl _))) rfl (Nat.le_of_ble_eq_true rfl) rfl (Nat.le_of_ble_eq_true rfl) ?_
                                                                      refine V_icmp_eq (tgt := 1222) dL_law_1194 (by decide) h (fun _ h => ?_) (fun _ h => ?_)
                                                                      · refine V_iinc (ls' := [(3, vI (v3 + 6)), (0, vS 3), (1, vR (some 0)), (2, vR (some 94))]) dL_law_1222 (xm 3 rfl) (Nat.le_of_ble_eq_true rfl) rfl ?_
                                                                        refine V_goto (tgt := 18) dL_law_1225 (by decide) ?_
                                                                        refine V.pick [1, 2, 3, 0] rfl ?_
                                                                        exact ih M292 (v3 + 6) h k kr
                                                                      · refine V_iconst dL_law_1197 ?_
                                                                        exact V_iretb (b := false) dL_law_1198 rfl (by decide) (kr (Sk none) false M292 (Option.some.inj h).symm)
                                                                    refine V_if_eq (tgt := 1190) dL_law_1183 (by decide) h (fun _ h => ?_) (fun _ h => ?_)
                                                                    · refine V_iconst dL_law_1190 ?_
                                                                      refine V.pick [0, 1, 2, 3] rfl ?_
                                                                      exact kj289 0 h
                                                                    · refine V_iconst dL_law_1186 ?_
                                                                      refine V_goto (tgt := 1191) dL_law_1187 (by decide) ?_
                                                                      refine V.pick [0, 1, 2, 3] rfl ?_
                                                                      exact kj289 1 h
                                                                  · refine V_iconst dL_law_1169 ?_
                                                                    refine V_goto (tgt := 1174) dL_law_1170 (by decide) ?_
                                                                    refine xbE h (fun M286 h284 h => ?_)
                                                                    show V (Y_L_law L xs) 54 (0 + 35) (0 + 3531) _ _ _ _ _ _
                                                                    have hS2 : xSk (some 111) 146 (Sk (some 111)) := fun i _ _ => rfl
                                                                    refine T_callVA (r := some (b2i true)) dL_law_1174 ok_X11_image (by exact ⟨by decide, rfl⟩) lk_L_142.1 lk_L_142.2 (sk_0 hS (by decide)) (hV := ((imgA_t_c (v1 := 1) (by decide) h284).mono (by decide) (Nat.le_refl _) (Nat.le_refl _))) rfl (Nat.le_of_ble_eq_true rfl) rfl (Nat.le_of_ble_eq_true rfl) (q := 111) rfl rfl rfl ?_
                                                                    show V (Y_L_law L xs) 54 0 0 1177 _ [vI (b2i true)] _ _ _
                                                                    refine V_aload_n dL_law_1177 rfl (xm 2 rfl) ?_
                                                                    refine V_aload_nS dL_law_1178 rfl (xm 0 rfl) ?_
                                                                    refine V_iload_n dL_law_1179 rfl (xm 3 rfl) ?_
                                                                    refine V_iconst dL_law_1180 ?_
                                                                    refine V_iadd dL_law_1181 ?_
                                                                    refine T_sld dL_law_1182 rfl h (fun r287 h => ?_)
                                                                    refine xjE h (fun j289 hj289 h => ?_)
                                                                    have kj289 : ∀ (s288 : Int), j289 s288 = some E → V (Y_L_law L xs) 54 0 0 1191 [(0, vS 3), (1, vR (some 0)), (2, vR (some 94)), (3, vI v3)] [vI s288, vR (some 94), vI (b2i true)] (Sk (some 111)) M286 Q := by
                                                                      intro s288 h
                                                                      rw [hj289] at h
                                                                      refine xb2E h (fun r291 M292 h290 h => ?_)
                                                                      refine T_callVI dL_law_1191 ok_X12_image (by exact ⟨by decide, rfl⟩) lk_L_146.1 lk_L_146.2 (sk_94 hS2 (by decide)) (hV := ((fX12_image_c (hS2.le (by decide)) h290).mono (by decide) (Nat.le_refl _) (Nat.le_refl _))) rfl (Nat.le_of_ble_eq_true rfl) rfl (Nat.le_of_ble_eq_true rfl) ?_
                                                                      refine V_icmp_eq (tgt := 1222) dL_law_1194 (by decide) h (fun _ h => ?_) (fun _ h => ?_)
                                                                      · refine V_iinc (ls' := [(3, vI (v3 + 6)), (0, vS 3), (1, vR (some 0)), (2, vR (some 94))]) dL_law_1222 (xm 3 rfl) (Nat.le_of_ble_eq_true rfl) rfl ?_
                                                                        refine V_goto (tgt := 18) dL_law_1225 (by decide) ?_
                                                                        refine V.pick [1, 2, 3, 0] rfl ?_
                                                                        exact fL_B_c hS2 n M292 (v3 + 6) h (k (Sk (some 111))) (kr (Sk (some 111)))
                                                                      · refine V_iconst dL_law_1197 ?_
                                                                        exact V_iretb (b := false) dL_law_1198 rfl (by decide) (kr (Sk (some 111)) false M292 (Option.some.inj h).symm)
                                                                    refine V_if_eq (tgt := 1190) dL_law_1183 (by decide) h (fun _ h => ?_) (fun _ h => ?_)
                                                                    · refine V_iconst dL_law_1190 ?_
                                                                      refine V.pick [0, 1, 2, 3] rfl ?_
                                                                      exact kj289 0 h
                                                                    · refine V_iconst dL_law_1186 ?_
                                                                      refine V_goto (tgt := 1191) dL_law_1187 (by decide) ?_
                                                                      refine V.pick [0, 1, 2, 3] rfl ?_
                                                                      exact kj289 1 h
                                                                · refine xif h (fun c h => ?_) (fun c30 h => ?_)
                                                                  · refine V_tabIn (tgt := 1199) dL_law_33 c (by decide) (by decide) rfl (by decide) ?_
                                                                    refine V_aload_n dL_law_1199 rfl (xm 1 rfl) ?_
                                                                    refine V_aload_nS dL_law_1200 rfl (xm 0 rfl) ?_
                                                                    refine V_iload_n dL_law_1201 rfl (xm 3 rfl) ?_
                                                                    refine V_iconst dL_law_1202 ?_
                                                                    refine V_iadd dL_law_1203 ?_
                                                                    refine T_sld dL_law_1204 rfl h (fun r293 h => ?_)
                                                                    refine xbE h (fun r295 h294 h => ?_)
                                                                    refine T_callVI dL_law_1205 ok_X11_look (by exact ⟨by decide, rfl⟩) lk_L_147.1 lk_L_147.2 (sk_0 hS (by decide)) (hV := ((fX11_look_c (hS.le (by decide)) h294).mono (by decide) (Nat.le_refl _) (Nat.le_refl _))) rfl (Nat.le_of_ble_eq_true rfl) rfl (Nat.le_of_ble_eq_true rfl) ?_
                                                                    refine V_aload_n dL_law_1208 rfl (xm 2 rfl) ?_
                                                                    refine V_aload_nS dL_law_1209 rfl (xm 0 rfl) ?_
                                                                    refine V_iload_n dL_law_1210 rfl (xm 3 rfl) ?_
                                                                    refine V_iconst dL_law_1211 ?_
                                                                    refine V_iadd dL_law_1212 ?_
                                                                    refine T_sld dL_law_1213 rfl h (fun r296 h => ?_)
                                                                    refine xbE h (fun r298 h297 h => ?_)
                                                                    refine T_callVI dL_law_1214 ok_X12_look (by exact ⟨by decide, rfl⟩) lk_L_150.1 lk_L_150.2 (sk_94 hS (by decide)) (hV := ((fX12_look_c (hS.le (by decide)) h297).mono (by decide) (Nat.le_refl _) (Nat.le_refl _))) rfl (Nat.le_of_ble_eq_true rfl) rfl (Nat.le_of_ble_eq_true rfl) ?_
                                                                    refine V_icmp_eq (tgt := 1222) dL_law_1217 (by decide) h (fun _ h => ?_) (fun _ h => ?_)
                                                                    · refine V_iinc (ls' := [(3, vI (v3 + 6)), (0, vS 3), (1, vR (some 0)), (2, vR (some 94))]) dL_law_1222 (xm 3 rfl) (Nat.le_of_ble_eq_true rfl) rfl ?_
                                                                      refine V_goto (tgt := 18) dL_law_1225 (by decide) ?_
                                                                      refine V.pick [1, 2, 3, 0] rfl ?_
                                                                      exact ih M (v3 + 6) h k kr
                                                                    · refine V_iconst dL_law_1220 ?_
                                                                      exact V_iretb (b := false) dL_law_1221 rfl (by decide) (kr (Sk none) false M (Option.some.inj h).symm)
                                                                  · refine V_tabOut (tgt := 1222) dL_law_33 (by omega) (by decide) ?_
                                                                    refine V_iinc (ls' := [(3, vI (v3 + 6)), (0, vS 3), (1, vR (some 0)), (2, vR (some 94))]) dL_law_1222 (xm 3 rfl) (Nat.le_of_ble_eq_true rfl) rfl ?_
                                                                    refine V_goto (tgt := 18) dL_law_1225 (by decide) ?_
                                                                    refine V.pick [1, 2, 3, 0] rfl ?_
                                                                    exact ih M (v3 + 6) h k kr
