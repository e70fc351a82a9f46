def fX12_bad (M : xM) (v1 : Int) : Option (Bool × xM) := xlet (xup M 94 17 v1) fun M1 => xlet (xup M1 94 18 (M1 94 15)) fun M2 => some (false, M2)
set_option maxRecDepth 20000 in
set_option maxHeartbeats 1000000 in
theorem fX12_bad_c {S : xS} {kp : Option Nat} (hS : xSk kp 95 S) {M : xM} {v1 : Int} {E : Bool × xM} (h : fX12_bad M v1 = some E) :
    V Y_X12_bad 0 0 0 0 (xarg 0 [vR (some 94), vI v1]) [] S M (xqR S E.2 (some (vI (b2i E.1)))) := by
  unfold fX12_bad at h
  show V Y_X12_bad 0 0 0 0 [(0, vR (some 94)), (1, vI v1)] [] S M _
  refine V_aload_n dX12_bad_0 rfl (xm 0 rfl) ?_
  refine V_iload_n dX12_bad_1 rfl (xm 1 rfl) ?_
  refine T_putI (kI := 17) dX12_bad_2 fp_X12_152 (sk_94 hS (by decide)) rfl rfl h (fun M1 h => ?_)
  refine V_aload_n dX12_bad_5 rfl (xm 0 rfl) ?_
  refine V_aload_n dX12_bad_6 rfl (xm 0 rfl) ?_
  refine V_getI (kI := 15) dX12_bad_7 fl_X12_89 (sk_94 hS (by decide)) rfl rfl ?_
  refine T_putI (kI := 18) dX12_bad_10 fp_X12_155 (sk_94 hS (by decide)) rfl rfl h (fun M2 h => ?_)
  refine V_iconst dX12_bad_13 ?_
  exact V_iretb (b := false) dX12_bad_14 rfl (by decide) (q_wB h)
def fX12_need (M : xM) (v1 : Int) : Option (Bool × xM) := (if wr (M 94 14) = wr v1 then (xb (fX12_next0 M) fun M2 => some (true, M2)) else (xb2 (fX12_bad M 1) fun r4 M5 => some (r4, M5)))
set_option maxRecDepth 20000 in
set_option maxHeartbeats 1000000 in
theorem fX12_need_c {S : xS} {kp : Option Nat} (hS : xSk kp 101 S) {M : xM} {v1 : Int} {E : Bool × xM} (h : fX12_need M v1 = some E) :
    V Y_X12_need 8 0 0 0 (xarg 0 [vR (some 94), vI v1]) [] S M (xqR S E.2 (some (vI (b2i E.1)))) := by
  unfold fX12_need at h
  show V Y_X12_need 8 0 0 0 [(0, vR (some 94)), (1, vI v1)] [] S M _
  refine V_aload_n dX12_need_0 rfl (xm 0 rfl) ?_
  refine V_getI (kI := 14) dX12_need_1 fl_X12_137 (sk_94 hS (by decide)) rfl rfl ?_
  refine V_iload_n dX12_need_4 rfl (xm 1 rfl) ?_
  refine V_icmp_eq (tgt := 14) dX12_need_5 (by decide) h (fun _ h => ?_) (fun _ h => ?_)
  · refine V_aload_n dX12_need_14 rfl (xm 0 rfl) ?_
    refine xbE h (fun M2 h1 h => ?_)
    refine T_callVv dX12_need_15 ok_X12_next0 (by exact ⟨by decide, rfl⟩) lk_X12_161.1 lk_X12_161.2 (sk_94 hS (by decide)) (hV := ((fX12_next0_c (hS.le (by decide)) h1).mono (by decide) (Nat.le_refl _) (Nat.le_refl _))) rfl (Nat.le_of_ble_eq_true rfl) rfl (Nat.le_of_ble_eq_true rfl) ?_
    refine V_iconst dX12_need_18 ?_
    exact V_iretb (b := true) dX12_need_19 rfl (by decide) (q_wB h)
  · refine V_aload_n dX12_need_8 rfl (xm 0 rfl) ?_
    refine V_iconst dX12_need_9 ?_
    refine xb2E h (fun r4 M5 h3 h => ?_)
    refine T_callVI dX12_need_10 ok_X12_bad (by exact ⟨by decide, rfl⟩) lk_X12_158.1 lk_X12_158.2 (sk_94 hS (by decide)) (hV := ((fX12_bad_c (hS.le (by decide)) h3).mono (by decide) (Nat.le_refl _) (Nat.le_refl _))) rfl (Nat.le_of_ble_eq_true rfl) rfl (Nat.le_of_ble_eq_true rfl) ?_
    exact V_iretb (b := r4) dX12_need_13 rfl rfl (q_wB h)
def fX12_lay (M : xM) (v1 : Int) (v2 : Int) : Option xM := xwt M 99 820 (2 * (M 94 11)) v1 fun M1 => xwt M1 99 820 ((2 * (M1 94 11)) + 1) v2 fun M2 => xlet (xup M2 94 11 ((M2 94 11) + 1)) fun M3 => some M3
set_option maxRecDepth 20000 in
set_option maxHeartbeats 1000000 in
theorem fX12_lay_c {S : xS} {kp : Option Nat} (hS : xSk kp 100 S) {M : xM} {v1 : Int} {v2 : Int} {E : xM} (h : fX12_lay M v1 v2 = some E) :
    V Y_X12_lay 0 0 0 0 (xarg 0 [vR (some 94), vI v1, vI v2]) [] S M (xqR S E none) := by
  unfold fX12_lay at h
  show V Y_X12_lay 0 0 0 0 [(0, vR (some 94)), (1, vI v1), (2, vI v2)] [] S M _
  refine V_aload_n dX12_lay_0 rfl (xm 0 rfl) ?_
  refine V_getR dX12_lay_1 fl_X12_22 (sk_94 hS (by decide)) rfl ?_
  refine V_iconst dX12_lay_4 ?_
  refine V_aload_n dX12_lay_5 rfl (xm 0 rfl) ?_
  refine V_getI (kI := 11) dX12_lay_6 fl_X12_164 (sk_94 hS (by decide)) rfl rfl ?_
  refine V_imul dX12_lay_9 ?_
  refine V_iload_n dX12_lay_10 rfl (xm 1 rfl) ?_
  refine T_iast dX12_lay_11 (sk_99 hS (by decide)) rfl h (fun M1 h => ?_)
  refine V_aload_n dX12_lay_12 rfl (xm 0 rfl) ?_
  refine V_getR dX12_lay_13 fl_X12_22 (sk_94 hS (by decide)) rfl ?_
  refine V_iconst dX12_lay_16 ?_
  refine V_aload_n dX12_lay_17 rfl (xm 0 rfl) ?_
  refine V_getI (kI := 11) dX12_lay_18 fl_X12_164 (sk_94 hS (by decide)) rfl rfl ?_
  refine V_imul dX12_lay_21 ?_
  refine V_iconst dX12_lay_22 ?_
  refine V_iadd dX12_lay_23 ?_
  refine V_iload_n dX12_lay_24 rfl (xm 2 rfl) ?_
  refine T_iast dX12_lay_25 (sk_99 hS (by decide)) rfl h (fun M2 h => ?_)
  refine V_aload_n dX12_lay_26 rfl (xm 0 rfl) ?_
  refine V_dup dX12_lay_27 rfl ?_
  refine V_getI (kI := 11) dX12_lay_28 fl_X12_164 (sk_94 hS (by decide)) rfl rfl ?_
  refine V_iconst dX12_lay_31 ?_
  refine V_iadd dX12_lay_32 ?_
  refine T_putI (kI := 11) dX12_lay_33 fp_X12_164 (sk_94 hS (by decide)) rfl rfl h (fun M3 h => ?_)
  exact V_ret dX12_lay_36 rfl (q_v h)
def fX12_opens (M : xM)  : Option (Bool × xM) := (if wr (M 94 20) = wr 8 then (xb2 (fX12_bad M 3) fun r2 M3 => some (r2, M3)) else (xlet (xup M 94 20 ((M 94 20) + 1)) fun M4 => xb (fX12_next0 M4) fun M6 => some (true, M6)))
set_option maxRecDepth 20000 in
set_option maxHeartbeats 1000000 in
theorem fX12_opens_c {S : xS} {kp : Option Nat} (hS : xSk kp 101 S) {M : xM} {E : Bool × xM} (h : fX12_opens M = some E) :
    V Y_X12_opens 8 0 0 0 (xarg 0 [vR (some 94)]) [] S M (xqR S E.2 (some (vI (b2i E.1)))) := by
  unfold fX12_opens at h
  show V Y_X12_opens 8 0 0 0 [(0, vR (some 94))] [] S M _
  refine V_aload_n dX12_opens_0 rfl (xm 0 rfl) ?_
  refine V_getI (kI := 20) dX12_opens_1 fl_X12_167 (sk_94 hS (by decide)) rfl rfl ?_
  refine V_bipush dX12_opens_4 (by decide) ?_
  refine V_icmp_ne (tgt := 15) dX12_opens_6 (by decide) h (fun _ h => ?_) (fun _ h => ?_)
  · refine V_aload_n dX12_opens_9 rfl (xm 0 rfl) ?_
    refine V_iconst dX12_opens_10 ?_
    refine xb2E h (fun r2 M3 h1 h => ?_)
    refine T_callVI dX12_opens_11 ok_X12_bad (by exact ⟨by decide, rfl⟩) lk_X12_158.1 lk_X12_158.2 (sk_94 hS (by decide)) (hV := ((fX12_bad_c (hS.le (by decide)) h1).mono (by decide) (Nat.le_refl _) (Nat.le_refl _))) rfl (Nat.le_of_ble_eq_true rfl) rfl (Nat.le_of_ble_eq_true rfl) ?_
    exact V_iretb (b := r2) dX12_opens_14 rfl rfl (q_wB h)
  · refine V_aload_n dX12_opens_15 rfl (xm 0 rfl) ?_
    refine V_dup dX12_opens_16 rfl ?_
    refine V_getI (kI := 20) dX12_opens_17 fl_X12_167 (sk_94 hS (by decide)) rfl rfl ?_
    refine V_iconst dX12_opens_20 ?_
    refine V_iadd dX12_opens_21 ?_
    refine T_putI (kI := 20) dX12_opens_22 fp_X12_167 (sk_94 hS (by decide)) rfl rfl h (fun M4 h => ?_)
    refine V_aload_n dX12_opens_25 rfl (xm 0 rfl) ?_
    refine xbE h (fun M6 h5 h => ?_)
    refine T_callVv dX12_opens_26 ok_X12_next0 (by exact ⟨by decide, rfl⟩) lk_X12_161.1 lk_X12_161.2 (sk_94 hS (by decide)) (hV := ((fX12_next0_c (hS.le (by decide)) h5).mono (by decide) (Nat.le_refl _) (Nat.le_refl _))) rfl (Nat.le_of_ble_eq_true rfl) rfl (Nat.le_of_ble_eq_true rfl) ?_
    refine V_iconst dX12_opens_29 ?_
    exact V_iretb (b := true) dX12_opens_30 rfl (by decide) (q_wB h)
def fX12_unit (M : xM)  : Option (Bool × xM) := xj (fun (_ : Unit) => xj (fun (s2 : Int) => xb (fX12_lay M s2 (M 94 16)) fun M5 => xb (fX12_next0 M5) fun M7 => some (true, M7)) fun j3 => (if (fX12_isIn (M 94 14) 41 47) = true then j3 ((M 94 14) - 40) else j3 0)) fun j1 => (if wr (M 94 14) = wr 2 then j1 () else (if (fX12_isIn (M 94 14) 41 47) = true then j1 () else (xb2 (fX12_bad M 1) fun r9 M10 => some (r9, M10))))
set_option maxRecDepth 20000 in
set_option maxHeartbeats 1000000 in
theorem fX12_unit_c {S : xS} {kp : Option Nat} (hS : xSk kp 101 S) {M : xM} {E : Bool × xM} (h : fX12_unit M = some E) :
    V Y_X12_unit 8 0 0 0 (xarg 0 [vR (some 94)]) [] S M (xqR S E.2 (some (vI (b2i E.1)))) := by
  unfold fX12_unit at h
  show V Y_X12_unit 8 0 0 0 [(0, vR (some 94))] [] S M _
  refine V_aload_n dX12_unit_0 rfl (xm 0 rfl) ?_
  refine V_getI (kI := 14) dX12_unit_1 fl_X12_137 (sk_94 hS (by decide)) rfl rfl ?_
  refine V_bipush dX12_unit_4 (by decide) ?_
  refine V_bipush dX12_unit_6 (by decide) ?_
  refine T_callSI (host := "") dX12_unit_8 ok_X12_isIn lk_X12_70.1 lk_X12_70.2 (hV := ((fX12_isIn_c (hS.le (by decide)) rfl).mono (by decide) (Nat.le_refl _) (Nat.le_refl _))) rfl (Nat.le_of_ble_eq_true rfl) rfl (Nat.le_of_ble_eq_true rfl) ?_
  refine V_istore_n (ls' := [(1, vI (b2i (fX12_isIn (M 94 14) 41 47))), (0, vR (some 94))]) dX12_unit_11 rfl (by decide) rfl ?_
  refine V_aload_n dX12_unit_12 rfl (xm 1 rfl) ?_
  refine V_getI (kI := 14) dX12_unit_13 fl_X12_137 (sk_94 hS (by decide)) rfl rfl ?_
  refine V_iconst dX12_unit_16 ?_
  refine xjE h (fun j1 hj1 h => ?_)
  have kj1 : ∀ (u : Unit), j1 u = some E → V Y_X12_unit 8 0 0 30 [(0, vR (some 94)), (1, vI (b2i (fX12_isIn (M 94 14) 41 47)))] [] S M (xqR S E.2 (some (vI (b2i E.1)))) := by
    intro u h
    rw [hj1] at h
    refine V_aload_n dX12_unit_30 rfl (xm 0 rfl) ?_
    refine V_iload_n dX12_unit_31 rfl (xm 1 rfl) ?_
    refine xjE h (fun j3 hj3 h => ?_)
    have kj3 : ∀ (s2 : Int), j3 s2 = some E → V Y_X12_unit 8 0 0 46 [(0, vR (some 94))] [vI s2, vR (some 94)] S M (xqR S E.2 (some (vI (b2i E.1)))) := by
      intro s2 h
      rw [hj3] at h
      refine V_aload_n dX12_unit_46 rfl (xm 0 rfl) ?_
      refine V_getI (kI := 16) dX12_unit_47 fl_X12_149 (sk_94 hS (by decide)) rfl rfl ?_
      refine xbE h (fun M5 h4 h => ?_)
      refine T_callVv dX12_unit_50 ok_X12_lay (by exact ⟨by decide, rfl⟩) lk_X12_174.1 lk_X12_174.2 (sk_94 hS (by decide)) (hV := ((fX12_lay_c (hS.le (by decide)) h4).mono (by decide) (Nat.le_refl _) (Nat.le_refl _))) rfl (Nat.le_of_ble_eq_true rfl) rfl (Nat.le_of_ble_eq_true rfl) ?_
      refine V_aload_n dX12_unit_53 rfl (xm 0 rfl) ?_
      refine xbE h (fun M7 h6 h => ?_)
      refine T_callVv dX12_unit_54 ok_X12_next0 (by exact ⟨by decide, rfl⟩) lk_X12_161.1 lk_X12_161.2 (sk_94 hS (by decide)) (hV := ((fX12_next0_c (hS.le (by decide)) h6).mono (by decide) (Nat.le_refl _) (Nat.le_refl _))) rfl (Nat.le_of_ble_eq_true rfl) rfl (Nat.le_of_ble_eq_true rfl) ?_
      refine V_iconst dX12_unit_57 ?_
      exact V_iretb (b := true) dX12_unit_58 rfl (by decide) (q_wB h)
    refine V_if_eqB (tgt := 45) dX12_unit_32 (by decide) h (fun _ h => ?_) (fun _ h => ?_)
    · refine V_aload_n dX12_unit_35 rfl (xm 0 rfl) ?_
      refine V_getI (kI := 14) dX12_unit_36 fl_X12_137 (sk_94 hS (by decide)) rfl rfl ?_
      refine V_bipush dX12_unit_39 (by decide) ?_
      refine V_isub dX12_unit_41 ?_
      refine V_goto (tgt := 46) dX12_unit_42 (by decide) ?_
      refine V.pick [0] rfl ?_
      exact kj3 ((M 94 14) - 40) h
    · refine V_iconst dX12_unit_45 ?_
      refine V.pick [0] rfl ?_
      exact kj3 0 h
  refine V_icmp_eq (tgt := 30) dX12_unit_17 (by decide) h (fun _ h => ?_) (fun _ h => ?_)
  · refine V.pick [1, 0] rfl ?_
    exact kj1 () h
  · refine V_iload_n dX12_unit_20 rfl (xm 0 rfl) ?_
    refine V_if_neB (tgt := 30) dX12_unit_21 (by decide) h (fun _ h => ?_) (fun _ h => ?_)
    · refine V.pick [1, 0] rfl ?_
      exact kj1 () h
    · refine V_aload_n dX12_unit_24 rfl (xm 1 rfl) ?_
      refine V_iconst dX12_unit_25 ?_
      refine xb2E h (fun r9 M10 h8 h => ?_)
      refine T_callVI dX12_unit_26 ok_X12_bad (by exact ⟨by decide, rfl⟩) lk_X12_158.1 lk_X12_158.2 (sk_94 hS (by decide)) (hV := ((fX12_bad_c (hS.le (by decide)) h8).mono (by decide) (Nat.le_refl _) (Nat.le_refl _))) rfl (Nat.le_of_ble_eq_true rfl) rfl (Nat.le_of_ble_eq_true rfl) ?_
      exact V_iretb (b := r9) dX12_unit_29 rfl rfl (q_wB h)
def fX12_product_L9 (n : Nat) (M : xM) : Option ((xM) ⊕ (Bool × xM)) := match n with
  | 0 => none
  | n + 1 => xj (fun (_ : Unit) => xj (fun (s5 : Int) => xb (fX12_next0 M) fun M8 => (if wr s5 = 0 then (xb2 (fX12_unit M8) fun r10 M11 => (if r10 = true then (xb (fX12_lay M11 15 0) fun M13 => fX12_product_L9 n M13) else some (.inr (false, M11)))) else (if wr (M8 94 14) = wr 2 then (if wr (M8 94 16) = 0 then (xb2 (fX12_bad M8 2) fun r15 M16 => some (.inr (r15, M16))) else (xb (fX12_next0 M8) fun M18 => xb (fX12_lay M18 16 (M8 94 16)) fun M20 => fX12_product_L9 n M20)) else (xb2 (fX12_bad M8 1) fun r22 M23 => some (.inr (r22, M23)))))) fun j6 => (if wr (M 94 14) = wr 147 then j6 1 else j6 0)) fun j4 => (if wr (M 94 14) = wr 142 then j4 () else (if wr (M 94 14) = wr 147 then j4 () else some (.inl M)))
set_option maxRecDepth 20000 in
set_option maxHeartbeats 1000000 in
theorem fX12_product_L9_c {S : xS} {kp : Option Nat} (hS : xSk kp 101 S) {Q : Option xV → xS → xM → Prop} :
    ∀ (n : Nat) (M : xM) {E : (xM) ⊕ (Bool × xM)}, fX12_product_L9 n M = some E → (∀ (Mz : xM), E = .inl Mz → V Y_X12_product 9 0 0 115 [] [] S Mz Q) → (∀ (w : Bool) (Mz : xM), E = .inr (w, Mz) → Q (some (vI (b2i w))) S Mz) → V Y_X12_product 9 0 0 9 [(0, vR (some 94))] [] S M Q := by
  intro n
  induction n with
  | zero =>
    intro M E h k kr
    cases h
  | succ n ih =>
    intro M E h k kr
    rw [fX12_product_L9] at h
    refine V_aload_n dX12_product_9 rfl (xm 0 rfl) ?_
    refine V_getI (kI := 14) dX12_product_10 fl_X12_137 (sk_94 hS (by decide)) rfl rfl ?_
    refine V_sipush dX12_product_13 (by decide) ?_
    refine xjE h (fun j4 hj4 h => ?_)
    have kj4 : ∀ (u : Unit), j4 u = some E → V Y_X12_product 9 0 0 29 [(0, vR (some 94))] [] S M Q := by
      intro u h
      rw [hj4] at h
      refine V_aload_n dX12_product_29 rfl (xm 0 rfl) ?_
      refine V_getI (kI := 14) dX12_product_30 fl_X12_137 (sk_94 hS (by decide)) rfl rfl ?_
      refine V_sipush dX12_product_33 (by decide) ?_
      refine xjE h (fun j6 hj6 h => ?_)
      have kj6 : ∀ (s5 : Int), j6 s5 = some E → V Y_X12_product 9 0 0 44 [(0, vR (some 94))] [vI s5] S M Q := by
        intro s5 h
        rw [hj6] at h
        refine V_istore_n (ls' := [(1, vI s5), (0, vR (some 94))]) dX12_product_44 rfl (by decide) rfl ?_
        refine V_aload_n dX12_product_45 rfl (xm 1 rfl) ?_
        refine xbE h (fun M8 h7 h => ?_)
        refine T_callVv dX12_product_46 ok_X12_next0 (by exact ⟨by decide, rfl⟩) lk_X12_161.1 lk_X12_161.2 (sk_94 hS (by decide)) (hV := ((fX12_next0_c (hS.le (by decide)) h7).mono (by decide) (Nat.le_refl _) (Nat.le_refl _))) rfl (Nat.le_of_ble_eq_true rfl) rfl (Nat.le_of_ble_eq_true rfl) ?_
        refine V_iload_n dX12_product_49 rfl (xm 0 rfl) ?_
        refine V_if_eq (tgt := 96) dX12_product_50 (by decide) h (fun _ h => ?_) (fun _ h => ?_)
        · refine V_aload_n dX12_product_96 rfl (xm 1 rfl) ?_
          refine xb2E h (fun r10 M11 h9 h => ?_)
          refine T_callVI dX12_product_97 ok_X12_unit (by exact ⟨by decide, rfl⟩) lk_X12_178.1 lk_X12_178.2 (sk_94 hS (by decide)) (hV := ((fX12_unit_c (hS.le (by decide)) h9).mono (by decide) (Nat.le_refl _) (Nat.le_refl _))) rfl (Nat.le_of_ble_eq_true rfl) rfl (Nat.le_of_ble_eq_true rfl) ?_
          refine V_if_neB (tgt := 105) dX12_product_100 (by decide) h (fun _ h => ?_) (fun _ h => ?_)
          · refine V_aload_n dX12_product_105 rfl (xm 1 rfl) ?_
            refine V_bipush dX12_product_106 (by decide) ?_
            refine V_iconst dX12_product_108 ?_
            refine xbE h (fun M13 h12 h => ?_)
            refine T_callVv dX12_product_109 ok_X12_lay (by exact ⟨by decide, rfl⟩) lk_X12_174.1 lk_X12_174.2 (sk_94 hS (by decide)) (hV := ((fX12_lay_c (hS.le (by decide)) h12).mono (by decide) (Nat.le_refl _) (Nat.le_refl _))) rfl (Nat.le_of_ble_eq_true rfl) rfl (Nat.le_of_ble_eq_true rfl) ?_
            refine V_goto (tgt := 9) dX12_product_112 (by decide) ?_
            refine V.pick [1] rfl ?_
            exact ih M13 h k kr
          · refine V_iconst dX12_product_103 ?_
            exact V_iretb (b := false) dX12_product_104 rfl (by decide) (kr false M11 (Option.some.inj h).symm)
        · refine V_aload_n dX12_product_53 rfl (xm 1 rfl) ?_
          refine V_getI (kI := 16) dX12_product_54 fl_X12_149 (sk_94 hS (by decide)) rfl rfl ?_
          refine V_istore_n (ls' := [(2, vI (M8 94 16)), (1, vI s5), (0, vR (some 94))]) dX12_product_57 rfl (by decide) rfl ?_
          refine V_aload_n dX12_product_58 rfl (xm 2 rfl) ?_
          refine V_getI (kI := 14) dX12_product_59 fl_X12_137 (sk_94 hS (by decide)) rfl rfl ?_
          refine V_iconst dX12_product_62 ?_
          refine V_icmp_eq (tgt := 72) dX12_product_63 (by decide) h (fun _ h => ?_) (fun _ h => ?_)
          · refine V_iload_n dX12_product_72 rfl (xm 0 rfl) ?_
            refine V_if_ne (tgt := 82) dX12_product_73 (by decide) h (fun _ h => ?_) (fun _ h => ?_)
            · refine V_aload_n dX12_product_76 rfl (xm 2 rfl) ?_
              refine V_iconst dX12_product_77 ?_
              refine xb2E h (fun r15 M16 h14 h => ?_)
              refine T_callVI dX12_product_78 ok_X12_bad (by exact ⟨by decide, rfl⟩) lk_X12_158.1 lk_X12_158.2 (sk_94 hS (by decide)) (hV := ((fX12_bad_c (hS.le (by decide)) h14).mono (by decide) (Nat.le_refl _) (Nat.le_refl _))) rfl (Nat.le_of_ble_eq_true rfl) rfl (Nat.le_of_ble_eq_true rfl) ?_
              exact V_iretb (b := r15) dX12_product_81 rfl rfl (kr r15 M16 (Option.some.inj h).symm)
            · refine V_aload_n dX12_product_82 rfl (xm 2 rfl) ?_
              refine xbE h (fun M18 h17 h => ?_)
              refine T_callVv dX12_product_83 ok_X12_next0 (by exact ⟨by decide, rfl⟩) lk_X12_161.1 lk_X12_161.2 (sk_94 hS (by decide)) (hV := ((fX12_next0_c (hS.le (by decide)) h17).mono (by decide) (Nat.le_refl _) (Nat.le_refl _))) rfl (Nat.le_of_ble_eq_true rfl) rfl (Nat.le_of_ble_eq_true rfl) ?_
              refine V_aload_n dX12_product_86 rfl (xm 2 rfl) ?_
              refine V_bipush dX12_product_87 (by decide) ?_
              refine V_iload_n dX12_product_89 rfl (xm 0 rfl) ?_
              refine xbE h (fun M20 h19 h => ?_)
              refine T_callVv dX12_product_90 ok_X12_lay (by exact ⟨by decide, rfl⟩) lk_X12_174.1 lk_X12_174.2 (sk_94 hS (by decide)) (hV := ((fX12_lay_c (hS.le (by decide)) h19).mono (by decide) (Nat.le_refl _) (Nat.le_refl _))) rfl (Nat.le_of_ble_eq_true rfl) rfl (Nat.le_of_ble_eq_true rfl) ?_
              refine V_goto (tgt := 112) dX12_product_93 (by decide) ?_
              refine V_goto (tgt := 9) dX12_product_112 (by decide) ?_
              refine V.pick [2] rfl ?_
              exact ih M20 h k kr
          · refine V_aload_n dX12_product_66 rfl (xm 2 rfl) ?_
            refine V_iconst dX12_product_67 ?_
            refine xb2E h (fun r22 M23 h21 h => ?_)
            refine T_callVI dX12_product_68 ok_X12_bad (by exact ⟨by decide, rfl⟩) lk_X12_158.1 lk_X12_158.2 (sk_94 hS (by decide)) (hV := ((fX12_bad_c (hS.le (by decide)) h21).mono (by decide) (Nat.le_refl _) (Nat.le_refl _))) rfl (Nat.le_of_ble_eq_true rfl) rfl (Nat.le_of_ble_eq_true rfl) ?_
            exact V_iretb (b := r22) dX12_product_71 rfl rfl (kr r22 M23 (Option.some.inj h).symm)
      refine V_icmp_ne (tgt := 43) dX12_product_36 (by decide) h (fun _ h => ?_) (fun _ h => ?_)
      · refine V_iconst dX12_product_39 ?_
        refine V_goto (tgt := 44) dX12_product_40 (by decide) ?_
        refine V.pick [0] rfl ?_
        exact kj6 1 h
      · refine V_iconst dX12_product_43 ?_
        refine V.pick [0] rfl ?_
        exact kj6 0 h
    refine V_icmp_eq (tgt := 29) dX12_product_16 (by decide) h (fun _ h => ?_) (fun _ h => ?_)
    · refine V.pick [0] rfl ?_
      exact kj4 () h
    · refine V_aload_n dX12_product_19 rfl (xm 0 rfl) ?_
      refine V_getI (kI := 14) dX12_product_20 fl_X12_137 (sk_94 hS (by decide)) rfl rfl ?_
      refine V_sipush dX12_product_23 (by decide) ?_
      refine V_icmp_ne (tgt := 115) dX12_product_26 (by decide) h (fun _ h => ?_) (fun _ h => ?_)
      · refine V.pick [0] rfl ?_
        exact kj4 () h
      · refine V.pick [] rfl ?_
        exact k M (Option.some.inj h).symm
theorem fX12_product_L9_ci {S : xS} {kp : Option Nat} (hS : xSk kp 101 S) {Q : Option xV → xS → xM → Prop} {n : Nat} {M : xM} {Mz : xM} (hl : fX12_product_L9 n M = some (.inl Mz)) (k : V Y_X12_product 9 0 0 115 [] [] S Mz Q) : V Y_X12_product 9 0 0 9 [(0, vR (some 94))] [] S M Q := fX12_product_L9_c hS _ _ hl (fun _ e => by cases e; exact k) (fun _ _ e => by cases e)
theorem fX12_product_L9_cr {S : xS} {kp : Option Nat} (hS : xSk kp 101 S) {Q : Option xV → xS → xM → Prop} {n : Nat} {M : xM} {w : Bool} {Mz : xM} (hl : fX12_product_L9 n M = some (.inr (w, Mz))) (k : Q (some (vI (b2i w))) S Mz) : V Y_X12_product 9 0 0 9 [(0, vR (some 94))] [] S M Q := fX12_product_L9_c hS _ _ hl (fun _ e => by cases e) (fun _ _ e => by cases e; exact k)
def fX12_product (M : xM)  : Option (Bool × xM) := xb2 (fX12_unit M) fun r2 M3 => (if r2 = true then (xs1 (fX12_product_L9 xfuel M3) (fun M24 => some (true, M24)) (fun r => some r)) else some (false, M3))
set_option maxRecDepth 20000 in
set_option maxHeartbeats 1000000 in
theorem fX12_product_c {S : xS} {kp : Option Nat} (hS : xSk kp 101 S) {M : xM} {E : Bool × xM} (h : fX12_product M = some E) :
    V Y_X12_product 9 0 0 0 (xarg 0 [vR (some 94)]) [] S M (xqR S E.2 (some (vI (b2i E.1)))) := by
  unfold fX12_product at h
  show V Y_X12_product 9 0 0 0 [(0, vR (some 94))] [] S M _
  refine V_aload_n dX12_product_0 rfl (xm 0 rfl) ?_
  refine xb2E h (fun r2 M3 h1 h => ?_)
  refine T_callVI dX12_product_1 ok_X12_unit (by exact ⟨by decide, rfl⟩) lk_X12_178.1 lk_X12_178.2 (sk_94 hS (by decide)) (hV := ((fX12_unit_c (hS.le (by decide)) h1).mono (by decide) (Nat.le_refl _) (Nat.le_refl _))) rfl (Nat.le_of_ble_eq_true rfl) rfl (Nat.le_of_ble_eq_true rfl) ?_
  refine V_if_neB (tgt := 9) dX12_product_4 (by decide) h (fun _ h => ?_) (fun _ h => ?_)
  · refine xs1E h (fun M24 h25 h => ?_) (fun r h25 h => ?_)
    · refine V.pick [0] rfl ?_
      refine fX12_product_L9_ci (hS.le (by decide)) h25 ?_
      refine V_iconst dX12_product_115 ?_
      exact V_iretb (b := true) dX12_product_116 rfl (by decide) (q_wB h)
    · refine V.pick [0] rfl ?_
      obtain ⟨w, Mz⟩ := r
      refine fX12_product_L9_cr (hS.le (by decide)) h25 ?_
      exact q_wB h
  · refine V_iconst dX12_product_7 ?_
    exact V_iretb (b := false) dX12_product_8 rfl (by decide) (q_wB h)
def fX12_sumUp_L9 (n : Nat) (M : xM) : Option ((xM) ⊕ (Bool × xM)) := match n with
  | 0 => none
  | n + 1 => xj (fun (_ : Unit) => xj (fun (s5 : Int) => xb (fX12_next0 M) fun M8 => xb2 (fX12_product M8) fun r10 M11 => (if r10 = true then (xb (fX12_lay M11 s5 0) fun M13 => fX12_sumUp_L9 n M13) else some (.inr (false, M11)))) fun j6 => (if wr (M 94 14) = wr 143 then j6 13 else j6 14)) fun j4 => (if wr (M 94 14) = wr 143 then j4 () else (if wr (M 94 14) = wr 145 then j4 () else some (.inl M)))
set_option maxRecDepth 20000 in
set_option maxHeartbeats 1000000 in
theorem fX12_sumUp_L9_c {S : xS} {kp : Option Nat} (hS : xSk kp 101 S) {Q : Option xV → xS → xM → Prop} :
    ∀ (n : Nat) (M : xM) {E : (xM) ⊕ (Bool × xM)}, fX12_sumUp_L9 n M = some E → (∀ (Mz : xM), E = .inl Mz → V Y_X12_sumUp 10 0 0 69 [] [] S Mz Q) → (∀ (w : Bool) (Mz : xM), E = .inr (w, Mz) → Q (some (vI (b2i w))) S Mz) → V Y_X12_sumUp 10 0 0 9 [(0, vR (some 94))] [] S M Q := by
  intro n
  induction n with
  | zero =>
    intro M E h k kr
    cases h
  | succ n ih =>
    intro M E h k kr
    rw [fX12_sumUp_L9] at h
    refine V_aload_n dX12_sumUp_9 rfl (xm 0 rfl) ?_
    refine V_getI (kI := 14) dX12_sumUp_10 fl_X12_137 (sk_94 hS (by decide)) rfl rfl ?_
    refine V_sipush dX12_sumUp_13 (by decide) ?_
    refine xjE h (fun j4 hj4 h => ?_)
    have kj4 : ∀ (u : Unit), j4 u = some E → V Y_X12_sumUp 10 0 0 29 [(0, vR (some 94))] [] S M Q := by
      intro u h
      rw [hj4] at h
      refine V_aload_n dX12_sumUp_29 rfl (xm 0 rfl) ?_
      refine V_getI (kI := 14) dX12_sumUp_30 fl_X12_137 (sk_94 hS (by decide)) rfl rfl ?_
      refine V_sipush dX12_sumUp_33 (by decide) ?_
      refine xjE h (fun j6 hj6 h => ?_)
      have kj6 : ∀ (s5 : Int), j6 s5 = some E → V Y_X12_sumUp 10 0 0 46 [(0, vR (some 94))] [vI s5] S M Q := by
        intro s5 h
        rw [hj6] at h
        refine V_istore_n (ls' := [(1, vI s5), (0, vR (some 94))]) dX12_sumUp_46 rfl (by decide) rfl ?_
        refine V_aload_n dX12_sumUp_47 rfl (xm 1 rfl) ?_
        refine xbE h (fun M8 h7 h => ?_)
        refine T_callVv dX12_sumUp_48 ok_X12_next0 (by exact ⟨by decide, rfl⟩) lk_X12_161.1 lk_X12_161.2 (sk_94 hS (by decide)) (hV := ((fX12_next0_c (hS.le (by decide)) h7).mono (by decide) (Nat.le_refl _) (Nat.le_refl _))) rfl (Nat.le_of_ble_eq_true rfl) rfl (Nat.le_of_ble_eq_true rfl) ?_
        refine V_aload_n dX12_sumUp_51 rfl (xm 1 rfl) ?_
        refine xb2E h (fun r10 M11 h9 h => ?_)
        refine T_callVI dX12_sumUp_52 ok_X12_product (by exact ⟨by decide, rfl⟩) lk_X12_170.1 lk_X12_170.2 (sk_94 hS (by decide)) (hV := ((fX12_product_c (hS.le (by decide)) h9).mono (by decide) (Nat.le_refl _) (Nat.le_refl _))) rfl (Nat.le_of_ble_eq_true rfl) rfl (Nat.le_of_ble_eq_true rfl) ?_
        refine V_if_neB (tgt := 60) dX12_sumUp_55 (by decide) h (fun _ h => ?_) (fun _ h => ?_)
        · refine V_aload_n dX12_sumUp_60 rfl (xm 1 rfl) ?_
          refine V_iload_n dX12_sumUp_61 rfl (xm 0 rfl) ?_
          refine V_iconst dX12_sumUp_62 ?_
          refine xbE h (fun M13 h12 h => ?_)
          refine T_callVv dX12_sumUp_63 ok_X12_lay (by exact ⟨by decide, rfl⟩) lk_X12_174.1 lk_X12_174.2 (sk_94 hS (by decide)) (hV := ((fX12_lay_c (hS.le (by decide)) h12).mono (by decide) (Nat.le_refl _) (Nat.le_refl _))) rfl (Nat.le_of_ble_eq_true rfl) rfl (Nat.le_of_ble_eq_true rfl) ?_
          refine V_goto (tgt := 9) dX12_sumUp_66 (by decide) ?_
          refine V.pick [1] rfl ?_
          exact ih M13 h k kr
        · refine V_iconst dX12_sumUp_58 ?_
          exact V_iretb (b := false) dX12_sumUp_59 rfl (by decide) (kr false M11 (Option.some.inj h).symm)
      refine V_icmp_ne (tgt := 44) dX12_sumUp_36 (by decide) h (fun _ h => ?_) (fun _ h => ?_)
      · refine V_bipush dX12_sumUp_39 (by decide) ?_
        refine V_goto (tgt := 46) dX12_sumUp_41 (by decide) ?_
        refine V.pick [0] rfl ?_
        exact kj6 13 h
      · refine V_bipush dX12_sumUp_44 (by decide) ?_
        refine V.pick [0] rfl ?_
        exact kj6 14 h
    refine V_icmp_eq (tgt := 29) dX12_sumUp_16 (by decide) h (fun _ h => ?_) (fun _ h => ?_)
    · refine V.pick [0] rfl ?_
      exact kj4 () h
    · refine V_aload_n dX12_sumUp_19 rfl (xm 0 rfl) ?_
      refine V_getI (kI := 14) dX12_sumUp_20 fl_X12_137 (sk_94 hS (by decide)) rfl rfl ?_
      refine V_sipush dX12_sumUp_23 (by decide) ?_
      refine V_icmp_ne (tgt := 69) dX12_sumUp_26 (by decide) h (fun _ h => ?_) (fun _ h => ?_)
      · refine V.pick [0] rfl ?_
        exact kj4 () h
      · refine V.pick [] rfl ?_
        exact k M (Option.some.inj h).symm
theorem fX12_sumUp_L9_ci {S : xS} {kp : Option Nat} (hS : xSk kp 101 S) {Q : Option xV → xS → xM → Prop} {n : Nat} {M : xM} {Mz : xM} (hl : fX12_sumUp_L9 n M = some (.inl Mz)) (k : V Y_X12_sumUp 10 0 0 69 [] [] S Mz Q) : V Y_X12_sumUp 10 0 0 9 [(0, vR (some 94))] [] S M Q := fX12_sumUp_L9_c hS _ _ hl (fun _ e => by cases e; exact k) (fun _ _ e => by cases e)
theorem fX12_sumUp_L9_cr {S : xS} {kp : Option Nat} (hS : xSk kp 101 S) {Q : Option xV → xS → xM → Prop} {n : Nat} {M : xM} {w : Bool} {Mz : xM} (hl : fX12_sumUp_L9 n M = some (.inr (w, Mz))) (k : Q (some (vI (b2i w))) S Mz) : V Y_X12_sumUp 10 0 0 9 [(0, vR (some 94))] [] S M Q := fX12_sumUp_L9_c hS _ _ hl (fun _ e => by cases e) (fun _ _ e => by cases e; exact k)
def fX12_sumUp (M : xM)  : Option (Bool × xM) := xb2 (fX12_product M) fun r2 M3 => (if r2 = true then (xs1 (fX12_sumUp_L9 xfuel M3) (fun M14 => some (true, M14)) (fun r => some r)) else some (false, M3))
set_option maxRecDepth 20000 in
set_option maxHeartbeats 1000000 in
theorem fX12_sumUp_c {S : xS} {kp : Option Nat} (hS : xSk kp 101 S) {M : xM} {E : Bool × xM} (h : fX12_sumUp M = some E) :
    V Y_X12_sumUp 10 0 0 0 (xarg 0 [vR (some 94)]) [] S M (xqR S E.2 (some (vI (b2i E.1)))) := by
  unfold fX12_sumUp at h
  show V Y_X12_sumUp 10 0 0 0 [(0, vR (some 94))] [] S M _
  refine V_aload_n dX12_sumUp_0 rfl (xm 0 rfl) ?_
  refine xb2E h (fun r2 M3 h1 h => ?_)
  refine T_callVI dX12_sumUp_1 ok_X12_product (by exact ⟨by decide, rfl⟩) lk_X12_170.1 lk_X12_170.2 (sk_94 hS (by decide)) (hV := ((fX12_product_c (hS.le (by decide)) h1).mono (by decide) (Nat.le_refl _) (Nat.le_refl _))) rfl (Nat.le_of_ble_eq_true rfl) rfl (Nat.le_of_ble_eq_true rfl) ?_
  refine V_if_neB (tgt := 9) dX12_sumUp_4 (by decide) h (fun _ h => ?_) (fun _ h => ?_)
  · refine xs1E h (fun M14 h15 h => ?_) (fun r h15 h => ?_)
    · refine V.pick [0] rfl ?_
      refine fX12_sumUp_L9_ci (hS.le (by decide)) h15 ?_
      refine V_iconst dX12_sumUp_69 ?_
      exact V_iretb (b := true) dX12_sumUp_70 rfl (by decide) (q_wB h)
    · refine V.pick [0] rfl ?_
      obtain ⟨w, Mz⟩ := r
      refine fX12_sumUp_L9_cr (hS.le (by decide)) h15 ?_
      exact q_wB h
  · refine V_iconst dX12_sumUp_7 ?_
    exact V_iretb (b := false) dX12_sumUp_8 rfl (by decide) (q_wB h)
def fX12_one_g_X12_any_L9 (rc : Nat → xM → Option (Bool × xM)) (n : Nat) (M : xM) : Option ((xM) ⊕ (Bool × xM)) := match n with
  | 0 => none
  | n + 1 => (if wr (M 94 14) = wr 4 then (xb (fX12_next0 M) fun M105 => xb2 (rc 2 M105) fun r107 M108 => (if r107 = true then (xb (fX12_lay M108 22 0) fun M110 => fX12_one_g_X12_any_L9 rc n M110) else some (.inr (false, M108)))) else some (.inl M))
set_option maxRecDepth 20000 in
set_option maxHeartbeats 1000000 in
theorem fX12_one_g_X12_any_L9_c {S : xS} {kp : Option Nat} (hS : xSk kp 101 S) {Q : Option xV → xS → xM → Prop} {m : Nat} {rc : Nat → xM → Option (Bool × xM)} (hm : 11 ≤ m) (ih0 : ∀ {M : xM} {E : Bool × xM}, rc 0 M = some E → V Y_X12_one m 0 0 0 (xarg 0 [vR (some 94)]) [] S M (xqR S E.2 (some (vI (b2i E.1))))) (ih1 : ∀ {M : xM} {E : Bool × xM}, rc 1 M = some E → V Y_X12_any m 0 0 0 (xarg 0 [vR (some 94)]) [] S M (xqR S E.2 (some (vI (b2i E.1))))) (ih2 : ∀ {M : xM} {E : Bool × xM}, rc 2 M = some E → V Y_X12_every m 0 0 0 (xarg 0 [vR (some 94)]) [] S M (xqR S E.2 (some (vI (b2i E.1))))) :
    ∀ (n : Nat) (M : xM) {E : (xM) ⊕ (Bool × xM)}, fX12_one_g_X12_any_L9 rc n M = some E → (∀ (Mz : xM), E = .inl Mz → V Y_X12_any (m + 1) 0 0 40 [] [] S Mz Q) → (∀ (w : Bool) (Mz : xM), E = .inr (w, Mz) → Q (some (vI (b2i w))) S Mz) → V Y_X12_any (m + 1) 0 0 9 [(0, vR (some 94))] [] S M Q := by
  intro n
  induction n with
  | zero =>
    intro M E h k kr
    cases h
  | succ n ih =>
    intro M E h k kr
    rw [fX12_one_g_X12_any_L9] at h
    refine V_aload_n dX12_any_9 rfl (xm 0 rfl) ?_
    refine V_getI (kI := 14) dX12_any_10 fl_X12_137 (sk_94 hS (by decide)) rfl rfl ?_
    refine V_iconst dX12_any_13 ?_
    refine V_icmp_ne (tgt := 40) dX12_any_14 (by decide) h (fun _ h => ?_) (fun _ h => ?_)
    · refine V_aload_n dX12_any_17 rfl (xm 0 rfl) ?_
      refine xbE h (fun M105 h104 h => ?_)
      refine T_callVv dX12_any_18 ok_X12_next0 (by exact ⟨by decide, rfl⟩) lk_X12_161.1 lk_X12_161.2 (sk_94 hS (by decide)) (hV := ((fX12_next0_c (hS.le (by decide)) h104).mono (by omega) (Nat.le_refl _) (Nat.le_refl _))) rfl (Nat.le_of_ble_eq_true rfl) rfl (Nat.le_of_ble_eq_true rfl) ?_
      refine V_aload_n dX12_any_21 rfl (xm 0 rfl) ?_
      refine xb2E h (fun r107 M108 h106 h => ?_)
      refine T_callVI dX12_any_22 ok_X12_every (by exact ⟨by decide, rfl⟩) lk_X12_181.1 lk_X12_181.2 (sk_94 hS (by decide)) (hV := (ih2 h106)) rfl (Nat.le_of_ble_eq_true rfl) rfl (Nat.le_of_ble_eq_true rfl) ?_
      refine V_if_neB (tgt := 30) dX12_any_25 (by decide) h (fun _ h => ?_) (fun _ h => ?_)
      · refine V_aload_n dX12_any_30 rfl (xm 0 rfl) ?_
        refine V_bipush dX12_any_31 (by decide) ?_
        refine V_iconst dX12_any_33 ?_
        refine xbE h (fun M110 h109 h => ?_)
        refine T_callVv dX12_any_34 ok_X12_lay (by exact ⟨by decide, rfl⟩) lk_X12_174.1 lk_X12_174.2 (sk_94 hS (by decide)) (hV := ((fX12_lay_c (hS.le (by decide)) h109).mono (by omega) (Nat.le_refl _) (Nat.le_refl _))) rfl (Nat.le_of_ble_eq_true rfl) rfl (Nat.le_of_ble_eq_true rfl) ?_
        refine V_goto (tgt := 9) dX12_any_37 (by decide) ?_
        refine V.pick [0] rfl ?_
        exact ih M110 h k kr
      · refine V_iconst dX12_any_28 ?_
        exact V_iretb (b := false) dX12_any_29 rfl (by decide) (kr false M108 (Option.some.inj h).symm)
    · refine V.pick [] rfl ?_
      exact k M (Option.some.inj h).symm
theorem fX12_one_g_X12_any_L9_ci {S : xS} {kp : Option Nat} (hS : xSk kp 101 S) {Q : Option xV → xS → xM → Prop} {m : Nat} {rc : Nat → xM → Option (Bool × xM)} (hm : 11 ≤ m) (ih0 : ∀ {M : xM} {E : Bool × xM}, rc 0 M = some E → V Y_X12_one m 0 0 0 (xarg 0 [vR (some 94)]) [] S M (xqR S E.2 (some (vI (b2i E.1))))) (ih1 : ∀ {M : xM} {E : Bool × xM}, rc 1 M = some E → V Y_X12_any m 0 0 0 (xarg 0 [vR (some 94)]) [] S M (xqR S E.2 (some (vI (b2i E.1))))) (ih2 : ∀ {M : xM} {E : Bool × xM}, rc 2 M = some E → V Y_X12_every m 0 0 0 (xarg 0 [vR (some 94)]) [] S M (xqR S E.2 (some (vI (b2i E.1))))) {n : Nat} {M : xM} {Mz : xM} (hl : fX12_one_g_X12_any_L9 rc n M = some (.inl Mz)) (k : V Y_X12_any (m + 1) 0 0 40 [] [] S Mz Q) : V Y_X12_any (m + 1) 0 0 9 [(0, vR (some 94))] [] S M Q := fX12_one_g_X12_any_L9_c hS hm ih0 ih1 ih2 _ _ hl (fun _ e => by cases e; exact k) (fun _ _ e => by cases e)
theorem fX12_one_g_X12_any_L9_cr {S : xS} {kp : Option Nat} (hS : xSk kp 101 S) {Q : Option xV → xS → xM → Prop} {m : Nat} {rc : Nat → xM → Option (Bool × xM)} (hm : 11 ≤ m) (ih0 : ∀ {M : xM} {E : Bool × xM}, rc 0 M = some E → V Y_X12_one m 0 0 0 (xarg 0 [vR (some 94)]) [] S M (xqR S E.2 (some (vI (b2i E.1))))) (ih1 : ∀ {M : xM} {E : Bool × xM}, rc 1 M = some E → V Y_X12_any m 0 0 0 (xarg 0 [vR (some 94)]) [] S M (xqR S E.2 (some (vI (b2i E.1))))) (ih2 : ∀ {M : xM} {E : Bool × xM}, rc 2 M = some E → V Y_X12_every m 0 0 0 (xarg 0 [vR (some 94)]) [] S M (xqR S E.2 (some (vI (b2i E.1))))) {n : Nat} {M : xM} {w : Bool} {Mz : xM} (hl : fX12_one_g_X12_any_L9 rc n M = some (.inr (w, Mz))) (k : Q (some (vI (b2i w))) S Mz) : V Y_X12_any (m + 1) 0 0 9 [(0, vR (some 94))] [] S M Q := fX12_one_g_X12_any_L9_c hS hm ih0 ih1 ih2 _ _ hl (fun _ e => by cases e) (fun _ _ e => by cases e; exact k)
def fX12_one_g_X12_every_L9 (rc : Nat → xM → Option (Bool × xM)) (n : Nat) (M : xM) : Option ((xM) ⊕ (Bool × xM)) := match n with
  | 0 => none
  | n + 1 => (if wr (M 94 14) = wr 5 then (xb (fX12_next0 M) fun M205 => xb2 (rc 0 M205) fun r207 M208 => (if r207 = true then (xb (fX12_lay M208 21 0) fun M210 => fX12_one_g_X12_every_L9 rc n M210) else some (.inr (false, M208)))) else some (.inl M))
set_option maxRecDepth 20000 in
set_option maxHeartbeats 1000000 in
theorem fX12_one_g_X12_every_L9_c {S : xS} {kp : Option Nat} (hS : xSk kp 101 S) {Q : Option xV → xS → xM → Prop} {m : Nat} {rc : Nat → xM → Option (Bool × xM)} (hm : 11 ≤ m) (ih0 : ∀ {M : xM} {E : Bool × xM}, rc 0 M = some E → V Y_X12_one m 0 0 0 (xarg 0 [vR (some 94)]) [] S M (xqR S E.2 (some (vI (b2i E.1))))) (ih1 : ∀ {M : xM} {E : Bool × xM}, rc 1 M = some E → V Y_X12_any m 0 0 0 (xarg 0 [vR (some 94)]) [] S M (xqR S E.2 (some (vI (b2i E.1))))) (ih2 : ∀ {M : xM} {E : Bool × xM}, rc 2 M = some E → V Y_X12_every m 0 0 0 (xarg 0 [vR (some 94)]) [] S M (xqR S E.2 (some (vI (b2i E.1))))) :
    ∀ (n : Nat) (M : xM) {E : (xM) ⊕ (Bool × xM)}, fX12_one_g_X12_every_L9 rc n M = some E → (∀ (Mz : xM), E = .inl Mz → V Y_X12_every (m + 1) 0 0 40 [] [] S Mz Q) → (∀ (w : Bool) (Mz : xM), E = .inr (w, Mz) → Q (some (vI (b2i w))) S Mz) → V Y_X12_every (m + 1) 0 0 9 [(0, vR (some 94))] [] S M Q := by
  intro n
  induction n with
  | zero =>
    intro M E h k kr
    cases h
  | succ n ih =>
    intro M E h k kr
    rw [fX12_one_g_X12_every_L9] at h
    refine V_aload_n dX12_every_9 rfl (xm 0 rfl) ?_
    refine V_getI (kI := 14) dX12_every_10 fl_X12_137 (sk_94 hS (by decide)) rfl rfl ?_
    refine V_iconst dX12_every_13 ?_
    refine V_icmp_ne (tgt := 40) dX12_every_14 (by decide) h (fun _ h => ?_) (fun _ h => ?_)
    · refine V_aload_n dX12_every_17 rfl (xm 0 rfl) ?_
      refine xbE h (fun M205 h204 h => ?_)
      refine T_callVv dX12_every_18 ok_X12_next0 (by exact ⟨by decide, rfl⟩) lk_X12_161.1 lk_X12_161.2 (sk_94 hS (by decide)) (hV := ((fX12_next0_c (hS.le (by decide)) h204).mono (by omega) (Nat.le_refl _) (Nat.le_refl _))) rfl (Nat.le_of_ble_eq_true rfl) rfl (Nat.le_of_ble_eq_true rfl) ?_
      refine V_aload_n dX12_every_21 rfl (xm 0 rfl) ?_
      refine xb2E h (fun r207 M208 h206 h => ?_)
      refine T_callVI dX12_every_22 ok_X12_one (by exact ⟨by decide, rfl⟩) lk_X12_184.1 lk_X12_184.2 (sk_94 hS (by decide)) (hV := (ih0 h206)) rfl (Nat.le_of_ble_eq_true rfl) rfl (Nat.le_of_ble_eq_true rfl) ?_
      refine V_if_neB (tgt := 30) dX12_every_25 (by decide) h (fun _ h => ?_) (fun _ h => ?_)
      · refine V_aload_n dX12_every_30 rfl (xm 0 rfl) ?_
        refine V_bipush dX12_every_31 (by decide) ?_
        refine V_iconst dX12_every_33 ?_
        refine xbE h (fun M210 h209 h => ?_)
        refine T_callVv dX12_every_34 ok_X12_lay (by exact ⟨by decide, rfl⟩) lk_X12_174.1 lk_X12_174.2 (sk_94 hS (by decide)) (hV := ((fX12_lay_c (hS.le (by decide)) h209).mono (by omega) (Nat.le_refl _) (Nat.le_refl _))) rfl (Nat.le_of_ble_eq_true rfl) rfl (Nat.le_of_ble_eq_true rfl) ?_
        refine V_goto (tgt := 9) dX12_every_37 (by decide) ?_
        refine V.pick [0] rfl ?_
        exact ih M210 h k kr
      · refine V_iconst dX12_every_28 ?_
        exact V_iretb (b := false) dX12_every_29 rfl (by decide) (kr false M208 (Option.some.inj h).symm)
    · refine V.pick [] rfl ?_
      exact k M (Option.some.inj h).symm
theorem fX12_one_g_X12_every_L9_ci {S : xS} {kp : Option Nat} (hS : xSk kp 101 S) {Q : Option xV → xS → xM → Prop} {m : Nat} {rc : Nat → xM → Option (Bool × xM)} (hm : 11 ≤ m) (ih0 : ∀ {M : xM} {E : Bool × xM}, rc 0 M = some E → V Y_X12_one m 0 0 0 (xarg 0 [vR (some 94)]) [] S M (xqR S E.2 (some (vI (b2i E.1))))) (ih1 : ∀ {M : xM} {E : Bool × xM}, rc 1 M = some E → V Y_X12_any m 0 0 0 (xarg 0 [vR (some 94)]) [] S M (xqR S E.2 (some (vI (b2i E.1))))) (ih2 : ∀ {M : xM} {E : Bool × xM}, rc 2 M = some E → V Y_X12_every m 0 0 0 (xarg 0 [vR (some 94)]) [] S M (xqR S E.2 (some (vI (b2i E.1))))) {n : Nat} {M : xM} {Mz : xM} (hl : fX12_one_g_X12_every_L9 rc n M = some (.inl Mz)) (k : V Y_X12_every (m + 1) 0 0 40 [] [] S Mz Q) : V Y_X12_every (m + 1) 0 0 9 [(0, vR (some 94))] [] S M Q := fX12_one_g_X12_every_L9_c hS hm ih0 ih1 ih2 _ _ hl (fun _ e => by cases e; exact k) (fun _ _ e => by cases e)
theorem fX12_one_g_X12_every_L9_cr {S : xS} {kp : Option Nat} (hS : xSk kp 101 S) {Q : Option xV → xS → xM → Prop} {m : Nat} {rc : Nat → xM → Option (Bool × xM)} (hm : 11 ≤ m) (ih0 : ∀ {M : xM} {E : Bool × xM}, rc 0 M = some E → V Y_X12_one m 0 0 0 (xarg 0 [vR (some 94)]) [] S M (xqR S E.2 (some (vI (b2i E.1))))) (ih1 : ∀ {M : xM} {E : Bool × xM}, rc 1 M = some E → V Y_X12_any m 0 0 0 (xarg 0 [vR (some 94)]) [] S M (xqR S E.2 (some (vI (b2i E.1))))) (ih2 : ∀ {M : xM} {E : Bool × xM}, rc 2 M = some E → V Y_X12_every m 0 0 0 (xarg 0 [vR (some 94)]) [] S M (xqR S E.2 (some (vI (b2i E.1))))) {n : Nat} {M : xM} {w : Bool} {Mz : xM} (hl : fX12_one_g_X12_every_L9 rc n M = some (.inr (w, Mz))) (k : Q (some (vI (b2i w))) S Mz) : V Y_X12_every (m + 1) 0 0 9 [(0, vR (some 94))] [] S M Q := fX12_one_g_X12_every_L9_c hS hm ih0 ih1 ih2 _ _ hl (fun _ e => by cases e) (fun _ _ e => by cases e; exact k)
def fX12_one_g (n : Nat) (w : Nat) (M : xM) : Option (Bool × xM) := match n with
  | 0 => none
  | n + 1 => (if w = 0 then (if wr (M 94 14) = wr 6 then (xb2 (fX12_opens M) fun r2 M3 => (if r2 = true then (xb2 ((fX12_one_g n) 0 M3) fun r5 M6 => (if r5 = true then (xlet (xup M6 94 20 ((M6 94 20) - 1)) fun M7 => xb (fX12_lay M7 20 0) fun M9 => some (true, M9)) else some (false, M6))) else some (false, M3))) else (if wr (M 94 14) = wr 140 then (xb2 (fX12_opens M) fun r11 M12 => (if r11 = true then (xb2 ((fX12_one_g n) 1 M12) fun r14 M15 => (if r14 = true then (xb2 (fX12_need M15 141) fun r17 M18 => (if r17 = true then (xlet (xup M18 94 20 ((M18 94 20) - 1)) fun M19 => some (true, M19)) else some (false, M18))) else some (false, M15))) else some (false, M12))) else (xb2 (fX12_sumUp M) fun r21 M22 => (if r21 = true then (xj (fun (s23 : Int) => (if wr s23 = wr ((-1)) then (xb2 (fX12_bad M22 1) fun r26 M27 => some (r26, M27)) else (xb (fX12_next0 M22) fun M29 => xb2 (fX12_sumUp M29) fun r31 M32 => (if r31 = true then (xb (fX12_lay M32 s23 0) fun M34 => some (true, M34)) else some (false, M32))))) fun j24 => (if wr (M22 94 14) = wr 160 then j24 17 else (if wr (M22 94 14) = wr 161 then j24 18 else (if wr (M22 94 14) = wr 162 then j24 19 else j24 ((-1)))))) else some (false, M22))))) else (if w = 1 then xb2 ((fX12_one_g n) 2 M) fun r102 M103 => (if r102 = true then (xs1 (fX12_one_g_X12_any_L9 (fX12_one_g n) xfuel M103) (fun M111 => some (true, M111)) (fun r => some r)) else some (false, M103)) else xb2 ((fX12_one_g n) 0 M) fun r202 M203 => (if r202 = true then (xs1 (fX12_one_g_X12_every_L9 (fX12_one_g n) xfuel M203) (fun M211 => some (true, M211)) (fun r => some r)) else some (false, M203))))
set_option maxRecDepth 20000 in
set_option maxHeartbeats 1000000 in
theorem fX12_one_g_c {S : xS} {kp : Option Nat} (hS : xSk kp 101 S) : ∀ n : Nat, (∀ {M : xM} {E : Bool × xM}, fX12_one_g n 0 M = some E → V Y_X12_one (n + 11) 0 0 0 (xarg 0 [vR (some 94)]) [] S M (xqR S E.2 (some (vI (b2i E.1))))) ∧ (∀ {M : xM} {E : Bool × xM}, fX12_one_g n 1 M = some E → V Y_X12_any (n + 11) 0 0 0 (xarg 0 [vR (some 94)]) [] S M (xqR S E.2 (some (vI (b2i E.1))))) ∧ (∀ {M : xM} {E : Bool × xM}, fX12_one_g n 2 M = some E → V Y_X12_every (n + 11) 0 0 0 (xarg 0 [vR (some 94)]) [] S M (xqR S E.2 (some (vI (b2i E.1))))) := by
  intro n
  induction n with
  | zero => exact ⟨(fun h => (by cases h)), (fun h => (by cases h)), (fun h => (by cases h))⟩
  | succ n ih =>
    obtain ⟨ih0, ih1, ih2⟩ := ih
    have e9 : n + 1 + 11 = n + 11 + 1 := by omega
    rw [e9]
    refine ⟨?_, ?_, ?_⟩
    · intro M E h
      rw [fX12_one_g] at h
      rw [if_pos rfl] at h
      show V Y_X12_one _ 0 0 0 [(0, vR (some 94))] [] S M _
      refine V_aload_n dX12_one_0 rfl (xm 0 rfl) ?_
      refine V_getI (kI := 14) dX12_one_1 fl_X12_137 (sk_94 hS (by decide)) rfl rfl ?_
      refine V_bipush dX12_one_4 (by decide) ?_
      refine V_icmp_ne (tgt := 44) dX12_one_6 (by decide) h (fun _ h => ?_) (fun _ h => ?_)
      · refine V_aload_n dX12_one_9 rfl (xm 0 rfl) ?_
        refine xb2E h (fun r2 M3 h1 h => ?_)
        refine T_callVI dX12_one_10 ok_X12_opens (by exact ⟨by decide, rfl⟩) lk_X12_187.1 lk_X12_187.2 (sk_94 hS (by decide)) (hV := ((fX12_opens_c (hS.le (by decide)) h1).mono (by omega) (Nat.le_refl _) (Nat.le_refl _))) rfl (Nat.le_of_ble_eq_true rfl) rfl (Nat.le_of_ble_eq_true rfl) ?_
        refine V_if_eqB (tgt := 23) dX12_one_13 (by decide) h (fun _ h => ?_) (fun _ h => ?_)
        · refine V_aload_n dX12_one_16 rfl (xm 0 rfl) ?_
          refine xb2E h (fun r5 M6 h4 h => ?_)
          refine T_callVI dX12_one_17 ok_X12_one (by exact ⟨by decide, rfl⟩) lk_X12_184.1 lk_X12_184.2 (sk_94 hS (by decide)) (hV := (ih0 h4)) rfl (Nat.le_of_ble_eq_true rfl) rfl (Nat.le_of_ble_eq_true rfl) ?_
          refine V_if_neB (tgt := 25) dX12_one_20 (by decide) h (fun _ h => ?_) (fun _ h => ?_)
          · refine V_aload_n dX12_one_25 rfl (xm 0 rfl) ?_
            refine V_dup dX12_one_26 rfl ?_
            refine V_getI (kI := 20) dX12_one_27 fl_X12_167 (sk_94 hS (by decide)) rfl rfl ?_
            refine V_iconst dX12_one_30 ?_
            refine V_isub dX12_one_31 ?_
            refine T_putI (kI := 20) dX12_one_32 fp_X12_167 (sk_94 hS (by decide)) rfl rfl h (fun M7 h => ?_)
            refine V_aload_n dX12_one_35 rfl (xm 0 rfl) ?_
            refine V_bipush dX12_one_36 (by decide) ?_
            refine V_iconst dX12_one_38 ?_
            refine xbE h (fun M9 h8 h => ?_)
            refine T_callVv dX12_one_39 ok_X12_lay (by exact ⟨by decide, rfl⟩) lk_X12_174.1 lk_X12_174.2 (sk_94 hS (by decide)) (hV := ((fX12_lay_c (hS.le (by decide)) h8).mono (by omega) (Nat.le_refl _) (Nat.le_refl _))) rfl (Nat.le_of_ble_eq_true rfl) rfl (Nat.le_of_ble_eq_true rfl) ?_
            refine V_iconst dX12_one_42 ?_
            exact V_iretb (b := true) dX12_one_43 rfl (by decide) (q_wB h)
          · refine V_iconst dX12_one_23 ?_
            exact V_iretb (b := false) dX12_one_24 rfl (by decide) (q_wB h)
        · refine V_iconst dX12_one_23 ?_
          exact V_iretb (b := false) dX12_one_24 rfl (by decide) (q_wB h)
      · refine V_aload_n dX12_one_44 rfl (xm 0 rfl) ?_
        refine V_getI (kI := 14) dX12_one_45 fl_X12_137 (sk_94 hS (by decide)) rfl rfl ?_
        refine V_sipush dX12_one_48 (by decide) ?_
        refine V_icmp_ne (tgt := 92) dX12_one_51 (by decide) h (fun _ h => ?_) (fun _ h => ?_)
        · refine V_aload_n dX12_one_54 rfl (xm 0 rfl) ?_
          refine xb2E h (fun r11 M12 h10 h => ?_)
          refine T_callVI dX12_one_55 ok_X12_opens (by exact ⟨by decide, rfl⟩) lk_X12_187.1 lk_X12_187.2 (sk_94 hS (by decide)) (hV := ((fX12_opens_c (hS.le (by decide)) h10).mono (by omega) (Nat.le_refl _) (Nat.le_refl _))) rfl (Nat.le_of_ble_eq_true rfl) rfl (Nat.le_of_ble_eq_true rfl) ?_
          refine V_if_eqB (tgt := 78) dX12_one_58 (by decide) h (fun _ h => ?_) (fun _ h => ?_)
          · refine V_aload_n dX12_one_61 rfl (xm 0 rfl) ?_
            refine xb2E h (fun r14 M15 h13 h => ?_)
            refine T_callVI dX12_one_62 ok_X12_any (by exact ⟨by decide, rfl⟩) lk_X12_190.1 lk_X12_190.2 (sk_94 hS (by decide)) (hV := (ih1 h13)) rfl (Nat.le_of_ble_eq_true rfl) rfl (Nat.le_of_ble_eq_true rfl) ?_
            refine V_if_eqB (tgt := 78) dX12_one_65 (by decide) h (fun _ h => ?_) (fun _ h => ?_)
            · refine V_aload_n dX12_one_68 rfl (xm 0 rfl) ?_
              refine V_sipush dX12_one_69 (by decide) ?_
              refine xb2E h (fun r17 M18 h16 h => ?_)
              refine T_callVI dX12_one_72 ok_X12_need (by exact ⟨by decide, rfl⟩) lk_X12_193.1 lk_X12_193.2 (sk_94 hS (by decide)) (hV := ((fX12_need_c (hS.le (by decide)) h16).mono (by omega) (Nat.le_refl _) (Nat.le_refl _))) rfl (Nat.le_of_ble_eq_true rfl) rfl (Nat.le_of_ble_eq_true rfl) ?_
              refine V_if_neB (tgt := 80) dX12_one_75 (by decide) h (fun _ h => ?_) (fun _ h => ?_)
              · refine V_aload_n dX12_one_80 rfl (xm 0 rfl) ?_
                refine V_dup dX12_one_81 rfl ?_
                refine V_getI (kI := 20) dX12_one_82 fl_X12_167 (sk_94 hS (by decide)) rfl rfl ?_
                refine V_iconst dX12_one_85 ?_
                refine V_isub dX12_one_86 ?_
                refine T_putI (kI := 20) dX12_one_87 fp_X12_167 (sk_94 hS (by decide)) rfl rfl h (fun M19 h => ?_)
                refine V_iconst dX12_one_90 ?_
                exact V_iretb (b := true) dX12_one_91 rfl (by decide) (q_wB h)
              · refine V_iconst dX12_one_78 ?_
                exact V_iretb (b := false) dX12_one_79 rfl (by decide) (q_wB h)
            · refine V_iconst dX12_one_78 ?_
              exact V_iretb (b := false) dX12_one_79 rfl (by decide) (q_wB h)
          · refine V_iconst dX12_one_78 ?_
            exact V_iretb (b := false) dX12_one_79 rfl (by decide) (q_wB h)
        · refine V_aload_n dX12_one_92 rfl (xm 0 rfl) ?_
          refine xb2E h (fun r21 M22 h20 h => ?_)
          refine T_callVI dX12_one_93 ok_X12_sumUp (by exact ⟨by decide, rfl⟩) lk_X12_196.1 lk_X12_196.2 (sk_94 hS (by decide)) (hV := ((fX12_sumUp_c (hS.le (by decide)) h20).mono (by omega) (Nat.le_refl _) (Nat.le_refl _))) rfl (Nat.le_of_ble_eq_true rfl) rfl (Nat.le_of_ble_eq_true rfl) ?_
          refine V_if_neB (tgt := 101) dX12_one_96 (by decide) h (fun _ h => ?_) (fun _ h => ?_)
          · refine V_aload_n dX12_one_101 rfl (xm 0 rfl) ?_
            refine V_getI (kI := 14) dX12_one_102 fl_X12_137 (sk_94 hS (by decide)) rfl rfl ?_
            refine V_sipush dX12_one_105 (by decide) ?_
            refine xjE h (fun j24 hj24 h => ?_)
            have kj24 : ∀ (s23 : Int), j24 s23 = some E → V Y_X12_one (n + 11 + 1) 0 0 147 [(0, vR (some 94))] [vI s23] S M22 (xqR S E.2 (some (vI (b2i E.1)))) := by
              intro s23 h
              rw [hj24] at h
              refine V_istore_n (ls' := [(1, vI s23), (0, vR (some 94))]) dX12_one_147 rfl (by decide) rfl ?_
              refine V_iload_n dX12_one_148 rfl (xm 0 rfl) ?_
              refine V_iconst dX12_one_149 ?_
              refine V_icmp_ne (tgt := 159) dX12_one_150 (by decide) h (fun _ h => ?_) (fun _ h => ?_)
              · refine V_aload_n dX12_one_153 rfl (xm 1 rfl) ?_
                refine V_iconst dX12_one_154 ?_
                refine xb2E h (fun r26 M27 h25 h => ?_)
                refine T_callVI dX12_one_155 ok_X12_bad (by exact ⟨by decide, rfl⟩) lk_X12_158.1 lk_X12_158.2 (sk_94 hS (by decide)) (hV := ((fX12_bad_c (hS.le (by decide)) h25).mono (by omega) (Nat.le_refl _) (Nat.le_refl _))) rfl (Nat.le_of_ble_eq_true rfl) rfl (Nat.le_of_ble_eq_true rfl) ?_
                exact V_iretb (b := r26) dX12_one_158 rfl rfl (q_wB h)
              · refine V_aload_n dX12_one_159 rfl (xm 1 rfl) ?_
                refine xbE h (fun M29 h28 h => ?_)
                refine T_callVv dX12_one_160 ok_X12_next0 (by exact ⟨by decide, rfl⟩) lk_X12_161.1 lk_X12_161.2 (sk_94 hS (by decide)) (hV := ((fX12_next0_c (hS.le (by decide)) h28).mono (by omega) (Nat.le_refl _) (Nat.le_refl _))) rfl (Nat.le_of_ble_eq_true rfl) rfl (Nat.le_of_ble_eq_true rfl) ?_
                refine V_aload_n dX12_one_163 rfl (xm 1 rfl) ?_
                refine xb2E h (fun r31 M32 h30 h => ?_)
                refine T_callVI dX12_one_164 ok_X12_sumUp (by exact ⟨by decide, rfl⟩) lk_X12_196.1 lk_X12_196.2 (sk_94 hS (by decide)) (hV := ((fX12_sumUp_c (hS.le (by decide)) h30).mono (by omega) (Nat.le_refl _) (Nat.le_refl _))) rfl (Nat.le_of_ble_eq_true rfl) rfl (Nat.le_of_ble_eq_true rfl) ?_
                refine V_if_neB (tgt := 172) dX12_one_167 (by decide) h (fun _ h => ?_) (fun _ h => ?_)
                · refine V_aload_n dX12_one_172 rfl (xm 1 rfl) ?_
                  refine V_iload_n dX12_one_173 rfl (xm 0 rfl) ?_
                  refine V_iconst dX12_one_174 ?_
                  refine xbE h (fun M34 h33 h => ?_)
                  refine T_callVv dX12_one_175 ok_X12_lay (by exact ⟨by decide, rfl⟩) lk_X12_174.1 lk_X12_174.2 (sk_94 hS (by decide)) (hV := ((fX12_lay_c (hS.le (by decide)) h33).mono (by omega) (Nat.le_refl _) (Nat.le_refl _))) rfl (Nat.le_of_ble_eq_true rfl) rfl (Nat.le_of_ble_eq_true rfl) ?_
                  refine V_iconst dX12_one_178 ?_
                  exact V_iretb (b := true) dX12_one_179 rfl (by decide) (q_wB h)
                · refine V_iconst dX12_one_170 ?_
                  exact V_iretb (b := false) dX12_one_171 rfl (by decide) (q_wB h)
            refine V_icmp_ne (tgt := 116) dX12_one_108 (by decide) h (fun _ h => ?_) (fun _ h => ?_)
            · refine V_bipush dX12_one_111 (by decide) ?_
              refine V_goto (tgt := 147) dX12_one_113 (by decide) ?_
              refine V.pick [0] rfl ?_
              exact kj24 17 h
            · refine V_aload_n dX12_one_116 rfl (xm 0 rfl) ?_
              refine V_getI (kI := 14) dX12_one_117 fl_X12_137 (sk_94 hS (by decide)) rfl rfl ?_
              refine V_sipush dX12_one_120 (by decide) ?_
              refine V_icmp_ne (tgt := 131) dX12_one_123 (by decide) h (fun _ h => ?_) (fun _ h => ?_)
              · refine V_bipush dX12_one_126 (by decide) ?_
                refine V_goto (tgt := 147) dX12_one_128 (by decide) ?_
                refine V.pick [0] rfl ?_
                exact kj24 18 h
              · refine V_aload_n dX12_one_131 rfl (xm 0 rfl) ?_
                refine V_getI (kI := 14) dX12_one_132 fl_X12_137 (sk_94 hS (by decide)) rfl rfl ?_
                refine V_sipush dX12_one_135 (by decide) ?_
                refine V_icmp_ne (tgt := 146) dX12_one_138 (by decide) h (fun _ h => ?_) (fun _ h => ?_)
                · refine V_bipush dX12_one_141 (by decide) ?_
                  refine V_goto (tgt := 147) dX12_one_143 (by decide) ?_
                  refine V.pick [0] rfl ?_
                  exact kj24 19 h
                · refine V_iconst dX12_one_146 ?_
                  refine V.pick [0] rfl ?_
                  exact kj24 ((-1)) h
          · refine V_iconst dX12_one_99 ?_
            exact V_iretb (b := false) dX12_one_100 rfl (by decide) (q_wB h)
    · intro M E h
      rw [fX12_one_g] at h
      rw [if_neg (by decide)] at h
      rw [if_pos rfl] at h
      show V Y_X12_any _ 0 0 0 [(0, vR (some 94))] [] S M _
      refine V_aload_n dX12_any_0 rfl (xm 0 rfl) ?_
      refine xb2E h (fun r102 M103 h101 h => ?_)
      refine T_callVI dX12_any_1 ok_X12_every (by exact ⟨by decide, rfl⟩) lk_X12_181.1 lk_X12_181.2 (sk_94 hS (by decide)) (hV := (ih2 h101)) rfl (Nat.le_of_ble_eq_true rfl) rfl (Nat.le_of_ble_eq_true rfl) ?_
      refine V_if_neB (tgt := 9) dX12_any_4 (by decide) h (fun _ h => ?_) (fun _ h => ?_)
      · refine xs1E h (fun M111 h112 h => ?_) (fun r h112 h => ?_)
        · refine V.pick [0] rfl ?_
          refine fX12_one_g_X12_any_L9_ci (hS.le (by decide)) (m := n + 11) (by omega) ih0 ih1 ih2 h112 ?_
          refine V_iconst dX12_any_40 ?_
          exact V_iretb (b := true) dX12_any_41 rfl (by decide) (q_wB h)
        · refine V.pick [0] rfl ?_
          obtain ⟨w, Mz⟩ := r
          refine fX12_one_g_X12_any_L9_cr (hS.le (by decide)) (m := n + 11) (by omega) ih0 ih1 ih2 h112 ?_
          exact q_wB h
      · refine V_iconst dX12_any_7 ?_
        exact V_iretb (b := false) dX12_any_8 rfl (by decide) (q_wB h)
    · intro M E h
      rw [fX12_one_g] at h
      rw [if_neg (by decide)] at h
      rw [if_neg (by decide)] at h
      show V Y_X12_every _ 0 0 0 [(0, vR (some 94))] [] S M _
      refine V_aload_n dX12_every_0 rfl (xm 0 rfl) ?_
      refine xb2E h (fun r202 M203 h201 h => ?_)
      refine T_callVI dX12_every_1 ok_X12_one (by exact ⟨by decide, rfl⟩) lk_X12_184.1 lk_X12_184.2 (sk_94 hS (by decide)) (hV := (ih0 h201)) rfl (Nat.le_of_ble_eq_true rfl) rfl (Nat.le_of_ble_eq_true rfl) ?_
      refine V_if_neB (tgt := 9) dX12_every_4 (by decide) h (fun _ h => ?_) (fun _ h => ?_)
      · refine xs1E h (fun M211 h212 h => ?_) (fun r h212 h => ?_)
        · refine V.pick [0] rfl ?_
          refine fX12_one_g_X12_every_L9_ci (hS.le (by decide)) (m := n + 11) (by omega) ih0 ih1 ih2 h212 ?_
          refine V_iconst dX12_every_40 ?_
          exact V_iretb (b := true) dX12_every_41 rfl (by decide) (q_wB h)
        · refine V.pick [0] rfl ?_
          obtain ⟨w, Mz⟩ := r
          refine fX12_one_g_X12_every_L9_cr (hS.le (by decide)) (m := n + 11) (by omega) ih0 ih1 ih2 h212 ?_
          exact q_wB h
      · refine V_iconst dX12_every_7 ?_
        exact V_iretb (b := false) dX12_every_8 rfl (by decide) (q_wB h)
