def fJ0_coder_7d493 (k0 : Nat) : Int := (if wr 1 = 0 then 1 else 0)
set_option maxRecDepth 20000 in
set_option maxHeartbeats 1000000 in
theorem fJ0_coder_7d493_c {S : xS} {kp : Option Nat} (hS : xSk kp 0 S) {M : xM} {k0 : Nat} (hk0 : k0 < 14) {E : Int} (h : fJ0_coder_7d493 k0 = E) :
    V Y_J0_coder_7d493 0 0 0 0 (xarg 0 [vS (10 + k0)]) [] S M (xqR S M (some (vI E))) := by
  unfold fJ0_coder_7d493 at h
  show V Y_J0_coder_7d493 0 0 0 0 [(0, vS (10 + k0))] [] S M _
  refine V_getCS dJ0_coder_7d493_0 (xsg3 83 rfl rfl) ?_
  refine V_if_eq (tgt := 13) dJ0_coder_7d493_3 (by decide) h (fun _ h => ?_) (fun _ h => ?_)
  · refine V_iconst dJ0_coder_7d493_13 ?_
    exact V_iretk dJ0_coder_7d493_14 rfl (by decide) (q_tI h)
  · refine V_aload_nS dJ0_coder_7d493_6 rfl (xm 0 rfl) ?_
    refine V_sgetC (k := k0) dJ0_coder_7d493_7 hk0 (xsg7 162 rfl rfl) ?_
    refine V_goto (tgt := 14) dJ0_coder_7d493_10 (by decide) ?_
    exact V_iretk dJ0_coder_7d493_14 rfl (by decide) (q_tI h)
def fJ0_length_8abf5 (k0 : Nat) : Int := xshr (xln k0) (fJ0_coder_7d493 k0)
set_option maxRecDepth 20000 in
set_option maxHeartbeats 1000000 in
theorem fJ0_length_8abf5_c {S : xS} {kp : Option Nat} (hS : xSk kp 0 S) {M : xM} {k0 : Nat} (hk0 : k0 < 14) {E : Int} (h : fJ0_length_8abf5 k0 = E) :
    V Y_J0_length_8abf5 1 0 0 0 (xarg 0 [vS (10 + k0)]) [] S M (xqR S M (some (vI E))) := by
  unfold fJ0_length_8abf5 at h
  show V Y_J0_length_8abf5 1 0 0 0 [(0, vS (10 + k0))] [] S M _
  refine V_aload_nS dJ0_length_8abf5_0 rfl (xm 0 rfl) ?_
  refine V_sgetV (k := k0) dJ0_length_8abf5_1 hk0 (xsg7 161 rfl rfl) ?_
  refine V_blen (k := k0) dJ0_length_8abf5_4 hk0 ?_
  refine V_aload_nS dJ0_length_8abf5_5 rfl (xm 0 rfl) ?_
  refine T_callVSI (k := k0) dJ0_length_8abf5_6 ok_J0_coder_7d493 lk_J0_335.1 lk_J0_335.2 hk0 (hV := ((fJ0_coder_7d493_c (hS.le (by decide)) hk0 rfl).mono (by decide) (Nat.le_refl _) (Nat.le_refl _))) rfl rfl (Nat.le_of_ble_eq_true rfl) rfl (Nat.le_of_ble_eq_true rfl) ?_
  refine V_ishr dJ0_length_8abf5_9 ?_
  exact V_ireti dJ0_length_8abf5_10 rfl (q_tI h)
def fJ0_isLatin1_aae02 (k0 : Nat) : Bool := (if wr 1 = 0 then false else (if wr 0 = 0 then true else false))
set_option maxRecDepth 20000 in
set_option maxHeartbeats 1000000 in
theorem fJ0_isLatin1_aae02_c {S : xS} {kp : Option Nat} (hS : xSk kp 0 S) {M : xM} {k0 : Nat} (hk0 : k0 < 14) {E : Bool} (h : fJ0_isLatin1_aae02 k0 = E) :
    V Y_J0_isLatin1_aae02 0 0 0 0 (xarg 0 [vS (10 + k0)]) [] S M (xqR S M (some (vI (b2i E)))) := by
  unfold fJ0_isLatin1_aae02 at h
  show V Y_J0_isLatin1_aae02 0 0 0 0 [(0, vS (10 + k0))] [] S M _
  refine V_getCS dJ0_isLatin1_aae02_0 (xsg3 83 rfl rfl) ?_
  refine V_if_eq (tgt := 17) dJ0_isLatin1_aae02_3 (by decide) h (fun _ h => ?_) (fun _ h => ?_)
  · refine V_iconst dJ0_isLatin1_aae02_17 ?_
    exact V_iretb (b := false) dJ0_isLatin1_aae02_18 rfl (by decide) (q_tB h)
  · refine V_aload_nS dJ0_isLatin1_aae02_6 rfl (xm 0 rfl) ?_
    refine V_sgetC (k := k0) dJ0_isLatin1_aae02_7 hk0 (xsg7 162 rfl rfl) ?_
    refine V_if_ne (tgt := 17) dJ0_isLatin1_aae02_10 (by decide) h (fun _ h => ?_) (fun _ h => ?_)
    · refine V_iconst dJ0_isLatin1_aae02_13 ?_
      refine V_goto (tgt := 18) dJ0_isLatin1_aae02_14 (by decide) ?_
      exact V_iretb (b := true) dJ0_isLatin1_aae02_18 rfl (by decide) (q_tB h)
    · refine V_iconst dJ0_isLatin1_aae02_17 ?_
      exact V_iretb (b := false) dJ0_isLatin1_aae02_18 rfl (by decide) (q_tB h)
def fJ3_checkIndex_8e157 (v0 : Int) (v1 : Int) : Option Int := xj (fun (_ : Unit) => none) fun j1 => (if wr v0 < 0 then j1 () else (if wr v0 < wr v1 then some v0 else j1 ()))
set_option maxRecDepth 20000 in
set_option maxHeartbeats 1000000 in
theorem fJ3_checkIndex_8e157_c {S : xS} {kp : Option Nat} (hS : xSk kp 0 S) {M : xM} {v0 : Int} {v1 : Int} (fa2 : xV) (hfa2 : xw2 fa2 = false) {E : Int} (h : fJ3_checkIndex_8e157 v0 v1 = some E) :
    V Y_J3_checkIndex_8e157 0 0 0 0 (xarg 0 [vI v0, vI v1, fa2]) [] S M (xqR S M (some (vI E))) := by
  unfold fJ3_checkIndex_8e157 at h
  show V Y_J3_checkIndex_8e157 0 0 0 0 [(0, vI v0), (1, vI v1), (2, fa2)] [] S M _
  refine V_iload_n dJ3_checkIndex_8e157_0 rfl (xm 0 rfl) ?_
  refine xjE h (fun j1 hj1 h => ?_)
  have kj1 : ∀ (u : Unit), j1 u = some E → V Y_J3_checkIndex_8e157 0 0 0 9 [(0, vI v0), (1, vI v1), (2, fa2)] [] S M (xqR S M (some (vI E))) := by
    intro u h
    rw [hj1] at h
    cases h
  refine V_if_lt (tgt := 9) dJ3_checkIndex_8e157_1 (by decide) h (fun _ h => ?_) (fun _ h => ?_)
  · refine V.pick [0, 1, 2] rfl ?_
    exact kj1 () h
  · refine V_iload_n dJ3_checkIndex_8e157_4 rfl (xm 0 rfl) ?_
    refine V_iload_n dJ3_checkIndex_8e157_5 rfl (xm 1 rfl) ?_
    refine V_icmp_lt (tgt := 16) dJ3_checkIndex_8e157_6 (by decide) h (fun _ h => ?_) (fun _ h => ?_)
    · refine V_iload_n dJ3_checkIndex_8e157_16 rfl (xm 0 rfl) ?_
      exact V_ireti dJ3_checkIndex_8e157_17 rfl (q_pI h)
    · refine V.pick [0, 1, 2] rfl ?_
      exact kj1 () h
def fJ0_checkIndex_df160 (v0 : Int) (v1 : Int) : Option Unit := xb (fJ3_checkIndex_8e157 v0 v1) fun r3 => some ()
set_option maxRecDepth 20000 in
set_option maxHeartbeats 1000000 in
theorem fJ0_checkIndex_df160_c {S : xS} {kp : Option Nat} (hS : xSk kp 0 S) {M : xM} {v0 : Int} {v1 : Int} {E : Unit} (h : fJ0_checkIndex_df160 v0 v1 = some E) :
    V Y_J0_checkIndex_df160 1 0 0 0 (xarg 0 [vI v0, vI v1]) [] S M (xqR S M none) := by
  unfold fJ0_checkIndex_df160 at h
  show V Y_J0_checkIndex_df160 1 0 0 0 [(0, vI v0), (1, vI v1)] [] S M _
  refine V_iload_n dJ0_checkIndex_df160_0 rfl (xm 0 rfl) ?_
  refine V_iload_n dJ0_checkIndex_df160_1 rfl (xm 1 rfl) ?_
  refine V_getSF dJ0_checkIndex_df160_2 (xsg3 99 rfl rfl) (fun f1 hf1 => ?_)
  refine xbE h (fun r3 h2 h => ?_)
  refine T_callSI (host := "") dJ0_checkIndex_df160_5 ok_J3_checkIndex_8e157 lk_J0_1059.1 lk_J0_1059.2 (hV := ((fJ3_checkIndex_8e157_c (hS.le (by decide)) f1 hf1 h2).mono (by decide) (Nat.le_refl _) (Nat.le_refl _))) rfl (xc3 hf1) rfl (Nat.le_of_ble_eq_true rfl) ?_
  refine V_pop dJ0_checkIndex_df160_8 rfl ?_
  exact V_ret dJ0_checkIndex_df160_9 rfl xqR_me
def fJ1_charAt_3b067 (k0 : Nat) (v1 : Int) : Option Int := xb (fJ0_checkIndex_df160 v1 (xln k0)) fun (_ : Unit) => xby k0 v1 fun r2 => some (xchr (xand r2 255))
theorem fJ1_charAt_3b067_chr {k0 : Nat} {v1 E : Int} (h : fJ1_charAt_3b067 k0 v1 = some E) : xchr E = E := by
  unfold fJ1_charAt_3b067 at h
  refine xbE h (fun _ _ h => ?_)
  obtain ⟨_, h⟩ := xbyE h
  cases h
  exact xchr_chr _
set_option maxRecDepth 20000 in
set_option maxHeartbeats 1000000 in
theorem fJ1_charAt_3b067_c {S : xS} {kp : Option Nat} (hS : xSk kp 0 S) {M : xM} {k0 : Nat} {v1 : Int} (hk0 : k0 < 14) {E : Int} (h : fJ1_charAt_3b067 k0 v1 = some E) :
    V Y_J1_charAt_3b067 2 0 0 0 (xarg 0 [vS (30 + k0), vI v1]) [] S M (xqR S M (some (vI E))) := by
  unfold fJ1_charAt_3b067 at h
  show V Y_J1_charAt_3b067 2 0 0 0 [(0, vS (30 + k0)), (1, vI v1)] [] S M _
  refine V_iload_n dJ1_charAt_3b067_0 rfl (xm 1 rfl) ?_
  refine V_aload_nS dJ1_charAt_3b067_1 rfl (xm 0 rfl) ?_
  refine V_blen (k := k0) dJ1_charAt_3b067_2 hk0 ?_
  refine xbE h (fun _ h1 h => ?_)
  refine T_callSv (host := "") dJ1_charAt_3b067_3 ok_J0_checkIndex_df160 lk_J1_9.1 lk_J1_9.2 (hV := ((fJ0_checkIndex_df160_c (hS.le (by decide)) h1).mono (by decide) (Nat.le_refl _) (Nat.le_refl _))) rfl (Nat.le_of_ble_eq_true rfl) rfl (Nat.le_of_ble_eq_true rfl) ?_
  refine V_aload_nS dJ1_charAt_3b067_6 rfl (xm 0 rfl) ?_
  refine V_iload_n dJ1_charAt_3b067_7 rfl (xm 1 rfl) ?_
  refine T_bald (k := k0) dJ1_charAt_3b067_8 hk0 h (fun r2 h => ?_)
  refine V_sipush dJ1_charAt_3b067_9 (by decide) ?_
  refine V_iand dJ1_charAt_3b067_12 ?_
  refine V_i2c dJ1_charAt_3b067_13 ?_
  exact V_iretc dJ1_charAt_3b067_14 rfl (xchr_chr _) (q_pI h)
def fJ0_charAt_5068e (k0 : Nat) (v1 : Int) : Option Int := (if (fJ0_isLatin1_aae02 k0) = true then (xb (fJ1_charAt_3b067 k0 v1) fun r2 => some r2) else none)
set_option maxRecDepth 20000 in
set_option maxHeartbeats 1000000 in
theorem fJ0_charAt_5068e_c {S : xS} {kp : Option Nat} (hS : xSk kp 0 S) {M : xM} {k0 : Nat} {v1 : Int} (hk0 : k0 < 14) {E : Int} (h : fJ0_charAt_5068e k0 v1 = some E) :
    V Y_J0_charAt_5068e 3 0 0 0 (xarg 0 [vS (10 + k0), vI v1]) [] S M (xqR S M (some (vI E))) := by
  unfold fJ0_charAt_5068e at h
  show V Y_J0_charAt_5068e 3 0 0 0 [(0, vS (10 + k0)), (1, vI v1)] [] S M _
  refine V_aload_nS dJ0_charAt_5068e_0 rfl (xm 0 rfl) ?_
  refine T_callVSI (k := k0) dJ0_charAt_5068e_1 ok_J0_isLatin1_aae02 lk_J0_492.1 lk_J0_492.2 hk0 (hV := ((fJ0_isLatin1_aae02_c (hS.le (by decide)) hk0 rfl).mono (by decide) (Nat.le_refl _) (Nat.le_refl _))) rfl rfl (Nat.le_of_ble_eq_true rfl) rfl (Nat.le_of_ble_eq_true rfl) ?_
  refine V_if_eqB (tgt := 16) dJ0_charAt_5068e_4 (by decide) h (fun _ h => ?_) (fun _ h => ?_)
  · refine V_aload_nS dJ0_charAt_5068e_7 rfl (xm 0 rfl) ?_
    refine V_sgetV (k := k0) dJ0_charAt_5068e_8 hk0 (xsg7 161 rfl rfl) ?_
    refine V_iload_n dJ0_charAt_5068e_11 rfl (xm 1 rfl) ?_
    refine xbE h (fun r2 h1 h => ?_)
    refine T_callSI (host := "") dJ0_charAt_5068e_12 ok_J1_charAt_3b067 lk_J0_495.1 lk_J0_495.2 (hV := ((fJ1_charAt_3b067_c (hS.le (by decide)) hk0 h1).mono (by decide) (Nat.le_refl _) (Nat.le_refl _))) rfl (Nat.le_of_ble_eq_true rfl) rfl (Nat.le_of_ble_eq_true rfl) ?_
    exact V_iretc dJ0_charAt_5068e_15 rfl (fJ1_charAt_3b067_chr h1) (q_pI h)
  · refine V_aload_nS dJ0_charAt_5068e_16 rfl (xm 0 rfl) ?_
    refine V_sgetV (k := k0) dJ0_charAt_5068e_17 hk0 (xsg7 161 rfl rfl) ?_
    refine V_iload_n dJ0_charAt_5068e_20 rfl (xm 1 rfl) ?_
    cases h
def fX12_is_L24 (n : Nat) (M : xM) (k1 : Nat) (v2 : Int) (v3 : Int) : Option (Int) := match n with
  | 0 => none
  | n + 1 => (if wr v3 < wr (fJ0_length_8abf5 k1) then (if wr v2 = 0 then some v2 else (xrd M 100 400 ((M 94 15) + v3) fun r3 => xb (fJ0_charAt_5068e k1 v3) fun r5 => (if wr r3 = wr r5 then fX12_is_L24 n M k1 1 (v3 + 1) else fX12_is_L24 n M k1 0 (v3 + 1)))) else some v2)
set_option maxRecDepth 20000 in
set_option maxHeartbeats 1000000 in
theorem fX12_is_L24_c {S : xS} {kp : Option Nat} (hS : xSk kp 101 S) {Q : Option xV → xS → xM → Prop} :
    ∀ (n : Nat) (M : xM) (k1 : Nat) (v2 : Int) (v3 : Int) {x2 : Int}, k1 < 14 → fX12_is_L24 n M k1 v2 v3 = some x2 → V Y_X12_is 4 0 0 67 [(2, vI x2)] [] S M Q → V Y_X12_is 4 0 0 24 [(0, vR (some 94)), (1, vS (10 + k1)), (2, vI v2), (3, vI v3)] [] S M Q := by
  intro n
  induction n with
  | zero =>
    intro M k1 v2 v3 x2 hk1 h k
    cases h
  | succ n ih =>
    intro M k1 v2 v3 x2 hk1 h k
    rw [fX12_is_L24] at h
    refine V_iload_n dX12_is_24 rfl (xm 3 rfl) ?_
    refine V_aload_nS dX12_is_25 rfl (xm 1 rfl) ?_
    refine T_callVSI (k := k1) dX12_is_26 ok_J0_length_8abf5 lk_X12_92.1 lk_X12_92.2 hk1 (hV := ((fJ0_length_8abf5_c (hS.le (by decide)) hk1 rfl).mono (by decide) (Nat.le_refl _) (Nat.le_refl _))) rfl rfl (Nat.le_of_ble_eq_true rfl) rfl (Nat.le_of_ble_eq_true rfl) ?_
    refine V_icmp_ge (tgt := 67) dX12_is_29 (by decide) h (fun _ h => ?_) (fun _ h => ?_)
    · refine V_iload_n dX12_is_32 rfl (xm 2 rfl) ?_
      refine V_if_eq (tgt := 67) dX12_is_33 (by decide) h (fun _ h => ?_) (fun _ h => ?_)
      · cases h
        refine V.pick [2] rfl ?_
        exact k
      · refine V_aload_n dX12_is_36 rfl (xm 0 rfl) ?_
        refine V_getR dX12_is_37 fl_X12_25 (sk_94 hS (by decide)) rfl ?_
        refine V_aload_n dX12_is_40 rfl (xm 0 rfl) ?_
        refine V_getI (kI := 15) dX12_is_41 fl_X12_89 (sk_94 hS (by decide)) rfl rfl ?_
        refine V_iload_n dX12_is_44 rfl (xm 3 rfl) ?_
        refine V_iadd dX12_is_45 ?_
        refine T_iald dX12_is_46 (sk_100 hS (by decide)) rfl h (fun r3 h => ?_)
        refine V_aload_nS dX12_is_47 rfl (xm 1 rfl) ?_
        refine V_iload_n dX12_is_48 rfl (xm 3 rfl) ?_
        refine xbE h (fun r5 h4 h => ?_)
        refine T_callVSI (k := k1) dX12_is_49 ok_J0_charAt_5068e lk_X12_98.1 lk_X12_98.2 hk1 (hV := ((fJ0_charAt_5068e_c (hS.le (by decide)) hk1 h4).mono (by decide) (Nat.le_refl _) (Nat.le_refl _))) rfl rfl (Nat.le_of_ble_eq_true rfl) rfl (Nat.le_of_ble_eq_true rfl) ?_
        refine V_icmp_ne (tgt := 59) dX12_is_52 (by decide) h (fun _ h => ?_) (fun _ h => ?_)
        · refine V_iconst dX12_is_55 ?_
          refine V_goto (tgt := 60) dX12_is_56 (by decide) ?_
          refine V_istore_n (ls' := [(2, vI 1), (0, vR (some 94)), (1, vS (10 + k1)), (3, vI v3)]) dX12_is_60 rfl (by decide) rfl ?_
          refine V_iinc (ls' := [(3, vI (v3 + 1)), (2, vI 1), (0, vR (some 94)), (1, vS (10 + k1))]) dX12_is_61 (xm 3 rfl) (by decide) rfl ?_
          refine V_goto (tgt := 24) dX12_is_64 (by decide) ?_
          refine V.pick [2, 3, 1, 0] rfl ?_
          exact ih M k1 1 (v3 + 1) hk1 h k
        · refine V_iconst dX12_is_59 ?_
          refine V_istore_n (ls' := [(2, vI 0), (0, vR (some 94)), (1, vS (10 + k1)), (3, vI v3)]) dX12_is_60 rfl (by decide) rfl ?_
          refine V_iinc (ls' := [(3, vI (v3 + 1)), (2, vI 0), (0, vR (some 94)), (1, vS (10 + k1))]) dX12_is_61 (xm 3 rfl) (by decide) rfl ?_
          refine V_goto (tgt := 24) dX12_is_64 (by decide) ?_
          refine V.pick [2, 3, 1, 0] rfl ?_
          exact ih M k1 0 (v3 + 1) hk1 h k
    · cases h
      refine V.pick [2] rfl ?_
      exact k
theorem fX12_is_L24_ci {S : xS} {kp : Option Nat} (hS : xSk kp 101 S) {Q : Option xV → xS → xM → Prop} {n : Nat} {M : xM} {k1 : Nat} {v2 : Int} {v3 : Int} {x2 : Int} (hk1 : k1 < 14) (hl : fX12_is_L24 n M k1 v2 v3 = some x2) (k : V Y_X12_is 4 0 0 67 [(2, vI x2)] [] S M Q) : V Y_X12_is 4 0 0 24 [(0, vR (some 94)), (1, vS (10 + k1)), (2, vI v2), (3, vI v3)] [] S M Q := fX12_is_L24_c hS _ _ _ _ _ hk1 hl k
def fX12_is (M : xM) (k1 : Nat) : Option Bool := xj (fun (s1 : Int) => xb (fX12_is_L24 xfuel M k1 s1 0) fun y6 => xbl y6 fun b8 => some b8) fun j2 => (if wr ((M 94 13) - (M 94 15)) = wr (fJ0_length_8abf5 k1) then j2 1 else j2 0)
set_option maxRecDepth 20000 in
set_option maxHeartbeats 1000000 in
theorem fX12_is_c {S : xS} {kp : Option Nat} (hS : xSk kp 101 S) {M : xM} {k1 : Nat} (hk1 : k1 < 14) {E : Bool} (h : fX12_is M k1 = some E) :
    V Y_X12_is 4 0 0 0 (xarg 0 [vR (some 94), vS (10 + k1)]) [] S M (xqR S M (some (vI (b2i E)))) := by
  unfold fX12_is at h
  show V Y_X12_is 4 0 0 0 [(0, vR (some 94)), (1, vS (10 + k1))] [] S M _
  refine V_aload_n dX12_is_0 rfl (xm 0 rfl) ?_
  refine V_getI (kI := 13) dX12_is_1 fl_X12_86 (sk_94 hS (by decide)) rfl rfl ?_
  refine V_aload_n dX12_is_4 rfl (xm 0 rfl) ?_
  refine V_getI (kI := 15) dX12_is_5 fl_X12_89 (sk_94 hS (by decide)) rfl rfl ?_
  refine V_isub dX12_is_8 ?_
  refine V_aload_nS dX12_is_9 rfl (xm 1 rfl) ?_
  refine T_callVSI (k := k1) dX12_is_10 ok_J0_length_8abf5 lk_X12_92.1 lk_X12_92.2 hk1 (hV := ((fJ0_length_8abf5_c (hS.le (by decide)) hk1 rfl).mono (by decide) (Nat.le_refl _) (Nat.le_refl _))) rfl rfl (Nat.le_of_ble_eq_true rfl) rfl (Nat.le_of_ble_eq_true rfl) ?_
  refine xjE h (fun j2 hj2 h => ?_)
  have kj2 : ∀ (s1 : Int), j2 s1 = some E → V Y_X12_is 4 0 0 21 [(0, vR (some 94)), (1, vS (10 + k1))] [vI s1] S M (xqR S M (some (vI (b2i E)))) := by
    intro s1 h
    rw [hj2] at h
    refine V_istore_n (ls' := [(2, vI s1), (0, vR (some 94)), (1, vS (10 + k1))]) dX12_is_21 rfl (by decide) rfl ?_
    refine V_iconst dX12_is_22 ?_
    refine V_istore_n (ls' := [(3, vI 0), (2, vI s1), (0, vR (some 94)), (1, vS (10 + k1))]) dX12_is_23 rfl (by decide) rfl ?_
    refine xbE h (fun y6 h7 h => ?_)
    refine V.pick [2, 3, 1, 0] rfl ?_
    refine fX12_is_L24_ci (hS.le (by decide)) hk1 h7 ?_
    refine V_iload_n dX12_is_67 rfl (xm 0 rfl) ?_
    exact T_iretb dX12_is_68 rfl h (fun b8 h => q_pB h)
  refine V_icmp_ne (tgt := 20) dX12_is_13 (by decide) h (fun _ h => ?_) (fun _ h => ?_)
  · refine V_iconst dX12_is_16 ?_
    refine V_goto (tgt := 21) dX12_is_17 (by decide) ?_
    refine V.pick [0, 1] rfl ?_
    exact kj2 1 h
  · refine V_iconst dX12_is_20 ?_
    refine V.pick [0, 1] rfl ?_
    exact kj2 0 h
def fX12_nameWord (M : xM)  : Option Int := xb (fX12_is M 7) fun r2 => (if r2 = true then some 41 else (xb (fX12_is M 8) fun r4 => (if r4 = true then some 42 else (xb (fX12_is M 9) fun r6 => (if r6 = true then some 43 else (xb (fX12_is M 10) fun r8 => (if r8 = true then some 44 else (xb (fX12_is M 11) fun r10 => (if r10 = true then some 45 else (xb (fX12_is M 12) fun r12 => (if r12 = true then some 46 else (xb (fX12_is M 13) fun r14 => (if r14 = true then some 47 else some 1)))))))))))))
set_option maxRecDepth 20000 in
set_option maxHeartbeats 1000000 in
theorem fX12_nameWord_c {S : xS} {kp : Option Nat} (hS : xSk kp 101 S) {M : xM} {E : Int} (h : fX12_nameWord M = some E) :
    V Y_X12_nameWord 5 0 0 0 (xarg 0 [vR (some 94)]) [] S M (xqR S M (some (vI E))) := by
  unfold fX12_nameWord at h
  show V Y_X12_nameWord 5 0 0 0 [(0, vR (some 94))] [] S M _
  refine V_aload_n dX12_nameWord_0 rfl (xm 0 rfl) ?_
  refine V_ldcS (tx := "angle") (k := 7) dX12_nameWord_1 (by decide +kernel) ?_
  refine xbE h (fun r2 h1 h => ?_)
  refine T_callVI dX12_nameWord_3 ok_X12_is (by exact ⟨by decide, rfl⟩) lk_X12_104.1 lk_X12_104.2 (sk_94 hS (by decide)) (hV := ((fX12_is_c (hS.le (by decide)) (by decide) h1).mono (by decide) (Nat.le_refl _) (Nat.le_refl _))) rfl (Nat.le_of_ble_eq_true rfl) rfl (Nat.le_of_ble_eq_true rfl) ?_
  refine V_if_eqB (tgt := 12) dX12_nameWord_6 (by decide) h (fun _ h => ?_) (fun _ h => ?_)
  · refine V_bipush dX12_nameWord_9 (by decide) ?_
    exact V_ireti dX12_nameWord_11 rfl (q_pI h)
  · refine V_aload_n dX12_nameWord_12 rfl (xm 0 rfl) ?_
    refine V_ldcS (tx := "sun") (k := 8) dX12_nameWord_13 (by decide +kernel) ?_
    refine xbE h (fun r4 h3 h => ?_)
    refine T_callVI dX12_nameWord_15 ok_X12_is (by exact ⟨by decide, rfl⟩) lk_X12_104.1 lk_X12_104.2 (sk_94 hS (by decide)) (hV := ((fX12_is_c (hS.le (by decide)) (by decide) h3).mono (by decide) (Nat.le_refl _) (Nat.le_refl _))) rfl (Nat.le_of_ble_eq_true rfl) rfl (Nat.le_of_ble_eq_true rfl) ?_
    refine V_if_eqB (tgt := 24) dX12_nameWord_18 (by decide) h (fun _ h => ?_) (fun _ h => ?_)
    · refine V_bipush dX12_nameWord_21 (by decide) ?_
      exact V_ireti dX12_nameWord_23 rfl (q_pI h)
    · refine V_aload_n dX12_nameWord_24 rfl (xm 0 rfl) ?_
      refine V_ldcS (tx := "wind") (k := 9) dX12_nameWord_25 (by decide +kernel) ?_
      refine xbE h (fun r6 h5 h => ?_)
      refine T_callVI dX12_nameWord_27 ok_X12_is (by exact ⟨by decide, rfl⟩) lk_X12_104.1 lk_X12_104.2 (sk_94 hS (by decide)) (hV := ((fX12_is_c (hS.le (by decide)) (by decide) h5).mono (by decide) (Nat.le_refl _) (Nat.le_refl _))) rfl (Nat.le_of_ble_eq_true rfl) rfl (Nat.le_of_ble_eq_true rfl) ?_
      refine V_if_eqB (tgt := 36) dX12_nameWord_30 (by decide) h (fun _ h => ?_) (fun _ h => ?_)
      · refine V_bipush dX12_nameWord_33 (by decide) ?_
        exact V_ireti dX12_nameWord_35 rfl (q_pI h)
      · refine V_aload_n dX12_nameWord_36 rfl (xm 0 rfl) ?_
        refine V_ldcS (tx := "current") (k := 10) dX12_nameWord_37 (by decide +kernel) ?_
        refine xbE h (fun r8 h7 h => ?_)
        refine T_callVI dX12_nameWord_39 ok_X12_is (by exact ⟨by decide, rfl⟩) lk_X12_104.1 lk_X12_104.2 (sk_94 hS (by decide)) (hV := ((fX12_is_c (hS.le (by decide)) (by decide) h7).mono (by decide) (Nat.le_refl _) (Nat.le_refl _))) rfl (Nat.le_of_ble_eq_true rfl) rfl (Nat.le_of_ble_eq_true rfl) ?_
        refine V_if_eqB (tgt := 48) dX12_nameWord_42 (by decide) h (fun _ h => ?_) (fun _ h => ?_)
        · refine V_bipush dX12_nameWord_45 (by decide) ?_
          exact V_ireti dX12_nameWord_47 rfl (q_pI h)
        · refine V_aload_n dX12_nameWord_48 rfl (xm 0 rfl) ?_
          refine V_ldcS (tx := "month") (k := 11) dX12_nameWord_49 (by decide +kernel) ?_
          refine xbE h (fun r10 h9 h => ?_)
          refine T_callVI dX12_nameWord_51 ok_X12_is (by exact ⟨by decide, rfl⟩) lk_X12_104.1 lk_X12_104.2 (sk_94 hS (by decide)) (hV := ((fX12_is_c (hS.le (by decide)) (by decide) h9).mono (by decide) (Nat.le_refl _) (Nat.le_refl _))) rfl (Nat.le_of_ble_eq_true rfl) rfl (Nat.le_of_ble_eq_true rfl) ?_
          refine V_if_eqB (tgt := 60) dX12_nameWord_54 (by decide) h (fun _ h => ?_) (fun _ h => ?_)
          · refine V_bipush dX12_nameWord_57 (by decide) ?_
            exact V_ireti dX12_nameWord_59 rfl (q_pI h)
          · refine V_aload_n dX12_nameWord_60 rfl (xm 0 rfl) ?_
            refine V_ldcS (tx := "day") (k := 12) dX12_nameWord_61 (by decide +kernel) ?_
            refine xbE h (fun r12 h11 h => ?_)
            refine T_callVI dX12_nameWord_63 ok_X12_is (by exact ⟨by decide, rfl⟩) lk_X12_104.1 lk_X12_104.2 (sk_94 hS (by decide)) (hV := ((fX12_is_c (hS.le (by decide)) (by decide) h11).mono (by decide) (Nat.le_refl _) (Nat.le_refl _))) rfl (Nat.le_of_ble_eq_true rfl) rfl (Nat.le_of_ble_eq_true rfl) ?_
            refine V_if_eqB (tgt := 72) dX12_nameWord_66 (by decide) h (fun _ h => ?_) (fun _ h => ?_)
            · refine V_bipush dX12_nameWord_69 (by decide) ?_
              exact V_ireti dX12_nameWord_71 rfl (q_pI h)
            · refine V_aload_n dX12_nameWord_72 rfl (xm 0 rfl) ?_
              refine V_ldcS (tx := "turned") (k := 13) dX12_nameWord_73 (by decide +kernel) ?_
              refine xbE h (fun r14 h13 h => ?_)
              refine T_callVI dX12_nameWord_75 ok_X12_is (by exact ⟨by decide, rfl⟩) lk_X12_104.1 lk_X12_104.2 (sk_94 hS (by decide)) (hV := ((fX12_is_c (hS.le (by decide)) (by decide) h13).mono (by decide) (Nat.le_refl _) (Nat.le_refl _))) rfl (Nat.le_of_ble_eq_true rfl) rfl (Nat.le_of_ble_eq_true rfl) ?_
              refine V_if_eqB (tgt := 86) dX12_nameWord_78 (by decide) h (fun _ h => ?_) (fun _ h => ?_)
              · refine V_bipush dX12_nameWord_81 (by decide) ?_
                refine V_goto (tgt := 87) dX12_nameWord_83 (by decide) ?_
                exact V_ireti dX12_nameWord_87 rfl (q_pI h)
              · refine V_iconst dX12_nameWord_86 ?_
                exact V_ireti dX12_nameWord_87 rfl (q_pI h)
def fX12_word (M : xM)  : Option Int := xb (fX12_is M 2) fun r2 => (if r2 = true then some 3 else (xb (fX12_is M 3) fun r4 => (if r4 = true then some 4 else (xb (fX12_is M 4) fun r6 => (if r6 = true then some 5 else (xb (fX12_is M 5) fun r8 => (if r8 = true then some 6 else (xb (fX12_is M 6) fun r10 => (if r10 = true then some 20 else (xb (fX12_nameWord M) fun r12 => some r12))))))))))
set_option maxRecDepth 20000 in
set_option maxHeartbeats 1000000 in
theorem fX12_word_c {S : xS} {kp : Option Nat} (hS : xSk kp 101 S) {M : xM} {E : Int} (h : fX12_word M = some E) :
    V Y_X12_word 6 0 0 0 (xarg 0 [vR (some 94)]) [] S M (xqR S M (some (vI E))) := by
  unfold fX12_word at h
  show V Y_X12_word 6 0 0 0 [(0, vR (some 94))] [] S M _
  refine V_aload_n dX12_word_0 rfl (xm 0 rfl) ?_
  refine V_ldcS (tx := "when") (k := 2) dX12_word_1 (by decide +kernel) ?_
  refine xbE h (fun r2 h1 h => ?_)
  refine T_callVI dX12_word_3 ok_X12_is (by exact ⟨by decide, rfl⟩) lk_X12_104.1 lk_X12_104.2 (sk_94 hS (by decide)) (hV := ((fX12_is_c (hS.le (by decide)) (by decide) h1).mono (by decide) (Nat.le_refl _) (Nat.le_refl _))) rfl (Nat.le_of_ble_eq_true rfl) rfl (Nat.le_of_ble_eq_true rfl) ?_
  refine V_if_eqB (tgt := 11) dX12_word_6 (by decide) h (fun _ h => ?_) (fun _ h => ?_)
  · refine V_iconst dX12_word_9 ?_
    exact V_ireti dX12_word_10 rfl (q_pI h)
  · refine V_aload_n dX12_word_11 rfl (xm 0 rfl) ?_
    refine V_ldcS (tx := "or") (k := 3) dX12_word_12 (by decide +kernel) ?_
    refine xbE h (fun r4 h3 h => ?_)
    refine T_callVI dX12_word_14 ok_X12_is (by exact ⟨by decide, rfl⟩) lk_X12_104.1 lk_X12_104.2 (sk_94 hS (by decide)) (hV := ((fX12_is_c (hS.le (by decide)) (by decide) h3).mono (by decide) (Nat.le_refl _) (Nat.le_refl _))) rfl (Nat.le_of_ble_eq_true rfl) rfl (Nat.le_of_ble_eq_true rfl) ?_
    refine V_if_eqB (tgt := 22) dX12_word_17 (by decide) h (fun _ h => ?_) (fun _ h => ?_)
    · refine V_iconst dX12_word_20 ?_
      exact V_ireti dX12_word_21 rfl (q_pI h)
    · refine V_aload_n dX12_word_22 rfl (xm 0 rfl) ?_
      refine V_ldcS (tx := "and") (k := 4) dX12_word_23 (by decide +kernel) ?_
      refine xbE h (fun r6 h5 h => ?_)
      refine T_callVI dX12_word_25 ok_X12_is (by exact ⟨by decide, rfl⟩) lk_X12_104.1 lk_X12_104.2 (sk_94 hS (by decide)) (hV := ((fX12_is_c (hS.le (by decide)) (by decide) h5).mono (by decide) (Nat.le_refl _) (Nat.le_refl _))) rfl (Nat.le_of_ble_eq_true rfl) rfl (Nat.le_of_ble_eq_true rfl) ?_
      refine V_if_eqB (tgt := 33) dX12_word_28 (by decide) h (fun _ h => ?_) (fun _ h => ?_)
      · refine V_iconst dX12_word_31 ?_
        exact V_ireti dX12_word_32 rfl (q_pI h)
      · refine V_aload_n dX12_word_33 rfl (xm 0 rfl) ?_
        refine V_ldcS (tx := "not") (k := 5) dX12_word_34 (by decide +kernel) ?_
        refine xbE h (fun r8 h7 h => ?_)
        refine T_callVI dX12_word_36 ok_X12_is (by exact ⟨by decide, rfl⟩) lk_X12_104.1 lk_X12_104.2 (sk_94 hS (by decide)) (hV := ((fX12_is_c (hS.le (by decide)) (by decide) h7).mono (by decide) (Nat.le_refl _) (Nat.le_refl _))) rfl (Nat.le_of_ble_eq_true rfl) rfl (Nat.le_of_ble_eq_true rfl) ?_
        refine V_if_eqB (tgt := 45) dX12_word_39 (by decide) h (fun _ h => ?_) (fun _ h => ?_)
        · refine V_bipush dX12_word_42 (by decide) ?_
          exact V_ireti dX12_word_44 rfl (q_pI h)
        · refine V_aload_n dX12_word_45 rfl (xm 0 rfl) ?_
          refine V_ldcS (tx := "worth") (k := 6) dX12_word_46 (by decide +kernel) ?_
          refine xbE h (fun r10 h9 h => ?_)
          refine T_callVI dX12_word_48 ok_X12_is (by exact ⟨by decide, rfl⟩) lk_X12_104.1 lk_X12_104.2 (sk_94 hS (by decide)) (hV := ((fX12_is_c (hS.le (by decide)) (by decide) h9).mono (by decide) (Nat.le_refl _) (Nat.le_refl _))) rfl (Nat.le_of_ble_eq_true rfl) rfl (Nat.le_of_ble_eq_true rfl) ?_
          refine V_if_eqB (tgt := 59) dX12_word_51 (by decide) h (fun _ h => ?_) (fun _ h => ?_)
          · refine V_bipush dX12_word_54 (by decide) ?_
            refine V_goto (tgt := 63) dX12_word_56 (by decide) ?_
            exact V_ireti dX12_word_63 rfl (q_pI h)
          · refine V_aload_n dX12_word_59 rfl (xm 0 rfl) ?_
            refine xbE h (fun r12 h11 h => ?_)
            refine T_callVI dX12_word_60 ok_X12_nameWord (by exact ⟨by decide, rfl⟩) lk_X12_130.1 lk_X12_130.2 (sk_94 hS (by decide)) (hV := ((fX12_nameWord_c (hS.le (by decide)) h11).mono (by decide) (Nat.le_refl _) (Nat.le_refl _))) rfl (Nat.le_of_ble_eq_true rfl) rfl (Nat.le_of_ble_eq_true rfl) ?_
            exact V_ireti dX12_word_63 rfl (q_pI h)
def fX12_next0_L0 (n : Nat) (M : xM) : Option (xM) := match n with
  | 0 => none
  | n + 1 => xb (fX12_see M (M 94 13)) fun r2 => xj (fun (_ : Unit) => xlet (xup M 94 13 ((M 94 13) + 1)) fun M4 => fX12_next0_L0 n M4) fun j3 => (if wr r2 = wr 32 then j3 () else (xb (fX12_see M (M 94 13)) fun r6 => (if wr r6 = wr 10 then j3 () else some M)))
set_option maxRecDepth 20000 in
set_option maxHeartbeats 1000000 in
theorem fX12_next0_L0_c {S : xS} {kp : Option Nat} (hS : xSk kp 101 S) {Q : Option xV → xS → xM → Prop} :
    ∀ (n : Nat) (M : xM) {Mz : xM}, fX12_next0_L0 n M = some Mz → V Y_X12_next0 7 0 0 39 [(0, vR (some 94))] [] S Mz Q → V Y_X12_next0 7 0 0 0 [(0, vR (some 94))] [] S M Q := by
  intro n
  induction n with
  | zero =>
    intro M Mz h k
    cases h
  | succ n ih =>
    intro M Mz h k
    rw [fX12_next0_L0] at h
    refine V_aload_n dX12_next0_0 rfl (xm 0 rfl) ?_
    refine V_aload_n dX12_next0_1 rfl (xm 0 rfl) ?_
    refine V_getI (kI := 13) dX12_next0_2 fl_X12_86 (sk_94 hS (by decide)) rfl rfl ?_
    refine xbE h (fun r2 h1 h => ?_)
    refine T_callVI dX12_next0_5 ok_X12_see (by exact ⟨by decide, rfl⟩) lk_X12_133.1 lk_X12_133.2 (sk_94 hS (by decide)) (hV := ((fX12_see_c (hS.le (by decide)) h1).mono (by decide) (Nat.le_refl _) (Nat.le_refl _))) rfl (Nat.le_of_ble_eq_true rfl) rfl (Nat.le_of_ble_eq_true rfl) ?_
    refine V_bipush dX12_next0_8 (by decide) ?_
    refine xjE h (fun j3 hj3 h => ?_)
    have kj3 : ∀ (u : Unit), j3 u = some Mz → V Y_X12_next0 7 0 0 26 [(0, vR (some 94))] [] S M Q := by
      intro u h
      rw [hj3] at h
      refine V_aload_n dX12_next0_26 rfl (xm 0 rfl) ?_
      refine V_dup dX12_next0_27 rfl ?_
      refine V_getI (kI := 13) dX12_next0_28 fl_X12_86 (sk_94 hS (by decide)) rfl rfl ?_
      refine V_iconst dX12_next0_31 ?_
      refine V_iadd dX12_next0_32 ?_
      refine T_putI (kI := 13) dX12_next0_33 fp_X12_86 (sk_94 hS (by decide)) rfl rfl h (fun M4 h => ?_)
      refine V_goto (tgt := 0) dX12_next0_36 (by decide) ?_
      refine V.pick [0] rfl ?_
      exact ih M4 h k
    refine V_icmp_eq (tgt := 26) dX12_next0_10 (by decide) h (fun _ h => ?_) (fun _ h => ?_)
    · refine V.pick [0] rfl ?_
      exact kj3 () h
    · refine V_aload_n dX12_next0_13 rfl (xm 0 rfl) ?_
      refine V_aload_n dX12_next0_14 rfl (xm 0 rfl) ?_
      refine V_getI (kI := 13) dX12_next0_15 fl_X12_86 (sk_94 hS (by decide)) rfl rfl ?_
      refine xbE h (fun r6 h5 h => ?_)
      refine T_callVI dX12_next0_18 ok_X12_see (by exact ⟨by decide, rfl⟩) lk_X12_133.1 lk_X12_133.2 (sk_94 hS (by decide)) (hV := ((fX12_see_c (hS.le (by decide)) h5).mono (by decide) (Nat.le_refl _) (Nat.le_refl _))) rfl (Nat.le_of_ble_eq_true rfl) rfl (Nat.le_of_ble_eq_true rfl) ?_
      refine V_bipush dX12_next0_21 (by decide) ?_
      refine V_icmp_ne (tgt := 39) dX12_next0_23 (by decide) h (fun _ h => ?_) (fun _ h => ?_)
      · refine V.pick [0] rfl ?_
        exact kj3 () h
      · cases h
        refine V.pick [0] rfl ?_
        exact k
theorem fX12_next0_L0_ci {S : xS} {kp : Option Nat} (hS : xSk kp 101 S) {Q : Option xV → xS → xM → Prop} {n : Nat} {M : xM} {Mz : xM} (hl : fX12_next0_L0 n M = some Mz) (k : V Y_X12_next0 7 0 0 39 [(0, vR (some 94))] [] S Mz Q) : V Y_X12_next0 7 0 0 0 [(0, vR (some 94))] [] S M Q := fX12_next0_L0_c hS _ _ hl k
def fX12_next0_L76 (n : Nat) (M : xM) : Option (xM) := match n with
  | 0 => none
  | n + 1 => xb (fX12_see M (M 94 13)) fun r14 => (if (fX12_isLetter r14) = true then (xlet (xup M 94 13 ((M 94 13) + 1)) fun M15 => fX12_next0_L76 n M15) else some M)
set_option maxRecDepth 20000 in
set_option maxHeartbeats 1000000 in
theorem fX12_next0_L76_c {S : xS} {kp : Option Nat} (hS : xSk kp 101 S) {Q : Option xV → xS → xM → Prop} :
    ∀ (n : Nat) (M : xM) {Mz : xM}, fX12_next0_L76 n M = some Mz → V Y_X12_next0 7 0 0 103 [(0, vR (some 94))] [] S Mz Q → V Y_X12_next0 7 0 0 76 [(0, vR (some 94))] [] S M Q := by
  intro n
  induction n with
  | zero =>
    intro M Mz h k
    cases h
  | succ n ih =>
    intro M Mz h k
    rw [fX12_next0_L76] at h
    refine V_aload_n dX12_next0_76 rfl (xm 0 rfl) ?_
    refine V_aload_n dX12_next0_77 rfl (xm 0 rfl) ?_
    refine V_getI (kI := 13) dX12_next0_78 fl_X12_86 (sk_94 hS (by decide)) rfl rfl ?_
    refine xbE h (fun r14 h13 h => ?_)
    refine T_callVI dX12_next0_81 ok_X12_see (by exact ⟨by decide, rfl⟩) lk_X12_133.1 lk_X12_133.2 (sk_94 hS (by decide)) (hV := ((fX12_see_c (hS.le (by decide)) h13).mono (by decide) (Nat.le_refl _) (Nat.le_refl _))) rfl (Nat.le_of_ble_eq_true rfl) rfl (Nat.le_of_ble_eq_true rfl) ?_
    refine T_callSI (host := "") dX12_next0_84 ok_X12_isLetter lk_X12_140.1 lk_X12_140.2 (hV := ((fX12_isLetter_c (hS.le (by decide)) rfl).mono (by decide) (Nat.le_refl _) (Nat.le_refl _))) rfl (Nat.le_of_ble_eq_true rfl) rfl (Nat.le_of_ble_eq_true rfl) ?_
    refine V_if_eqB (tgt := 103) dX12_next0_87 (by decide) h (fun _ h => ?_) (fun _ h => ?_)
    · refine V_aload_n dX12_next0_90 rfl (xm 0 rfl) ?_
      refine V_dup dX12_next0_91 rfl ?_
      refine V_getI (kI := 13) dX12_next0_92 fl_X12_86 (sk_94 hS (by decide)) rfl rfl ?_
      refine V_iconst dX12_next0_95 ?_
      refine V_iadd dX12_next0_96 ?_
      refine T_putI (kI := 13) dX12_next0_97 fp_X12_86 (sk_94 hS (by decide)) rfl rfl h (fun M15 h => ?_)
      refine V_goto (tgt := 76) dX12_next0_100 (by decide) ?_
      refine V.pick [0] rfl ?_
      exact ih M15 h k
    · cases h
      refine V.pick [0] rfl ?_
      exact k
theorem fX12_next0_L76_ci {S : xS} {kp : Option Nat} (hS : xSk kp 101 S) {Q : Option xV → xS → xM → Prop} {n : Nat} {M : xM} {Mz : xM} (hl : fX12_next0_L76 n M = some Mz) (k : V Y_X12_next0 7 0 0 103 [(0, vR (some 94))] [] S Mz Q) : V Y_X12_next0 7 0 0 76 [(0, vR (some 94))] [] S M Q := fX12_next0_L76_c hS _ _ hl k
def fX12_next0_L126 (n : Nat) (M : xM) : Option (xM) := match n with
  | 0 => none
  | n + 1 => xb (fX12_see M (M 94 13)) fun r23 => (if (fX12_isDigit r23) = true then (xj (fun (M24 : xM) => xlet (xup M24 94 13 ((M24 94 13) + 1)) fun M26 => fX12_next0_L126 n M26) fun j25 => (if wr (M 94 13) < wr ((M 94 15) + 4) then (xb (fX12_see M (M 94 13)) fun r28 => xlet (xup M 94 16 (((10 * (M 94 16)) + r28) - 48)) fun M29 => j25 M29) else j25 M)) else some M)
set_option maxRecDepth 20000 in
set_option maxHeartbeats 1000000 in
theorem fX12_next0_L126_c {S : xS} {kp : Option Nat} (hS : xSk kp 101 S) {Q : Option xV → xS → xM → Prop} :
    ∀ (n : Nat) (M : xM) {Mz : xM}, fX12_next0_L126 n M = some Mz → V Y_X12_next0 7 0 0 189 [(0, vR (some 94))] [] S Mz Q → V Y_X12_next0 7 0 0 126 [(0, vR (some 94))] [] S M Q := by
  intro n
  induction n with
  | zero =>
    intro M Mz h k
    cases h
  | succ n ih =>
    intro M Mz h k
    rw [fX12_next0_L126] at h
    refine V_aload_n dX12_next0_126 rfl (xm 0 rfl) ?_
    refine V_aload_n dX12_next0_127 rfl (xm 0 rfl) ?_
    refine V_getI (kI := 13) dX12_next0_128 fl_X12_86 (sk_94 hS (by decide)) rfl rfl ?_
    refine xbE h (fun r23 h22 h => ?_)
    refine T_callVI dX12_next0_131 ok_X12_see (by exact ⟨by decide, rfl⟩) lk_X12_133.1 lk_X12_133.2 (sk_94 hS (by decide)) (hV := ((fX12_see_c (hS.le (by decide)) h22).mono (by decide) (Nat.le_refl _) (Nat.le_refl _))) rfl (Nat.le_of_ble_eq_true rfl) rfl (Nat.le_of_ble_eq_true rfl) ?_
    refine T_callSI (host := "") dX12_next0_134 ok_X12_isDigit lk_X12_146.1 lk_X12_146.2 (hV := ((fX12_isDigit_c (hS.le (by decide)) rfl).mono (by decide) (Nat.le_refl _) (Nat.le_refl _))) rfl (Nat.le_of_ble_eq_true rfl) rfl (Nat.le_of_ble_eq_true rfl) ?_
    refine V_if_eqB (tgt := 189) dX12_next0_137 (by decide) h (fun _ h => ?_) (fun _ h => ?_)
    · refine V_aload_n dX12_next0_140 rfl (xm 0 rfl) ?_
      refine V_getI (kI := 13) dX12_next0_141 fl_X12_86 (sk_94 hS (by decide)) rfl rfl ?_
      refine V_aload_n dX12_next0_144 rfl (xm 0 rfl) ?_
      refine V_getI (kI := 15) dX12_next0_145 fl_X12_89 (sk_94 hS (by decide)) rfl rfl ?_
      refine V_iconst dX12_next0_148 ?_
      refine V_iadd dX12_next0_149 ?_
      refine xjE h (fun j25 hj25 h => ?_)
      have kj25 : ∀ (M24 : xM), j25 M24 = some Mz → V Y_X12_next0 7 0 0 176 [(0, vR (some 94))] [] S M24 Q := by
        intro M24 h
        rw [hj25] at h
        refine V_aload_n dX12_next0_176 rfl (xm 0 rfl) ?_
        refine V_dup dX12_next0_177 rfl ?_
        refine V_getI (kI := 13) dX12_next0_178 fl_X12_86 (sk_94 hS (by decide)) rfl rfl ?_
        refine V_iconst dX12_next0_181 ?_
        refine V_iadd dX12_next0_182 ?_
        refine T_putI (kI := 13) dX12_next0_183 fp_X12_86 (sk_94 hS (by decide)) rfl rfl h (fun M26 h => ?_)
        refine V_goto (tgt := 126) dX12_next0_186 (by decide) ?_
        refine V.pick [0] rfl ?_
        exact ih M26 h k
      refine V_icmp_ge (tgt := 176) dX12_next0_150 (by decide) h (fun _ h => ?_) (fun _ h => ?_)
      · refine V_aload_n dX12_next0_153 rfl (xm 0 rfl) ?_
        refine V_bipush dX12_next0_154 (by decide) ?_
        refine V_aload_n dX12_next0_156 rfl (xm 0 rfl) ?_
        refine V_getI (kI := 16) dX12_next0_157 fl_X12_149 (sk_94 hS (by decide)) rfl rfl ?_
        refine V_imul dX12_next0_160 ?_
        refine V_aload_n dX12_next0_161 rfl (xm 0 rfl) ?_
        refine V_aload_n dX12_next0_162 rfl (xm 0 rfl) ?_
        refine V_getI (kI := 13) dX12_next0_163 fl_X12_86 (sk_94 hS (by decide)) rfl rfl ?_
        refine xbE h (fun r28 h27 h => ?_)
        refine T_callVI dX12_next0_166 ok_X12_see (by exact ⟨by decide, rfl⟩) lk_X12_133.1 lk_X12_133.2 (sk_94 hS (by decide)) (hV := ((fX12_see_c (hS.le (by decide)) h27).mono (by decide) (Nat.le_refl _) (Nat.le_refl _))) rfl (Nat.le_of_ble_eq_true rfl) rfl (Nat.le_of_ble_eq_true rfl) ?_
        refine V_iadd dX12_next0_169 ?_
        refine V_bipush dX12_next0_170 (by decide) ?_
        refine V_isub dX12_next0_172 ?_
        refine T_putI (kI := 16) dX12_next0_173 fp_X12_149 (sk_94 hS (by decide)) rfl rfl h (fun M29 h => ?_)
        refine V.pick [0] rfl ?_
        exact kj25 M29 h
      · refine V.pick [0] rfl ?_
        exact kj25 M h
    · cases h
      refine V.pick [0] rfl ?_
      exact k
theorem fX12_next0_L126_ci {S : xS} {kp : Option Nat} (hS : xSk kp 101 S) {Q : Option xV → xS → xM → Prop} {n : Nat} {M : xM} {Mz : xM} (hl : fX12_next0_L126 n M = some Mz) (k : V Y_X12_next0 7 0 0 189 [(0, vR (some 94))] [] S Mz Q) : V Y_X12_next0 7 0 0 126 [(0, vR (some 94))] [] S M Q := fX12_next0_L126_c hS _ _ hl k
def fX12_next0 (M : xM)  : Option xM := xb (fX12_next0_L0 xfuel M) fun M7 => xlet (xup M7 94 15 (M7 94 13)) fun M9 => xb (fX12_see M9 (M9 94 13)) fun r11 => (if wr r11 = wr ((-1)) then (xlet (xup M9 94 14 0) fun M12 => some M12) else (if (fX12_isLetter r11) = true then (xb (fX12_next0_L76 xfuel M9) fun M16 => xb (fX12_word M16) fun r19 => xlet (xup M16 94 14 r19) fun M20 => some M20) else (if (fX12_isDigit r11) = true then (xlet (xup M9 94 16 0) fun M21 => xb (fX12_next0_L126 xfuel M21) fun M30 => xj (fun (s32 : Int) => xlet (xup M30 94 14 s32) fun M34 => some M34) fun j33 => (if wr ((M30 94 13) - (M30 94 15)) < wr 5 then j33 2 else j33 1)) else (xlet (xup M9 94 13 ((M9 94 13) + 1)) fun M35 => xj (fun (s36 : Int) => xj (fun (s38 : Int) => xlet (xup M35 94 14 s38) fun M40 => some M40) fun j39 => (if wr s36 = 0 then j39 1 else j39 (100 + r11))) fun j37 => xj (fun (_ : Unit) => j37 1) fun j41 => (if wr r11 = wr 59 then j41 () else (if wr r11 = wr 43 then j41 () else (if wr r11 = wr 45 then j41 () else (if wr r11 = wr 42 then j41 () else (if wr r11 = wr 47 then j41 () else (if wr r11 = wr 40 then j41 () else (if wr r11 = wr 41 then j41 () else (if wr r11 = wr 60 then j41 () else (if wr r11 = wr 61 then j41 () else (if wr r11 = wr 62 then j41 () else j37 0))))))))))))))
set_option maxRecDepth 20000 in
set_option maxHeartbeats 1000000 in
theorem fX12_next0_c {S : xS} {kp : Option Nat} (hS : xSk kp 101 S) {M : xM} {E : xM} (h : fX12_next0 M = some E) :
    V Y_X12_next0 7 0 0 0 (xarg 0 [vR (some 94)]) [] S M (xqR S E none) := by
  unfold fX12_next0 at h
  show V Y_X12_next0 7 0 0 0 [(0, vR (some 94))] [] S M _
  refine xbE h (fun M7 h8 h => ?_)
  refine V.pick [0] rfl ?_
  refine fX12_next0_L0_ci (hS.le (by decide)) h8 ?_
  refine V_aload_n dX12_next0_39 rfl (xm 0 rfl) ?_
  refine V_aload_n dX12_next0_40 rfl (xm 0 rfl) ?_
  refine V_getI (kI := 13) dX12_next0_41 fl_X12_86 (sk_94 hS (by decide)) rfl rfl ?_
  refine T_putI (kI := 15) dX12_next0_44 fp_X12_89 (sk_94 hS (by decide)) rfl rfl h (fun M9 h => ?_)
  refine V_aload_n dX12_next0_47 rfl (xm 0 rfl) ?_
  refine V_aload_n dX12_next0_48 rfl (xm 0 rfl) ?_
  refine V_getI (kI := 13) dX12_next0_49 fl_X12_86 (sk_94 hS (by decide)) rfl rfl ?_
  refine xbE h (fun r11 h10 h => ?_)
  refine T_callVI dX12_next0_52 ok_X12_see (by exact ⟨by decide, rfl⟩) lk_X12_133.1 lk_X12_133.2 (sk_94 hS (by decide)) (hV := ((fX12_see_c (hS.le (by decide)) h10).mono (by decide) (Nat.le_refl _) (Nat.le_refl _))) rfl (Nat.le_of_ble_eq_true rfl) rfl (Nat.le_of_ble_eq_true rfl) ?_
  refine V_istore_n (ls' := [(1, vI r11), (0, vR (some 94))]) dX12_next0_55 rfl (by decide) rfl ?_
  refine V_iload_n dX12_next0_56 rfl (xm 0 rfl) ?_
  refine V_iconst dX12_next0_57 ?_
  refine V_icmp_ne (tgt := 69) dX12_next0_58 (by decide) h (fun _ h => ?_) (fun _ h => ?_)
  · refine V_aload_n dX12_next0_61 rfl (xm 1 rfl) ?_
    refine V_iconst dX12_next0_62 ?_
    refine T_putI (kI := 14) dX12_next0_63 fp_X12_137 (sk_94 hS (by decide)) rfl rfl h (fun M12 h => ?_)
    refine V_goto (tgt := 306) dX12_next0_66 (by decide) ?_
    exact V_ret dX12_next0_306 rfl (q_v h)
  · refine V_iload_n dX12_next0_69 rfl (xm 0 rfl) ?_
    refine T_callSI (host := "") dX12_next0_70 ok_X12_isLetter lk_X12_140.1 lk_X12_140.2 (hV := ((fX12_isLetter_c (hS.le (by decide)) rfl).mono (by decide) (Nat.le_refl _) (Nat.le_refl _))) rfl (Nat.le_of_ble_eq_true rfl) rfl (Nat.le_of_ble_eq_true rfl) ?_
    refine V_if_eqB (tgt := 114) dX12_next0_73 (by decide) h (fun _ h => ?_) (fun _ h => ?_)
    · refine xbE h (fun M16 h17 h => ?_)
      refine V.pick [1] rfl ?_
      refine fX12_next0_L76_ci (hS.le (by decide)) h17 ?_
      refine V_aload_n dX12_next0_103 rfl (xm 0 rfl) ?_
      refine V_aload_n dX12_next0_104 rfl (xm 0 rfl) ?_
      refine xbE h (fun r19 h18 h => ?_)
      refine T_callVI dX12_next0_105 ok_X12_word (by exact ⟨by decide, rfl⟩) lk_X12_143.1 lk_X12_143.2 (sk_94 hS (by decide)) (hV := ((fX12_word_c (hS.le (by decide)) h18).mono (by decide) (Nat.le_refl _) (Nat.le_refl _))) rfl (Nat.le_of_ble_eq_true rfl) rfl (Nat.le_of_ble_eq_true rfl) ?_
      refine T_putI (kI := 14) dX12_next0_108 fp_X12_137 (sk_94 hS (by decide)) rfl rfl h (fun M20 h => ?_)
      refine V_goto (tgt := 306) dX12_next0_111 (by decide) ?_
      exact V_ret dX12_next0_306 rfl (q_v h)
    · refine V_iload_n dX12_next0_114 rfl (xm 0 rfl) ?_
      refine T_callSI (host := "") dX12_next0_115 ok_X12_isDigit lk_X12_146.1 lk_X12_146.2 (hV := ((fX12_isDigit_c (hS.le (by decide)) rfl).mono (by decide) (Nat.le_refl _) (Nat.le_refl _))) rfl (Nat.le_of_ble_eq_true rfl) rfl (Nat.le_of_ble_eq_true rfl) ?_
      refine V_if_eqB (tgt := 214) dX12_next0_118 (by decide) h (fun _ h => ?_) (fun _ h => ?_)
      · refine V_aload_n dX12_next0_121 rfl (xm 1 rfl) ?_
        refine V_iconst dX12_next0_122 ?_
        refine T_putI (kI := 16) dX12_next0_123 fp_X12_149 (sk_94 hS (by decide)) rfl rfl h (fun M21 h => ?_)
        refine xbE h (fun M30 h31 h => ?_)
        refine V.pick [1] rfl ?_
        refine fX12_next0_L126_ci (hS.le (by decide)) h31 ?_
        refine V_aload_n dX12_next0_189 rfl (xm 0 rfl) ?_
        refine V_aload_n dX12_next0_190 rfl (xm 0 rfl) ?_
        refine V_getI (kI := 13) dX12_next0_191 fl_X12_86 (sk_94 hS (by decide)) rfl rfl ?_
        refine V_aload_n dX12_next0_194 rfl (xm 0 rfl) ?_
        refine V_getI (kI := 15) dX12_next0_195 fl_X12_89 (sk_94 hS (by decide)) rfl rfl ?_
        refine V_isub dX12_next0_198 ?_
        refine V_iconst dX12_next0_199 ?_
        refine xjE h (fun j33 hj33 h => ?_)
        have kj33 : ∀ (s32 : Int), j33 s32 = some E → V Y_X12_next0 7 0 0 208 [] [vI s32, vR (some 94)] S M30 (xqR S E none) := by
          intro s32 h
          rw [hj33] at h
          refine T_putI (kI := 14) dX12_next0_208 fp_X12_137 (sk_94 hS (by decide)) rfl rfl h (fun M34 h => ?_)
          refine V_goto (tgt := 306) dX12_next0_211 (by decide) ?_
          exact V_ret dX12_next0_306 rfl (q_v h)
        refine V_icmp_ge (tgt := 207) dX12_next0_200 (by decide) h (fun _ h => ?_) (fun _ h => ?_)
        · refine V_iconst dX12_next0_203 ?_
          refine V_goto (tgt := 208) dX12_next0_204 (by decide) ?_
          refine V.pick [] rfl ?_
          exact kj33 2 h
        · refine V_iconst dX12_next0_207 ?_
          refine V.pick [] rfl ?_
          exact kj33 1 h
      · refine V_aload_n dX12_next0_214 rfl (xm 1 rfl) ?_
        refine V_dup dX12_next0_215 rfl ?_
        refine V_getI (kI := 13) dX12_next0_216 fl_X12_86 (sk_94 hS (by decide)) rfl rfl ?_
        refine V_iconst dX12_next0_219 ?_
        refine V_iadd dX12_next0_220 ?_
        refine T_putI (kI := 13) dX12_next0_221 fp_X12_86 (sk_94 hS (by decide)) rfl rfl h (fun M35 h => ?_)
        refine V_iload_n dX12_next0_224 rfl (xm 0 rfl) ?_
        refine V_bipush dX12_next0_225 (by decide) ?_
        refine xjE h (fun j37 hj37 h => ?_)
        have kj37 : ∀ (s36 : Int), j37 s36 = some E → V Y_X12_next0 7 0 0 289 [(0, vR (some 94)), (1, vI r11)] [vI s36] S M35 (xqR S E none) := by
          intro s36 h
          rw [hj37] at h
          refine V_istore_n (ls' := [(2, vI s36), (0, vR (some 94)), (1, vI r11)]) dX12_next0_289 rfl (by decide) rfl ?_
          refine V_aload_n dX12_next0_290 rfl (xm 1 rfl) ?_
          refine V_iload_n dX12_next0_291 rfl (xm 0 rfl) ?_
          refine xjE h (fun j39 hj39 h => ?_)
          have kj39 : ∀ (s38 : Int), j39 s38 = some E → V Y_X12_next0 7 0 0 303 [] [vI s38, vR (some 94)] S M35 (xqR S E none) := by
            intro s38 h
            rw [hj39] at h
            refine T_putI (kI := 14) dX12_next0_303 fp_X12_137 (sk_94 hS (by decide)) rfl rfl h (fun M40 h => ?_)
            exact V_ret dX12_next0_306 rfl (q_v h)
          refine V_if_eq (tgt := 302) dX12_next0_292 (by decide) h (fun _ h => ?_) (fun _ h => ?_)
          · refine V_iconst dX12_next0_302 ?_
            refine V.pick [] rfl ?_
            exact kj39 1 h
          · refine V_bipush dX12_next0_295 (by decide) ?_
            refine V_iload_n dX12_next0_297 rfl (xm 2 rfl) ?_
            refine V_iadd dX12_next0_298 ?_
            refine V_goto (tgt := 303) dX12_next0_299 (by decide) ?_
            refine V.pick [] rfl ?_
            exact kj39 (100 + r11) h
        refine xjE h (fun j41 hj41 h => ?_)
        have kj41 : ∀ (u : Unit), j41 u = some E → V Y_X12_next0 7 0 0 284 [(0, vR (some 94)), (1, vI r11)] [] S M35 (xqR S E none) := by
          intro u h
          rw [hj41] at h
          refine V_iconst dX12_next0_284 ?_
          refine V_goto (tgt := 289) dX12_next0_285 (by decide) ?_
          refine V.pick [0, 1] rfl ?_
          exact kj37 1 h
        refine V_icmp_eq (tgt := 284) dX12_next0_227 (by decide) h (fun _ h => ?_) (fun _ h => ?_)
        · refine V.pick [1, 0] rfl ?_
          exact kj41 () h
        · refine V_iload_n dX12_next0_230 rfl (xm 0 rfl) ?_
          refine V_bipush dX12_next0_231 (by decide) ?_
          refine V_icmp_eq (tgt := 284) dX12_next0_233 (by decide) h (fun _ h => ?_) (fun _ h => ?_)
          · refine V.pick [1, 0] rfl ?_
            exact kj41 () h
          · refine V_iload_n dX12_next0_236 rfl (xm 0 rfl) ?_
            refine V_bipush dX12_next0_237 (by decide) ?_
            refine V_icmp_eq (tgt := 284) dX12_next0_239 (by decide) h (fun _ h => ?_) (fun _ h => ?_)
            · refine V.pick [1, 0] rfl ?_
              exact kj41 () h
            · refine V_iload_n dX12_next0_242 rfl (xm 0 rfl) ?_
              refine V_bipush dX12_next0_243 (by decide) ?_
              refine V_icmp_eq (tgt := 284) dX12_next0_245 (by decide) h (fun _ h => ?_) (fun _ h => ?_)
              · refine V.pick [1, 0] rfl ?_
                exact kj41 () h
              · refine V_iload_n dX12_next0_248 rfl (xm 0 rfl) ?_
                refine V_bipush dX12_next0_249 (by decide) ?_
                refine V_icmp_eq (tgt := 284) dX12_next0_251 (by decide) h (fun _ h => ?_) (fun _ h => ?_)
                · refine V.pick [1, 0] rfl ?_
                  exact kj41 () h
                · refine V_iload_n dX12_next0_254 rfl (xm 0 rfl) ?_
                  refine V_bipush dX12_next0_255 (by decide) ?_
                  refine V_icmp_eq (tgt := 284) dX12_next0_257 (by decide) h (fun _ h => ?_) (fun _ h => ?_)
                  · refine V.pick [1, 0] rfl ?_
                    exact kj41 () h
                  · refine V_iload_n dX12_next0_260 rfl (xm 0 rfl) ?_
                    refine V_bipush dX12_next0_261 (by decide) ?_
                    refine V_icmp_eq (tgt := 284) dX12_next0_263 (by decide) h (fun _ h => ?_) (fun _ h => ?_)
                    · refine V.pick [1, 0] rfl ?_
                      exact kj41 () h
                    · refine V_iload_n dX12_next0_266 rfl (xm 0 rfl) ?_
                      refine V_bipush dX12_next0_267 (by decide) ?_
                      refine V_icmp_eq (tgt := 284) dX12_next0_269 (by decide) h (fun _ h => ?_) (fun _ h => ?_)
                      · refine V.pick [1, 0] rfl ?_
                        exact kj41 () h
                      · refine V_iload_n dX12_next0_272 rfl (xm 0 rfl) ?_
                        refine V_bipush dX12_next0_273 (by decide) ?_
                        refine V_icmp_eq (tgt := 284) dX12_next0_275 (by decide) h (fun _ h => ?_) (fun _ h => ?_)
                        · refine V.pick [1, 0] rfl ?_
                          exact kj41 () h
                        · refine V_iload_n dX12_next0_278 rfl (xm 0 rfl) ?_
                          refine V_bipush dX12_next0_279 (by decide) ?_
                          refine V_icmp_ne (tgt := 288) dX12_next0_281 (by decide) h (fun _ h => ?_) (fun _ h => ?_)
                          · refine V.pick [1, 0] rfl ?_
                            exact kj41 () h
                          · refine V_iconst dX12_next0_288 ?_
                            refine V.pick [1, 0] rfl ?_
                            exact kj37 0 h
