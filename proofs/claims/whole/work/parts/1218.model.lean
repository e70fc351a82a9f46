def fX11_promise (M : xM) (v1 : Int) (v2 : Int) (v3 : Int) (v4 : Int) : Option (Int × xM) := (if (fX4_has M v1) = true then (if (fX11_isTurn v2) = true then (if (fX11_isSpan v3 v4) = true then (xb (fX5_mayTake M v1) fun r2 => (if r2 = true then (xb (fX0_forget M) fun M4 => xb2 (fX5_take M4 v1 v2 v3 v4) fun r6 M7 => some (r6, M7)) else some ((-1), M))) else some ((-1), M)) else some ((-1), M)) else some ((-1), M))
set_option maxRecDepth 20000 in
set_option maxHeartbeats 1000000 in
theorem fX11_promise_c {S : xS} {kp : Option Nat} (hS : xSk kp 94 S) {M : xM} {v1 : Int} {v2 : Int} {v3 : Int} {v4 : Int} {E : Int × xM} (h : fX11_promise M v1 v2 v3 v4 = some E) :
    V Y_X11_promise 3 0 0 0 (xarg 0 [vR (some 0), vI v1, vI v2, vI v3, vI v4]) [] S M (xqR S E.2 (some (vI E.1))) := by
  unfold fX11_promise at h
  show V Y_X11_promise 3 0 0 0 [(0, vR (some 0)), (1, vI v1), (2, vI v2), (3, vI v3), (4, vI v4)] [] S M _
  refine V_aload_n dX11_promise_0 rfl (xm 0 rfl) ?_
  refine V_getR dX11_promise_1 fl_X11_12 (sk_0 hS (by decide)) rfl ?_
  refine V_getR dX11_promise_4 fl_X11_82 (sk_1 hS (by decide)) rfl ?_
  refine V_iload_n dX11_promise_7 rfl (xm 1 rfl) ?_
  refine T_callVI dX11_promise_8 ok_X4_has (by exact ⟨by decide, rfl⟩) lk_X11_145.1 lk_X11_145.2 (sk_5 hS (by decide)) (hV := ((fX4_has_c (hS.le (by decide)) rfl).mono (by decide) (Nat.le_refl _) (Nat.le_refl _))) rfl (Nat.le_of_ble_eq_true rfl) rfl (Nat.le_of_ble_eq_true rfl) ?_
  refine V_if_eqB (tgt := 44) dX11_promise_11 (by decide) h (fun _ h => ?_) (fun _ h => ?_)
  · refine V_iload_n dX11_promise_14 rfl (xm 2 rfl) ?_
    refine T_callSI (host := "") dX11_promise_15 ok_X11_isTurn lk_X11_148.1 lk_X11_148.2 (hV := ((fX11_isTurn_c (hS.le (by decide)) rfl).mono (by decide) (Nat.le_refl _) (Nat.le_refl _))) rfl (Nat.le_of_ble_eq_true rfl) rfl (Nat.le_of_ble_eq_true rfl) ?_
    refine V_if_eqB (tgt := 44) dX11_promise_18 (by decide) h (fun _ h => ?_) (fun _ h => ?_)
    · refine V_iload_n dX11_promise_21 rfl (xm 3 rfl) ?_
      refine V_iload dX11_promise_22 (xm 4 rfl) ?_
      refine T_callSI (host := "") dX11_promise_24 ok_X11_isSpan lk_X11_156.1 lk_X11_156.2 (hV := ((fX11_isSpan_c (hS.le (by decide)) rfl).mono (by decide) (Nat.le_refl _) (Nat.le_refl _))) rfl (Nat.le_of_ble_eq_true rfl) rfl (Nat.le_of_ble_eq_true rfl) ?_
      refine V_if_eqB (tgt := 44) dX11_promise_27 (by decide) h (fun _ h => ?_) (fun _ h => ?_)
      · refine V_aload_n dX11_promise_30 rfl (xm 0 rfl) ?_
        refine V_getR dX11_promise_31 fl_X11_12 (sk_0 hS (by decide)) rfl ?_
        refine V_getR dX11_promise_34 fl_X11_175 (sk_1 hS (by decide)) rfl ?_
        refine V_iload_n dX11_promise_37 rfl (xm 1 rfl) ?_
        refine xbE h (fun r2 h1 h => ?_)
        refine T_callVI dX11_promise_38 ok_X5_mayTake (by exact ⟨by decide, rfl⟩) lk_X11_179.1 lk_X11_179.2 (sk_17 hS (by decide)) (hV := ((fX5_mayTake_c (hS.le (by decide)) h1).mono (by decide) (Nat.le_refl _) (Nat.le_refl _))) rfl (Nat.le_of_ble_eq_true rfl) rfl (Nat.le_of_ble_eq_true rfl) ?_
        refine V_if_neB (tgt := 46) dX11_promise_41 (by decide) h (fun _ h => ?_) (fun _ h => ?_)
        · refine V_aload_n dX11_promise_46 rfl (xm 0 rfl) ?_
          refine V_getR dX11_promise_47 fl_X11_53 (sk_0 hS (by decide)) rfl ?_
          refine xbE h (fun M4 h3 h => ?_)
          refine T_callVv dX11_promise_50 ok_X0_forget (by exact ⟨by decide, rfl⟩) lk_X11_67.1 lk_X11_67.2 (sk_79 hS (by decide)) (hV := ((fX0_forget_c (hS.le (by decide)) h3).mono (by decide) (Nat.le_refl _) (Nat.le_refl _))) rfl (Nat.le_of_ble_eq_true rfl) rfl (Nat.le_of_ble_eq_true rfl) ?_
          refine V_aload_n dX11_promise_53 rfl (xm 0 rfl) ?_
          refine V_getR dX11_promise_54 fl_X11_12 (sk_0 hS (by decide)) rfl ?_
          refine V_getR dX11_promise_57 fl_X11_175 (sk_1 hS (by decide)) rfl ?_
          refine V_iload_n dX11_promise_60 rfl (xm 1 rfl) ?_
          refine V_iload_n dX11_promise_61 rfl (xm 2 rfl) ?_
          refine V_iload_n dX11_promise_62 rfl (xm 3 rfl) ?_
          refine V_iload dX11_promise_63 (xm 4 rfl) ?_
          refine xb2E h (fun r6 M7 h5 h => ?_)
          refine T_callVI dX11_promise_65 ok_X5_take (by exact ⟨by decide, rfl⟩) lk_X11_183.1 lk_X11_183.2 (sk_17 hS (by decide)) (hV := ((fX5_take_c (hS.le (by decide)) h5).mono (by decide) (Nat.le_refl _) (Nat.le_refl _))) rfl (Nat.le_of_ble_eq_true rfl) rfl (Nat.le_of_ble_eq_true rfl) ?_
          exact V_ireti dX11_promise_68 rfl (q_wI h)
        · refine V_iconst dX11_promise_44 ?_
          exact V_ireti dX11_promise_45 rfl (q_wI h)
      · refine V_iconst dX11_promise_44 ?_
        exact V_ireti dX11_promise_45 rfl (q_wI h)
    · refine V_iconst dX11_promise_44 ?_
      exact V_ireti dX11_promise_45 rfl (q_wI h)
  · refine V_iconst dX11_promise_44 ?_
    exact V_ireti dX11_promise_45 rfl (q_wI h)
def fX5_stands (M : xM) (v1 : Int) : Bool := (if (fX11_within v1 0 ((M 17 0) - 1)) = true then (if wr (xand (xshr (M 17 2) v1) 1) = 0 then true else false) else false)
set_option maxRecDepth 20000 in
set_option maxHeartbeats 1000000 in
theorem fX5_stands_c {S : xS} {kp : Option Nat} (hS : xSk kp 18 S) {M : xM} {v1 : Int} {E : Bool} (h : fX5_stands M v1 = E) :
    V Y_X5_stands 1 0 0 0 (xarg 0 [vR (some 17), vI v1]) [] S M (xqR S M (some (vI (b2i E)))) := by
  unfold fX5_stands at h
  show V Y_X5_stands 1 0 0 0 [(0, vR (some 17)), (1, vI v1)] [] S M _
  refine V_iload_n dX5_stands_0 rfl (xm 1 rfl) ?_
  refine V_iconst dX5_stands_1 ?_
  refine V_aload_n dX5_stands_2 rfl (xm 0 rfl) ?_
  refine V_getI (kI := 0) dX5_stands_3 fl_X5_27 (sk_17 hS (by decide)) rfl rfl ?_
  refine V_iconst dX5_stands_6 ?_
  refine V_isub dX5_stands_7 ?_
  refine T_callSNI (host := "TurnedIsland") dX5_stands_8 ok_X11_within lk_X5_40.1 lk_X5_40.2 (hV := ((fX11_within_c (hS.le (by decide)) rfl).mono (by decide) (Nat.le_refl _) (Nat.le_refl _))) rfl (Nat.le_of_ble_eq_true rfl) rfl (Nat.le_of_ble_eq_true rfl) ?_
  refine V_if_eqB (tgt := 29) dX5_stands_11 (by decide) h (fun _ h => ?_) (fun _ h => ?_)
  · refine V_aload_n dX5_stands_14 rfl (xm 0 rfl) ?_
    refine V_getI (kI := 2) dX5_stands_15 fl_X5_31 (sk_17 hS (by decide)) rfl rfl ?_
    refine V_iload_n dX5_stands_18 rfl (xm 1 rfl) ?_
    refine V_ishr dX5_stands_19 ?_
    refine V_iconst dX5_stands_20 ?_
    refine V_iand dX5_stands_21 ?_
    refine V_if_ne (tgt := 29) dX5_stands_22 (by decide) h (fun _ h => ?_) (fun _ h => ?_)
    · refine V_iconst dX5_stands_25 ?_
      refine V_goto (tgt := 30) dX5_stands_26 (by decide) ?_
      exact V_iretb (b := true) dX5_stands_30 rfl (by decide) (q_tB h)
    · refine V_iconst dX5_stands_29 ?_
      exact V_iretb (b := false) dX5_stands_30 rfl (by decide) (q_tB h)
  · refine V_iconst dX5_stands_29 ?_
    exact V_iretb (b := false) dX5_stands_30 rfl (by decide) (q_tB h)
def fX5_release (M : xM) (v1 : Int) : Option xM := xlet (xup M 17 2 (xor_ (M 17 2) (xshl 1 v1))) fun M1 => some M1
set_option maxRecDepth 20000 in
set_option maxHeartbeats 1000000 in
theorem fX5_release_c {S : xS} {kp : Option Nat} (hS : xSk kp 18 S) {M : xM} {v1 : Int} {E : xM} (h : fX5_release M v1 = some E) :
    V Y_X5_release 0 0 0 0 (xarg 0 [vR (some 17), vI v1]) [] S M (xqR S E none) := by
  unfold fX5_release at h
  show V Y_X5_release 0 0 0 0 [(0, vR (some 17)), (1, vI v1)] [] S M _
  refine V_aload_n dX5_release_0 rfl (xm 0 rfl) ?_
  refine V_dup dX5_release_1 rfl ?_
  refine V_getI (kI := 2) dX5_release_2 fl_X5_31 (sk_17 hS (by decide)) rfl rfl ?_
  refine V_iconst dX5_release_5 ?_
  refine V_iload_n dX5_release_6 rfl (xm 1 rfl) ?_
  refine V_ishl dX5_release_7 ?_
  refine V_ior dX5_release_8 ?_
  refine T_putI (kI := 2) dX5_release_9 fp_X5_31 (sk_17 hS (by decide)) rfl rfl h (fun M1 h => ?_)
  exact V_ret dX5_release_12 rfl (q_v h)
def fX11_drop (M : xM) (v1 : Int) : Option (Bool × xM) := (if (fX5_stands M v1) = true then (xb (fX5_release M v1) fun M2 => xb (fX0_forget M2) fun M4 => some (true, M4)) else some (false, M))
set_option maxRecDepth 20000 in
set_option maxHeartbeats 1000000 in
theorem fX11_drop_c {S : xS} {kp : Option Nat} (hS : xSk kp 94 S) {M : xM} {v1 : Int} {E : Bool × xM} (h : fX11_drop M v1 = some E) :
    V Y_X11_drop 2 0 0 0 (xarg 0 [vR (some 0), vI v1]) [] S M (xqR S E.2 (some (vI (b2i E.1)))) := by
  unfold fX11_drop at h
  show V Y_X11_drop 2 0 0 0 [(0, vR (some 0)), (1, vI v1)] [] S M _
  refine V_aload_n dX11_drop_0 rfl (xm 0 rfl) ?_
  refine V_getR dX11_drop_1 fl_X11_12 (sk_0 hS (by decide)) rfl ?_
  refine V_getR dX11_drop_4 fl_X11_175 (sk_1 hS (by decide)) rfl ?_
  refine V_iload_n dX11_drop_7 rfl (xm 1 rfl) ?_
  refine T_callVI dX11_drop_8 ok_X5_stands (by exact ⟨by decide, rfl⟩) lk_X11_185.1 lk_X11_185.2 (sk_17 hS (by decide)) (hV := ((fX5_stands_c (hS.le (by decide)) rfl).mono (by decide) (Nat.le_refl _) (Nat.le_refl _))) rfl (Nat.le_of_ble_eq_true rfl) rfl (Nat.le_of_ble_eq_true rfl) ?_
  refine V_if_neB (tgt := 16) dX11_drop_11 (by decide) h (fun _ h => ?_) (fun _ h => ?_)
  · refine V_aload_n dX11_drop_16 rfl (xm 0 rfl) ?_
    refine V_getR dX11_drop_17 fl_X11_12 (sk_0 hS (by decide)) rfl ?_
    refine V_getR dX11_drop_20 fl_X11_175 (sk_1 hS (by decide)) rfl ?_
    refine V_iload_n dX11_drop_23 rfl (xm 1 rfl) ?_
    refine xbE h (fun M2 h1 h => ?_)
    refine T_callVv dX11_drop_24 ok_X5_release (by exact ⟨by decide, rfl⟩) lk_X11_188.1 lk_X11_188.2 (sk_17 hS (by decide)) (hV := ((fX5_release_c (hS.le (by decide)) h1).mono (by decide) (Nat.le_refl _) (Nat.le_refl _))) rfl (Nat.le_of_ble_eq_true rfl) rfl (Nat.le_of_ble_eq_true rfl) ?_
    refine V_aload_n dX11_drop_27 rfl (xm 0 rfl) ?_
    refine V_getR dX11_drop_28 fl_X11_53 (sk_0 hS (by decide)) rfl ?_
    refine xbE h (fun M4 h3 h => ?_)
    refine T_callVv dX11_drop_31 ok_X0_forget (by exact ⟨by decide, rfl⟩) lk_X11_67.1 lk_X11_67.2 (sk_79 hS (by decide)) (hV := ((fX0_forget_c (hS.le (by decide)) h3).mono (by decide) (Nat.le_refl _) (Nat.le_refl _))) rfl (Nat.le_of_ble_eq_true rfl) rfl (Nat.le_of_ble_eq_true rfl) ?_
    refine V_iconst dX11_drop_34 ?_
    exact V_iretb (b := true) dX11_drop_35 rfl (by decide) (q_wB h)
  · refine V_iconst dX11_drop_14 ?_
    exact V_iretb (b := false) dX11_drop_15 rfl (by decide) (q_wB h)
def fX6_buyerOn_L2 (n : Nat) (M : xM) (v1 : Int) (v2 : Int) (v3 : Int) : Option ((Unit) ⊕ (Int)) := match n with
  | 0 => none
  | n + 1 => (if wr v3 < wr (M 12 0) then (xrd M 13 60 v3 fun r1 => (if wr r1 = wr v1 then (xrd M 15 60 v3 fun r2 => (if wr v2 < wr r2 then fX6_buyerOn_L2 n M v1 v2 (v3 + 1) else (xrd M 16 60 v3 fun r3 => (if wr r3 < wr v2 then fX6_buyerOn_L2 n M v1 v2 (v3 + 1) else (xrd M 14 60 v3 fun r4 => some (.inr r4)))))) else fX6_buyerOn_L2 n M v1 v2 (v3 + 1))) else some (.inl ()))
set_option maxRecDepth 20000 in
set_option maxHeartbeats 1000000 in
theorem fX6_buyerOn_L2_c {S : xS} {kp : Option Nat} (hS : xSk kp 17 S) {Q : Option xV → xS → xM → Prop} :
    ∀ (n : Nat) (M : xM) (v1 : Int) (v2 : Int) (v3 : Int) {E : (Unit) ⊕ (Int)}, fX6_buyerOn_L2 n M v1 v2 v3 = some E → (E = .inl () → V Y_X6_buyerOn 0 0 0 53 [] [] S M Q) → (∀ (w : Int), E = .inr w → Q (some (vI w)) S M) → V Y_X6_buyerOn 0 0 0 2 [(0, vR (some 12)), (1, vI v1), (2, vI v2), (3, vI v3)] [] S M Q := by
  intro n
  induction n with
  | zero =>
    intro M v1 v2 v3 E h k kr
    cases h
  | succ n ih =>
    intro M v1 v2 v3 E h k kr
    rw [fX6_buyerOn_L2] at h
    refine V_iload_n dX6_buyerOn_2 rfl (xm 3 rfl) ?_
    refine V_aload_n dX6_buyerOn_3 rfl (xm 0 rfl) ?_
    refine V_getI (kI := 0) dX6_buyerOn_4 fl_X6_24 (sk_12 hS (by decide)) rfl rfl ?_
    refine V_icmp_ge (tgt := 53) dX6_buyerOn_7 (by decide) h (fun _ h => ?_) (fun _ h => ?_)
    · refine V_aload_n dX6_buyerOn_10 rfl (xm 0 rfl) ?_
      refine V_getR dX6_buyerOn_11 fl_X6_11 (sk_12 hS (by decide)) rfl ?_
      refine V_iload_n dX6_buyerOn_14 rfl (xm 3 rfl) ?_
      refine T_iald dX6_buyerOn_15 (sk_13 hS (by decide)) rfl h (fun r1 h => ?_)
      refine V_iload_n dX6_buyerOn_16 rfl (xm 1 rfl) ?_
      refine V_icmp_ne (tgt := 47) dX6_buyerOn_17 (by decide) h (fun _ h => ?_) (fun _ h => ?_)
      · refine V_aload_n dX6_buyerOn_20 rfl (xm 0 rfl) ?_
        refine V_getR dX6_buyerOn_21 fl_X6_18 (sk_12 hS (by decide)) rfl ?_
        refine V_iload_n dX6_buyerOn_24 rfl (xm 3 rfl) ?_
        refine T_iald dX6_buyerOn_25 (sk_15 hS (by decide)) rfl h (fun r2 h => ?_)
        refine V_iload_n dX6_buyerOn_26 rfl (xm 2 rfl) ?_
        refine V_icmp_gt (tgt := 47) dX6_buyerOn_27 (by decide) h (fun _ h => ?_) (fun _ h => ?_)
        · refine V_iinc (ls' := [(3, vI (v3 + 1)), (0, vR (some 12)), (1, vI v1), (2, vI v2)]) dX6_buyerOn_47 (xm 3 rfl) (by decide) rfl ?_
          refine V_goto (tgt := 2) dX6_buyerOn_50 (by decide) ?_
          refine V.pick [1, 2, 3, 0] rfl ?_
          exact ih M v1 v2 (v3 + 1) h k kr
        · refine V_iload_n dX6_buyerOn_30 rfl (xm 2 rfl) ?_
          refine V_aload_n dX6_buyerOn_31 rfl (xm 0 rfl) ?_
          refine V_getR dX6_buyerOn_32 fl_X6_21 (sk_12 hS (by decide)) rfl ?_
          refine V_iload_n dX6_buyerOn_35 rfl (xm 3 rfl) ?_
          refine T_iald dX6_buyerOn_36 (sk_16 hS (by decide)) rfl h (fun r3 h => ?_)
          refine V_icmp_gt (tgt := 47) dX6_buyerOn_37 (by decide) h (fun _ h => ?_) (fun _ h => ?_)
          · refine V_iinc (ls' := [(3, vI (v3 + 1)), (0, vR (some 12)), (1, vI v1), (2, vI v2)]) dX6_buyerOn_47 (xm 3 rfl) (by decide) rfl ?_
            refine V_goto (tgt := 2) dX6_buyerOn_50 (by decide) ?_
            refine V.pick [1, 2, 3, 0] rfl ?_
            exact ih M v1 v2 (v3 + 1) h k kr
          · refine V_aload_n dX6_buyerOn_40 rfl (xm 0 rfl) ?_
            refine V_getR dX6_buyerOn_41 fl_X6_15 (sk_12 hS (by decide)) rfl ?_
            refine V_iload_n dX6_buyerOn_44 rfl (xm 3 rfl) ?_
            refine T_iald dX6_buyerOn_45 (sk_14 hS (by decide)) rfl h (fun r4 h => ?_)
            exact V_ireti dX6_buyerOn_46 rfl (kr r4 (Option.some.inj h).symm)
      · refine V_iinc (ls' := [(3, vI (v3 + 1)), (0, vR (some 12)), (1, vI v1), (2, vI v2)]) dX6_buyerOn_47 (xm 3 rfl) (by decide) rfl ?_
        refine V_goto (tgt := 2) dX6_buyerOn_50 (by decide) ?_
        refine V.pick [1, 2, 3, 0] rfl ?_
        exact ih M v1 v2 (v3 + 1) h k kr
    · refine V.pick [] rfl ?_
      exact k  (Option.some.inj h).symm
theorem fX6_buyerOn_L2_ci {S : xS} {kp : Option Nat} (hS : xSk kp 17 S) {Q : Option xV → xS → xM → Prop} {n : Nat} {M : xM} {v1 : Int} {v2 : Int} {v3 : Int} (hl : fX6_buyerOn_L2 n M v1 v2 v3 = some (.inl ())) (k : V Y_X6_buyerOn 0 0 0 53 [] [] S M Q) : V Y_X6_buyerOn 0 0 0 2 [(0, vR (some 12)), (1, vI v1), (2, vI v2), (3, vI v3)] [] S M Q := fX6_buyerOn_L2_c hS _ _ _ _ _ hl (fun  e => by cases e; exact k) (fun _ e => by cases e)
theorem fX6_buyerOn_L2_cr {S : xS} {kp : Option Nat} (hS : xSk kp 17 S) {Q : Option xV → xS → xM → Prop} {n : Nat} {M : xM} {v1 : Int} {v2 : Int} {v3 : Int} {w : Int} (hl : fX6_buyerOn_L2 n M v1 v2 v3 = some (.inr w)) (k : Q (some (vI w)) S M) : V Y_X6_buyerOn 0 0 0 2 [(0, vR (some 12)), (1, vI v1), (2, vI v2), (3, vI v3)] [] S M Q := fX6_buyerOn_L2_c hS _ _ _ _ _ hl (fun  e => by cases e) (fun _ e => by cases e; exact k)
def fX6_buyerOn (M : xM) (v1 : Int) (v2 : Int) : Option Int := xs0 (fX6_buyerOn_L2 xfuel M v1 v2 0) (some ((-1))) (fun r => some r)
set_option maxRecDepth 20000 in
set_option maxHeartbeats 1000000 in
theorem fX6_buyerOn_c {S : xS} {kp : Option Nat} (hS : xSk kp 17 S) {M : xM} {v1 : Int} {v2 : Int} {E : Int} (h : fX6_buyerOn M v1 v2 = some E) :
    V Y_X6_buyerOn 0 0 0 0 (xarg 0 [vR (some 12), vI v1, vI v2]) [] S M (xqR S M (some (vI E))) := by
  unfold fX6_buyerOn at h
  show V Y_X6_buyerOn 0 0 0 0 [(0, vR (some 12)), (1, vI v1), (2, vI v2)] [] S M _
  refine V_iconst dX6_buyerOn_0 ?_
  refine V_istore_n (ls' := [(3, vI 0), (0, vR (some 12)), (1, vI v1), (2, vI v2)]) dX6_buyerOn_1 rfl (by decide) rfl ?_
  refine xs0E h (fun  h5 h => ?_) (fun r h5 h => ?_)
  · refine V.pick [1, 2, 3, 0] rfl ?_
    refine fX6_buyerOn_L2_ci (hS.le (by decide)) h5 ?_
    refine V_iconst dX6_buyerOn_53 ?_
    exact V_ireti dX6_buyerOn_54 rfl (q_pI h)
  · refine V.pick [1, 2, 3, 0] rfl ?_
    refine fX6_buyerOn_L2_cr (hS.le (by decide)) h5 ?_
    exact q_pI h
def fX1_holderOn (M : xM) (v1 : Int) (v2 : Int) : Option Int := xb (fX6_buyerOn M v1 v2) fun r2 => (if wr r2 = wr ((-1)) then some v1 else some r2)
set_option maxRecDepth 20000 in
set_option maxHeartbeats 1000000 in
theorem fX1_holderOn_c {S : xS} {kp : Option Nat} (hS : xSk kp 17 S) {M : xM} {v1 : Int} {v2 : Int} {E : Int} (h : fX1_holderOn M v1 v2 = some E) :
    V Y_X1_holderOn 1 0 0 0 (xarg 0 [vR (some 1), vI v1, vI v2]) [] S M (xqR S M (some (vI E))) := by
  unfold fX1_holderOn at h
  show V Y_X1_holderOn 1 0 0 0 [(0, vR (some 1)), (1, vI v1), (2, vI v2)] [] S M _
  refine V_aload_n dX1_holderOn_0 rfl (xm 0 rfl) ?_
  refine V_getR dX1_holderOn_1 fl_X1_33 (sk_1 hS (by decide)) rfl ?_
  refine V_iload_n dX1_holderOn_4 rfl (xm 1 rfl) ?_
  refine V_iload_n dX1_holderOn_5 rfl (xm 2 rfl) ?_
  refine xbE h (fun r2 h1 h => ?_)
  refine T_callVI dX1_holderOn_6 ok_X6_buyerOn (by exact ⟨by decide, rfl⟩) lk_X1_130.1 lk_X1_130.2 (sk_12 hS (by decide)) (hV := ((fX6_buyerOn_c (hS.le (by decide)) h1).mono (by decide) (Nat.le_refl _) (Nat.le_refl _))) rfl (Nat.le_of_ble_eq_true rfl) rfl (Nat.le_of_ble_eq_true rfl) ?_
  refine V_istore_n (ls' := [(3, vI r2), (0, vR (some 1)), (1, vI v1), (2, vI v2)]) dX1_holderOn_9 rfl (by decide) rfl ?_
  refine V_iload_n dX1_holderOn_10 rfl (xm 0 rfl) ?_
  refine V_iconst dX1_holderOn_11 ?_
  refine V_icmp_ne (tgt := 19) dX1_holderOn_12 (by decide) h (fun _ h => ?_) (fun _ h => ?_)
  · refine V_iload_n dX1_holderOn_15 rfl (xm 2 rfl) ?_
    refine V_goto (tgt := 20) dX1_holderOn_16 (by decide) ?_
    exact V_ireti dX1_holderOn_20 rfl (q_pI h)
  · refine V_iload_n dX1_holderOn_19 rfl (xm 0 rfl) ?_
    exact V_ireti dX1_holderOn_20 rfl (q_pI h)
def fX5_firstOn_L2 (n : Nat) (M : xM) (v1 : Int) (v2 : Int) (v3 : Int) : Option ((Unit) ⊕ (Int)) := match n with
  | 0 => none
  | n + 1 => (if wr v3 < wr (M 17 0) then (xrd M 19 24 v3 fun r1 => (if wr r1 = wr v1 then (if (fX5_stands M v3) = true then (xrd M 20 24 v3 fun r2 => (if wr v2 < wr r2 then fX5_firstOn_L2 n M v1 v2 (v3 + 1) else (xrd M 21 24 v3 fun r3 => (if wr r3 < wr v2 then fX5_firstOn_L2 n M v1 v2 (v3 + 1) else some (.inr v3))))) else fX5_firstOn_L2 n M v1 v2 (v3 + 1)) else fX5_firstOn_L2 n M v1 v2 (v3 + 1))) else some (.inl ()))
set_option maxRecDepth 20000 in
set_option maxHeartbeats 1000000 in
theorem fX5_firstOn_L2_c {S : xS} {kp : Option Nat} (hS : xSk kp 22 S) {Q : Option xV → xS → xM → Prop} :
    ∀ (n : Nat) (M : xM) (v1 : Int) (v2 : Int) (v3 : Int) {E : (Unit) ⊕ (Int)}, fX5_firstOn_L2 n M v1 v2 v3 = some E → (E = .inl () → V Y_X5_firstOn 2 0 0 56 [] [] S M Q) → (∀ (w : Int), E = .inr w → Q (some (vI w)) S M) → V Y_X5_firstOn 2 0 0 2 [(0, vR (some 17)), (1, vI v1), (2, vI v2), (3, vI v3)] [] S M Q := by
  intro n
  induction n with
  | zero =>
    intro M v1 v2 v3 E h k kr
    cases h
  | succ n ih =>
    intro M v1 v2 v3 E h k kr
    rw [fX5_firstOn_L2] at h
    refine V_iload_n dX5_firstOn_2 rfl (xm 3 rfl) ?_
    refine V_aload_n dX5_firstOn_3 rfl (xm 0 rfl) ?_
    refine V_getI (kI := 0) dX5_firstOn_4 fl_X5_27 (sk_17 hS (by decide)) rfl rfl ?_
    refine V_icmp_ge (tgt := 56) dX5_firstOn_7 (by decide) h (fun _ h => ?_) (fun _ h => ?_)
    · refine V_aload_n dX5_firstOn_10 rfl (xm 0 rfl) ?_
      refine V_getR dX5_firstOn_11 fl_X5_15 (sk_17 hS (by decide)) rfl ?_
      refine V_iload_n dX5_firstOn_14 rfl (xm 3 rfl) ?_
      refine T_iald dX5_firstOn_15 (sk_19 hS (by decide)) rfl h (fun r1 h => ?_)
      refine V_iload_n dX5_firstOn_16 rfl (xm 1 rfl) ?_
      refine V_icmp_ne (tgt := 50) dX5_firstOn_17 (by decide) h (fun _ h => ?_) (fun _ h => ?_)
      · refine V_aload_n dX5_firstOn_20 rfl (xm 0 rfl) ?_
        refine V_iload_n dX5_firstOn_21 rfl (xm 3 rfl) ?_
        refine T_callVI dX5_firstOn_22 ok_X5_stands (by exact ⟨by decide, rfl⟩) lk_X5_44.1 lk_X5_44.2 (sk_17 hS (by decide)) (hV := ((fX5_stands_c (hS.le (by decide)) rfl).mono (by decide) (Nat.le_refl _) (Nat.le_refl _))) rfl (Nat.le_of_ble_eq_true rfl) rfl (Nat.le_of_ble_eq_true rfl) ?_
        refine V_if_eqB (tgt := 50) dX5_firstOn_25 (by decide) h (fun _ h => ?_) (fun _ h => ?_)
        · refine V_aload_n dX5_firstOn_28 rfl (xm 0 rfl) ?_
          refine V_getR dX5_firstOn_29 fl_X5_18 (sk_17 hS (by decide)) rfl ?_
          refine V_iload_n dX5_firstOn_32 rfl (xm 3 rfl) ?_
          refine T_iald dX5_firstOn_33 (sk_20 hS (by decide)) rfl h (fun r2 h => ?_)
          refine V_iload_n dX5_firstOn_34 rfl (xm 2 rfl) ?_
          refine V_icmp_gt (tgt := 50) dX5_firstOn_35 (by decide) h (fun _ h => ?_) (fun _ h => ?_)
          · refine V_iinc (ls' := [(3, vI (v3 + 1)), (0, vR (some 17)), (1, vI v1), (2, vI v2)]) dX5_firstOn_50 (xm 3 rfl) (by decide) rfl ?_
            refine V_goto (tgt := 2) dX5_firstOn_53 (by decide) ?_
            refine V.pick [1, 2, 3, 0] rfl ?_
            exact ih M v1 v2 (v3 + 1) h k kr
          · refine V_iload_n dX5_firstOn_38 rfl (xm 2 rfl) ?_
            refine V_aload_n dX5_firstOn_39 rfl (xm 0 rfl) ?_
            refine V_getR dX5_firstOn_40 fl_X5_21 (sk_17 hS (by decide)) rfl ?_
            refine V_iload_n dX5_firstOn_43 rfl (xm 3 rfl) ?_
            refine T_iald dX5_firstOn_44 (sk_21 hS (by decide)) rfl h (fun r3 h => ?_)
            refine V_icmp_gt (tgt := 50) dX5_firstOn_45 (by decide) h (fun _ h => ?_) (fun _ h => ?_)
            · refine V_iinc (ls' := [(3, vI (v3 + 1)), (0, vR (some 17)), (1, vI v1), (2, vI v2)]) dX5_firstOn_50 (xm 3 rfl) (by decide) rfl ?_
              refine V_goto (tgt := 2) dX5_firstOn_53 (by decide) ?_
              refine V.pick [1, 2, 3, 0] rfl ?_
              exact ih M v1 v2 (v3 + 1) h k kr
            · refine V_iload_n dX5_firstOn_48 rfl (xm 3 rfl) ?_
              exact V_ireti dX5_firstOn_49 rfl (kr v3 (Option.some.inj h).symm)
        · refine V_iinc (ls' := [(3, vI (v3 + 1)), (0, vR (some 17)), (1, vI v1), (2, vI v2)]) dX5_firstOn_50 (xm 3 rfl) (by decide) rfl ?_
          refine V_goto (tgt := 2) dX5_firstOn_53 (by decide) ?_
          refine V.pick [1, 2, 3, 0] rfl ?_
          exact ih M v1 v2 (v3 + 1) h k kr
      · refine V_iinc (ls' := [(3, vI (v3 + 1)), (0, vR (some 17)), (1, vI v1), (2, vI v2)]) dX5_firstOn_50 (xm 3 rfl) (by decide) rfl ?_
        refine V_goto (tgt := 2) dX5_firstOn_53 (by decide) ?_
        refine V.pick [1, 2, 3, 0] rfl ?_
        exact ih M v1 v2 (v3 + 1) h k kr
    · refine V.pick [] rfl ?_
      exact k  (Option.some.inj h).symm
theorem fX5_firstOn_L2_ci {S : xS} {kp : Option Nat} (hS : xSk kp 22 S) {Q : Option xV → xS → xM → Prop} {n : Nat} {M : xM} {v1 : Int} {v2 : Int} {v3 : Int} (hl : fX5_firstOn_L2 n M v1 v2 v3 = some (.inl ())) (k : V Y_X5_firstOn 2 0 0 56 [] [] S M Q) : V Y_X5_firstOn 2 0 0 2 [(0, vR (some 17)), (1, vI v1), (2, vI v2), (3, vI v3)] [] S M Q := fX5_firstOn_L2_c hS _ _ _ _ _ hl (fun  e => by cases e; exact k) (fun _ e => by cases e)
theorem fX5_firstOn_L2_cr {S : xS} {kp : Option Nat} (hS : xSk kp 22 S) {Q : Option xV → xS → xM → Prop} {n : Nat} {M : xM} {v1 : Int} {v2 : Int} {v3 : Int} {w : Int} (hl : fX5_firstOn_L2 n M v1 v2 v3 = some (.inr w)) (k : Q (some (vI w)) S M) : V Y_X5_firstOn 2 0 0 2 [(0, vR (some 17)), (1, vI v1), (2, vI v2), (3, vI v3)] [] S M Q := fX5_firstOn_L2_c hS _ _ _ _ _ hl (fun  e => by cases e) (fun _ e => by cases e; exact k)
def fX5_firstOn (M : xM) (v1 : Int) (v2 : Int) : Option Int := xs0 (fX5_firstOn_L2 xfuel M v1 v2 0) (some ((-1))) (fun r => some r)
set_option maxRecDepth 20000 in
set_option maxHeartbeats 1000000 in
theorem fX5_firstOn_c {S : xS} {kp : Option Nat} (hS : xSk kp 22 S) {M : xM} {v1 : Int} {v2 : Int} {E : Int} (h : fX5_firstOn M v1 v2 = some E) :
    V Y_X5_firstOn 2 0 0 0 (xarg 0 [vR (some 17), vI v1, vI v2]) [] S M (xqR S M (some (vI E))) := by
  unfold fX5_firstOn at h
  show V Y_X5_firstOn 2 0 0 0 [(0, vR (some 17)), (1, vI v1), (2, vI v2)] [] S M _
  refine V_iconst dX5_firstOn_0 ?_
  refine V_istore_n (ls' := [(3, vI 0), (0, vR (some 17)), (1, vI v1), (2, vI v2)]) dX5_firstOn_1 rfl (by decide) rfl ?_
  refine xs0E h (fun  h4 h => ?_) (fun r h4 h => ?_)
  · refine V.pick [1, 2, 3, 0] rfl ?_
    refine fX5_firstOn_L2_ci (hS.le (by decide)) h4 ?_
    refine V_iconst dX5_firstOn_56 ?_
    exact V_ireti dX5_firstOn_57 rfl (q_pI h)
  · refine V.pick [1, 2, 3, 0] rfl ?_
    refine fX5_firstOn_L2_cr (hS.le (by decide)) h4 ?_
    exact q_pI h
def fX11_voteOf_L71 (n : Nat) (M : xM) (v1 : Int) (v3 : Int) (v4 : Int) (v5 : Int) : Option (Int × xM) := match n with
  | 0 => none
  | n + 1 => (if wr v5 < wr 3 then (xtb [0, 1, -1] 3 v5 fun r6 => xb (fX11_wrap ((M 1 1) + r6) (M 1 0)) fun r8 => xb2 (fX10_worthTo M v1 (M 1 2) r8 r6) fun r10 M11 => (if wr v4 < wr r10 then fX11_voteOf_L71 n M11 v1 r6 r10 (v5 + 1) else fX11_voteOf_L71 n M11 v1 v3 v4 (v5 + 1))) else some (v3, M))
set_option maxRecDepth 20000 in
set_option maxHeartbeats 1000000 in
theorem fX11_voteOf_L71_c {S : xS} {kp : Option Nat} (hS : xSk kp 94 S) {Q : Option xV → xS → xM → Prop} :
    ∀ (n : Nat) (M : xM) (v1 : Int) (v3 : Int) (v4 : Int) (v5 : Int) {x3 : Int} {Mz : xM}, fX11_voteOf_L71 n M v1 v3 v4 v5 = some (x3, Mz) → V Y_X11_voteOf 4 0 0 155 [(3, vI x3)] [] S Mz Q → V Y_X11_voteOf 4 0 0 71 [(0, vR (some 0)), (1, vI v1), (3, vI v3), (4, vI v4), (5, vI v5)] [] S M Q := by
  intro n
  induction n with
  | zero =>
    intro M v1 v3 v4 v5 x3 Mz h k
    cases h
  | succ n ih =>
    intro M v1 v3 v4 v5 x3 Mz h k
    rw [fX11_voteOf_L71] at h
    refine V_iload dX11_voteOf_71 (xm 4 rfl) ?_
    refine V_gets dX11_voteOf_73 (by decide +kernel : ("TurnedIsland", "ORDER", "[I", 1) ∈ xZR) (xsg4 117 rfl rfl) ?_
    refine V_tlen (tb := [0, 1, -1]) dX11_voteOf_76 (by decide +kernel) rfl ?_
    refine V_icmp_ge (tgt := 155) dX11_voteOf_77 (by decide) h (fun _ h => ?_) (fun _ h => ?_)
    · refine V_gets dX11_voteOf_80 (by decide +kernel : ("TurnedIsland", "ORDER", "[I", 1) ∈ xZR) (xsg4 117 rfl rfl) ?_
      refine V_iload dX11_voteOf_83 (xm 4 rfl) ?_
      refine T_tald (tb := [0, 1, -1]) dX11_voteOf_85 (by decide +kernel) rfl h (fun r6 h => ?_)
      refine V_istore (ls' := [(6, vI r6), (0, vR (some 0)), (1, vI v1), (3, vI v3), (4, vI v4), (5, vI v5)]) dX11_voteOf_86 (by decide) rfl ?_
      refine V_aload_n dX11_voteOf_88 rfl (xm 1 rfl) ?_
      refine V_getR dX11_voteOf_89 fl_X11_12 (sk_0 hS (by decide)) rfl ?_
      refine V_getI (kI := 1) dX11_voteOf_92 fl_X11_100 (sk_1 hS (by decide)) rfl rfl ?_
      refine V_iload dX11_voteOf_95 (xm 0 rfl) ?_
      refine V_iadd dX11_voteOf_97 ?_
      refine V_aload_n dX11_voteOf_98 rfl (xm 1 rfl) ?_
      refine V_getR dX11_voteOf_99 fl_X11_12 (sk_0 hS (by decide)) rfl ?_
      refine V_getI (kI := 0) dX11_voteOf_102 fl_X11_228 (sk_1 hS (by decide)) rfl rfl ?_
      refine xbE h (fun r8 h7 h => ?_)
      refine T_callSI (host := "") dX11_voteOf_105 ok_X11_wrap lk_X11_231.1 lk_X11_231.2 (hV := ((fX11_wrap_c (hS.le (by decide)) h7).mono (by decide) (Nat.le_refl _) (Nat.le_refl _))) rfl (Nat.le_of_ble_eq_true rfl) rfl (Nat.le_of_ble_eq_true rfl) ?_
      refine V_istore (ls' := [(7, vI r8), (6, vI r6), (0, vR (some 0)), (1, vI v1), (3, vI v3), (4, vI v4), (5, vI v5)]) dX11_voteOf_108 (by decide) rfl ?_
      refine V_aload_n dX11_voteOf_110 rfl (xm 2 rfl) ?_
      refine V_getR dX11_voteOf_111 fl_X11_30 (sk_0 hS (by decide)) rfl ?_
      refine V_aload_n dX11_voteOf_114 rfl (xm 2 rfl) ?_
      refine V_getR dX11_voteOf_115 fl_X11_12 (sk_0 hS (by decide)) rfl ?_
      refine V_iload_n dX11_voteOf_118 rfl (xm 3 rfl) ?_
      refine V_aload_n dX11_voteOf_119 rfl (xm 2 rfl) ?_
      refine V_getR dX11_voteOf_120 fl_X11_12 (sk_0 hS (by decide)) rfl ?_
      refine V_getI (kI := 2) dX11_voteOf_123 fl_X11_103 (sk_1 hS (by decide)) rfl rfl ?_
      refine V_iload dX11_voteOf_126 (xm 0 rfl) ?_
      refine V_iload dX11_voteOf_128 (xm 1 rfl) ?_
      refine xb2E h (fun r10 M11 h9 h => ?_)
      refine T_callVI dX11_voteOf_130 ok_X10_worthTo (by exact ⟨by decide, rfl⟩) lk_X11_152.1 lk_X11_152.2 (sk_43 hS (by decide)) (hV := ((fX10_worthTo_c (hS.le (by decide)) h9).mono (by decide) (Nat.le_refl _) (Nat.le_refl _))) rfl (Nat.le_of_ble_eq_true rfl) rfl (Nat.le_of_ble_eq_true rfl) ?_
      refine V_istore (ls' := [(8, vI r10), (7, vI r8), (6, vI r6), (0, vR (some 0)), (1, vI v1), (3, vI v3), (4, vI v4), (5, vI v5)]) dX11_voteOf_133 (by decide) rfl ?_
      refine V_iload dX11_voteOf_135 (xm 0 rfl) ?_
      refine V_iload dX11_voteOf_137 (xm 6 rfl) ?_
      refine V_icmp_le (tgt := 149) dX11_voteOf_139 (by decide) h (fun _ h => ?_) (fun _ h => ?_)
      · refine V_iload dX11_voteOf_142 (xm 0 rfl) ?_
        refine V_istore (ls' := [(4, vI r10), (8, vI r10), (7, vI r8), (6, vI r6), (0, vR (some 0)), (1, vI v1), (3, vI v3), (5, vI v5)]) dX11_voteOf_144 (by decide) rfl ?_
        refine V_iload dX11_voteOf_146 (xm 3 rfl) ?_
        refine V_istore_n (ls' := [(3, vI r6), (4, vI r10), (8, vI r10), (7, vI r8), (6, vI r6), (0, vR (some 0)), (1, vI v1), (5, vI v5)]) dX11_voteOf_148 rfl (by decide) rfl ?_
        refine V_iinc (ls' := [(5, vI (v5 + 1)), (3, vI r6), (4, vI r10), (8, vI r10), (7, vI r8), (6, vI r6), (0, vR (some 0)), (1, vI v1)]) dX11_voteOf_149 (xm 7 rfl) (by decide) rfl ?_
        refine V_goto (tgt := 71) dX11_voteOf_152 (by decide) ?_
        refine V.pick [6, 7, 1, 2, 0] rfl ?_
        exact ih M11 v1 r6 r10 (v5 + 1) h k
      · refine V_iinc (ls' := [(5, vI (v5 + 1)), (8, vI r10), (7, vI r8), (6, vI r6), (0, vR (some 0)), (1, vI v1), (3, vI v3), (4, vI v4)]) dX11_voteOf_149 (xm 7 rfl) (by decide) rfl ?_
        refine V_goto (tgt := 71) dX11_voteOf_152 (by decide) ?_
        refine V.pick [4, 5, 6, 7, 0] rfl ?_
        exact ih M11 v1 v3 v4 (v5 + 1) h k
    · cases h
      refine V.pick [2] rfl ?_
      exact k
theorem fX11_voteOf_L71_ci {S : xS} {kp : Option Nat} (hS : xSk kp 94 S) {Q : Option xV → xS → xM → Prop} {n : Nat} {M : xM} {v1 : Int} {v3 : Int} {v4 : Int} {v5 : Int} {x3 : Int} {Mz : xM} (hl : fX11_voteOf_L71 n M v1 v3 v4 v5 = some (x3, Mz)) (k : V Y_X11_voteOf 4 0 0 155 [(3, vI x3)] [] S Mz Q) : V Y_X11_voteOf 4 0 0 71 [(0, vR (some 0)), (1, vI v1), (3, vI v3), (4, vI v4), (5, vI v5)] [] S M Q := fX11_voteOf_L71_c hS _ _ _ _ _ _ hl k
def fX11_voteOf (M : xM) (v1 : Int) : Option (Int × xM) := xb (fX5_firstOn M v1 (M 1 2)) fun r2 => (if wr r2 = wr ((-1)) then (xb2 (fX10_worthTo M v1 (M 1 2) (M 1 1) 0) fun r4 M5 => xb2 (fX11_voteOf_L71 xfuel M5 v1 0 r4 1) fun y12 M13 => some (y12, M13)) else (xrd M 18 24 r2 fun r15 => some (r15, M)))
set_option maxRecDepth 20000 in
set_option maxHeartbeats 1000000 in
theorem fX11_voteOf_c {S : xS} {kp : Option Nat} (hS : xSk kp 94 S) {M : xM} {v1 : Int} {E : Int × xM} (h : fX11_voteOf M v1 = some E) :
    V Y_X11_voteOf 4 0 0 0 (xarg 0 [vR (some 0), vI v1]) [] S M (xqR S E.2 (some (vI E.1))) := by
  unfold fX11_voteOf at h
  show V Y_X11_voteOf 4 0 0 0 [(0, vR (some 0)), (1, vI v1)] [] S M _
  refine V_aload_n dX11_voteOf_0 rfl (xm 0 rfl) ?_
  refine V_getR dX11_voteOf_1 fl_X11_12 (sk_0 hS (by decide)) rfl ?_
  refine V_getR dX11_voteOf_4 fl_X11_175 (sk_1 hS (by decide)) rfl ?_
  refine V_iload_n dX11_voteOf_7 rfl (xm 1 rfl) ?_
  refine V_aload_n dX11_voteOf_8 rfl (xm 0 rfl) ?_
  refine V_getR dX11_voteOf_9 fl_X11_12 (sk_0 hS (by decide)) rfl ?_
  refine V_getI (kI := 2) dX11_voteOf_12 fl_X11_103 (sk_1 hS (by decide)) rfl rfl ?_
  refine xbE h (fun r2 h1 h => ?_)
  refine T_callVI dX11_voteOf_15 ok_X5_firstOn (by exact ⟨by decide, rfl⟩) lk_X11_219.1 lk_X11_219.2 (sk_17 hS (by decide)) (hV := ((fX5_firstOn_c (hS.le (by decide)) h1).mono (by decide) (Nat.le_refl _) (Nat.le_refl _))) rfl (Nat.le_of_ble_eq_true rfl) rfl (Nat.le_of_ble_eq_true rfl) ?_
  refine V_istore_n (ls' := [(2, vI r2), (0, vR (some 0)), (1, vI v1)]) dX11_voteOf_18 rfl (by decide) rfl ?_
  refine V_iload_n dX11_voteOf_19 rfl (xm 0 rfl) ?_
  refine V_iconst dX11_voteOf_20 ?_
  refine V_icmp_eq (tgt := 37) dX11_voteOf_21 (by decide) h (fun _ h => ?_) (fun _ h => ?_)
  · refine V_iconst dX11_voteOf_37 ?_
    refine V_istore_n (ls' := [(3, vI 0), (2, vI r2), (0, vR (some 0)), (1, vI v1)]) dX11_voteOf_38 rfl (by decide) rfl ?_
    refine V_aload_n dX11_voteOf_39 rfl (xm 2 rfl) ?_
    refine V_getR dX11_voteOf_40 fl_X11_30 (sk_0 hS (by decide)) rfl ?_
    refine V_aload_n dX11_voteOf_43 rfl (xm 2 rfl) ?_
    refine V_getR dX11_voteOf_44 fl_X11_12 (sk_0 hS (by decide)) rfl ?_
    refine V_iload_n dX11_voteOf_47 rfl (xm 3 rfl) ?_
    refine V_aload_n dX11_voteOf_48 rfl (xm 2 rfl) ?_
    refine V_getR dX11_voteOf_49 fl_X11_12 (sk_0 hS (by decide)) rfl ?_
    refine V_getI (kI := 2) dX11_voteOf_52 fl_X11_103 (sk_1 hS (by decide)) rfl rfl ?_
    refine V_aload_n dX11_voteOf_55 rfl (xm 2 rfl) ?_
    refine V_getR dX11_voteOf_56 fl_X11_12 (sk_0 hS (by decide)) rfl ?_
    refine V_getI (kI := 1) dX11_voteOf_59 fl_X11_100 (sk_1 hS (by decide)) rfl rfl ?_
    refine V_iconst dX11_voteOf_62 ?_
    refine xb2E h (fun r4 M5 h3 h => ?_)
    refine T_callVI dX11_voteOf_63 ok_X10_worthTo (by exact ⟨by decide, rfl⟩) lk_X11_152.1 lk_X11_152.2 (sk_43 hS (by decide)) (hV := ((fX10_worthTo_c (hS.le (by decide)) h3).mono (by decide) (Nat.le_refl _) (Nat.le_refl _))) rfl (Nat.le_of_ble_eq_true rfl) rfl (Nat.le_of_ble_eq_true rfl) ?_
    refine V_istore (ls' := [(4, vI r4), (3, vI 0), (2, vI r2), (0, vR (some 0)), (1, vI v1)]) dX11_voteOf_66 (by decide) rfl ?_
    refine V_iconst dX11_voteOf_68 ?_
    refine V_istore (ls' := [(5, vI 1), (4, vI r4), (3, vI 0), (2, vI r2), (0, vR (some 0)), (1, vI v1)]) dX11_voteOf_69 (by decide) rfl ?_
    refine xb2E h (fun y12 M13 h14 h => ?_)
    refine V.pick [4, 5, 2, 1, 0] rfl ?_
    refine fX11_voteOf_L71_ci (hS.le (by decide)) h14 ?_
    refine V_iload_n dX11_voteOf_155 rfl (xm 0 rfl) ?_
    exact V_ireti dX11_voteOf_156 rfl (q_wI h)
  · refine V_aload_n dX11_voteOf_24 rfl (xm 1 rfl) ?_
    refine V_getR dX11_voteOf_25 fl_X11_12 (sk_0 hS (by decide)) rfl ?_
    refine V_getR dX11_voteOf_28 fl_X11_175 (sk_1 hS (by decide)) rfl ?_
    refine V_getR dX11_voteOf_31 fl_X11_222 (sk_17 hS (by decide)) rfl ?_
    refine V_iload_n dX11_voteOf_34 rfl (xm 0 rfl) ?_
    refine T_iald dX11_voteOf_35 (sk_18 hS (by decide)) rfl h (fun r15 h => ?_)
    exact V_ireti dX11_voteOf_36 rfl (q_wI h)
def fX11_votes (M : xM) (v1 : Int) : Option (Int × xM) := (if (fX4_has M v1) = true then (xb (fX1_holderOn M v1 (M 1 2)) fun r2 => xb2 (fX11_voteOf M r2) fun r4 M5 => some (r4 + 2, M5)) else some ((-1), M))
set_option maxRecDepth 20000 in
set_option maxHeartbeats 1000000 in
theorem fX11_votes_c {S : xS} {kp : Option Nat} (hS : xSk kp 94 S) {M : xM} {v1 : Int} {E : Int × xM} (h : fX11_votes M v1 = some E) :
    V Y_X11_votes 5 0 0 0 (xarg 0 [vR (some 0), vI v1]) [] S M (xqR S E.2 (some (vI E.1))) := by
  unfold fX11_votes at h
  show V Y_X11_votes 5 0 0 0 [(0, vR (some 0)), (1, vI v1)] [] S M _
  refine V_aload_n dX11_votes_0 rfl (xm 0 rfl) ?_
  refine V_getR dX11_votes_1 fl_X11_12 (sk_0 hS (by decide)) rfl ?_
  refine V_getR dX11_votes_4 fl_X11_82 (sk_1 hS (by decide)) rfl ?_
  refine V_iload_n dX11_votes_7 rfl (xm 1 rfl) ?_
  refine T_callVI dX11_votes_8 ok_X4_has (by exact ⟨by decide, rfl⟩) lk_X11_145.1 lk_X11_145.2 (sk_5 hS (by decide)) (hV := ((fX4_has_c (hS.le (by decide)) rfl).mono (by decide) (Nat.le_refl _) (Nat.le_refl _))) rfl (Nat.le_of_ble_eq_true rfl) rfl (Nat.le_of_ble_eq_true rfl) ?_
  refine V_if_neB (tgt := 16) dX11_votes_11 (by decide) h (fun _ h => ?_) (fun _ h => ?_)
  · refine V_aload_n dX11_votes_16 rfl (xm 0 rfl) ?_
    refine V_aload_n dX11_votes_17 rfl (xm 0 rfl) ?_
    refine V_getR dX11_votes_18 fl_X11_12 (sk_0 hS (by decide)) rfl ?_
    refine V_iload_n dX11_votes_21 rfl (xm 1 rfl) ?_
    refine V_aload_n dX11_votes_22 rfl (xm 0 rfl) ?_
    refine V_getR dX11_votes_23 fl_X11_12 (sk_0 hS (by decide)) rfl ?_
    refine V_getI (kI := 2) dX11_votes_26 fl_X11_103 (sk_1 hS (by decide)) rfl rfl ?_
    refine xbE h (fun r2 h1 h => ?_)
    refine T_callVI dX11_votes_29 ok_X1_holderOn (by exact ⟨by decide, rfl⟩) lk_X11_191.1 lk_X11_191.2 (sk_1 hS (by decide)) (hV := ((fX1_holderOn_c (hS.le (by decide)) h1).mono (by decide) (Nat.le_refl _) (Nat.le_refl _))) rfl (Nat.le_of_ble_eq_true rfl) rfl (Nat.le_of_ble_eq_true rfl) ?_
    refine xb2E h (fun r4 M5 h3 h => ?_)
    refine T_callVI dX11_votes_32 ok_X11_voteOf (by exact ⟨by decide, rfl⟩) lk_X11_195.1 lk_X11_195.2 (sk_0 hS (by decide)) (hV := ((fX11_voteOf_c (hS.le (by decide)) h3).mono (by decide) (Nat.le_refl _) (Nat.le_refl _))) rfl (Nat.le_of_ble_eq_true rfl) rfl (Nat.le_of_ble_eq_true rfl) ?_
    refine V_iconst dX11_votes_35 ?_
    refine V_iadd dX11_votes_36 ?_
    exact V_ireti dX11_votes_37 rfl (q_wI h)
  · refine V_iconst dX11_votes_14 ?_
    exact V_ireti dX11_votes_15 rfl (q_wI h)
def fX11_holder (M : xM) (v1 : Int) (v2 : Int) : Option Int := (if (fX4_has M v1) = true then (if (fX11_isDay v2) = true then (xb (fX1_holderOn M v1 v2) fun r2 => some r2) else some ((-1))) else some ((-1)))
set_option maxRecDepth 20000 in
set_option maxHeartbeats 1000000 in
theorem fX11_holder_c {S : xS} {kp : Option Nat} (hS : xSk kp 94 S) {M : xM} {v1 : Int} {v2 : Int} {E : Int} (h : fX11_holder M v1 v2 = some E) :
    V Y_X11_holder 2 0 0 0 (xarg 0 [vR (some 0), vI v1, vI v2]) [] S M (xqR S M (some (vI E))) := by
  unfold fX11_holder at h
  show V Y_X11_holder 2 0 0 0 [(0, vR (some 0)), (1, vI v1), (2, vI v2)] [] S M _
  refine V_aload_n dX11_holder_0 rfl (xm 0 rfl) ?_
  refine V_getR dX11_holder_1 fl_X11_12 (sk_0 hS (by decide)) rfl ?_
  refine V_getR dX11_holder_4 fl_X11_82 (sk_1 hS (by decide)) rfl ?_
  refine V_iload_n dX11_holder_7 rfl (xm 1 rfl) ?_
  refine T_callVI dX11_holder_8 ok_X4_has (by exact ⟨by decide, rfl⟩) lk_X11_145.1 lk_X11_145.2 (sk_5 hS (by decide)) (hV := ((fX4_has_c (hS.le (by decide)) rfl).mono (by decide) (Nat.le_refl _) (Nat.le_refl _))) rfl (Nat.le_of_ble_eq_true rfl) rfl (Nat.le_of_ble_eq_true rfl) ?_
  refine V_if_eqB (tgt := 21) dX11_holder_11 (by decide) h (fun _ h => ?_) (fun _ h => ?_)
  · refine V_iload_n dX11_holder_14 rfl (xm 2 rfl) ?_
    refine T_callSI (host := "") dX11_holder_15 ok_X11_isDay lk_X11_115.1 lk_X11_115.2 (hV := ((fX11_isDay_c (hS.le (by decide)) rfl).mono (by decide) (Nat.le_refl _) (Nat.le_refl _))) rfl (Nat.le_of_ble_eq_true rfl) rfl (Nat.le_of_ble_eq_true rfl) ?_
    refine V_if_neB (tgt := 23) dX11_holder_18 (by decide) h (fun _ h => ?_) (fun _ h => ?_)
    · refine V_aload_n dX11_holder_23 rfl (xm 0 rfl) ?_
      refine V_getR dX11_holder_24 fl_X11_12 (sk_0 hS (by decide)) rfl ?_
      refine V_iload_n dX11_holder_27 rfl (xm 1 rfl) ?_
      refine V_iload_n dX11_holder_28 rfl (xm 2 rfl) ?_
      refine xbE h (fun r2 h1 h => ?_)
      refine T_callVI dX11_holder_29 ok_X1_holderOn (by exact ⟨by decide, rfl⟩) lk_X11_191.1 lk_X11_191.2 (sk_1 hS (by decide)) (hV := ((fX1_holderOn_c (hS.le (by decide)) h1).mono (by decide) (Nat.le_refl _) (Nat.le_refl _))) rfl (Nat.le_of_ble_eq_true rfl) rfl (Nat.le_of_ble_eq_true rfl) ?_
      exact V_ireti dX11_holder_32 rfl (q_pI h)
    · refine V_iconst dX11_holder_21 ?_
      exact V_ireti dX11_holder_22 rfl (q_pI h)
  · refine V_iconst dX11_holder_21 ?_
    exact V_ireti dX11_holder_22 rfl (q_pI h)
def fX0_keep (M : xM)  : Option xM := xwt M 80 10 (M 79 1) (M 1 1) fun M1 => xwt M1 81 10 (M1 79 1) (M1 1 3) fun M2 => xwt M2 82 10 (M2 79 1) (M2 1 5) fun M3 => xix 10 (M3 79 1) (xcp M3 9 10 0 (84 + (wr (M3 79 1)).toNat) 10 0 10 fun M5 => xlet (xup M5 79 1 (xrem ((M5 79 1) + 1) 10)) fun M6 => xlet (xup M6 79 0 (xmin ((M6 79 0) + 1) 10)) fun M7 => some M7)
set_option maxRecDepth 20000 in
set_option maxHeartbeats 1000000 in
theorem fX0_keep_c {S : xS} {kp : Option Nat} (hS : xSk kp 95 S) {M : xM} {E : xM} (h : fX0_keep M = some E) :
    V Y_X0_keep 1 0 0 0 (xarg 0 [vR (some 79), vR (some 1)]) [] S M (xqR S E none) := by
  unfold fX0_keep at h
  show V Y_X0_keep 1 0 0 0 [(0, vR (some 79)), (1, vR (some 1))] [] S M _
  refine V_aload_n dX0_keep_0 rfl (xm 0 rfl) ?_
  refine V_getR dX0_keep_1 fl_X0_11 (sk_79 hS (by decide)) rfl ?_
  refine V_aload_n dX0_keep_4 rfl (xm 0 rfl) ?_
  refine V_getI (kI := 1) dX0_keep_5 fl_X0_30 (sk_79 hS (by decide)) rfl rfl ?_
  refine V_aload_n dX0_keep_8 rfl (xm 1 rfl) ?_
  refine V_getI (kI := 1) dX0_keep_9 fl_X0_33 (sk_1 hS (by decide)) rfl rfl ?_
  refine T_iast dX0_keep_12 (sk_80 hS (by decide)) rfl h (fun M1 h => ?_)
  refine V_aload_n dX0_keep_13 rfl (xm 0 rfl) ?_
  refine V_getR dX0_keep_14 fl_X0_15 (sk_79 hS (by decide)) rfl ?_
  refine V_aload_n dX0_keep_17 rfl (xm 0 rfl) ?_
  refine V_getI (kI := 1) dX0_keep_18 fl_X0_30 (sk_79 hS (by decide)) rfl rfl ?_
  refine V_aload_n dX0_keep_21 rfl (xm 1 rfl) ?_
  refine V_getI (kI := 3) dX0_keep_22 fl_X0_37 (sk_1 hS (by decide)) rfl rfl ?_
  refine T_iast dX0_keep_25 (sk_81 hS (by decide)) rfl h (fun M2 h => ?_)
  refine V_aload_n dX0_keep_26 rfl (xm 0 rfl) ?_
  refine V_getR dX0_keep_27 fl_X0_18 (sk_79 hS (by decide)) rfl ?_
  refine V_aload_n dX0_keep_30 rfl (xm 0 rfl) ?_
  refine V_getI (kI := 1) dX0_keep_31 fl_X0_30 (sk_79 hS (by decide)) rfl rfl ?_
  refine V_aload_n dX0_keep_34 rfl (xm 1 rfl) ?_
  refine V_getI (kI := 5) dX0_keep_35 fl_X0_39 (sk_1 hS (by decide)) rfl rfl ?_
  refine T_iast dX0_keep_38 (sk_82 hS (by decide)) rfl h (fun M3 h => ?_)
  refine V_aload_n dX0_keep_39 rfl (xm 1 rfl) ?_
  refine V_getR dX0_keep_40 fl_X0_41 (sk_1 hS (by decide)) rfl ?_
  refine V_getR dX0_keep_43 fl_X0_45 (sk_5 hS (by decide)) rfl ?_
  refine V_iconst dX0_keep_46 ?_
  refine V_aload_n dX0_keep_47 rfl (xm 0 rfl) ?_
  refine V_getR dX0_keep_48 fl_X0_23 (sk_79 hS (by decide)) rfl ?_
  refine V_aload_n dX0_keep_51 rfl (xm 0 rfl) ?_
  refine V_getI (kI := 1) dX0_keep_52 fl_X0_30 (sk_79 hS (by decide)) rfl rfl ?_
  obtain ⟨c4, h⟩ := xixE h
  refine V_aald (r := 84 + (wr (M3 79 1)).toNat) dX0_keep_55 (sk_83 hS (by decide)) (by decide) c4 (rw_83 c4) ?_
  refine V_iconst dX0_keep_56 ?_
  refine V_bipush dX0_keep_57 (by decide) ?_
  refine T_copy dX0_keep_59 cp_X0_49 (sk_9 hS (by decide)) (rs_83 hS (by decide) c4) rfl rfl (by decide) (Nat.le_of_ble_eq_true rfl) h (fun M5 h => ?_)
  refine V_aload_n dX0_keep_62 rfl (xm 0 rfl) ?_
  refine V_aload_n dX0_keep_63 rfl (xm 0 rfl) ?_
  refine V_getI (kI := 1) dX0_keep_64 fl_X0_30 (sk_79 hS (by decide)) rfl rfl ?_
  refine V_iconst dX0_keep_67 ?_
  refine V_iadd dX0_keep_68 ?_
  refine V_bipush dX0_keep_69 (by decide) ?_
  refine V_iremK dX0_keep_71 (by decide) ?_
  refine T_putI (kI := 1) dX0_keep_72 fp_X0_30 (sk_79 hS (by decide)) rfl rfl h (fun M6 h => ?_)
  refine V_aload_n dX0_keep_75 rfl (xm 0 rfl) ?_
  refine V_aload_n dX0_keep_76 rfl (xm 0 rfl) ?_
  refine V_getI (kI := 0) dX0_keep_77 fl_X0_26 (sk_79 hS (by decide)) rfl rfl ?_
  refine V_iconst dX0_keep_80 ?_
  refine V_iadd dX0_keep_81 ?_
  refine V_bipush dX0_keep_82 (by decide) ?_
  refine V_mmin dX0_keep_84 mt_X0_55 (by decide) (Nat.le_of_ble_eq_true rfl) ?_
  refine T_putI (kI := 0) dX0_keep_87 fp_X0_26 (sk_79 hS (by decide)) rfl rfl h (fun M7 h => ?_)
  exact V_ret dX0_keep_90 rfl (q_v h)
def fX11_passNoon_L13 (n : Nat) (M : xM) (v2 : Int) : Option (xM) := match n with
  | 0 => none
  | n + 1 => (if wr v2 < wr (M 5 0) then (xb (fX1_holderOn M v2 (M 1 2)) fun r2 => xb2 (fX11_voteOf M r2) fun r4 M5 => xwt M5 11 10 v2 r4 fun M6 => fX11_passNoon_L13 n M6 (v2 + 1)) else some M)
set_option maxRecDepth 20000 in
set_option maxHeartbeats 1000000 in
theorem fX11_passNoon_L13_c {S : xS} {kp : Option Nat} (hS : xSk kp 94 S) {Q : Option xV → xS → xM → Prop} :
    ∀ (n : Nat) (M : xM) (v2 : Int) {Mz : xM}, fX11_passNoon_L13 n M v2 = some Mz → V Y_X11_passNoon 5 0 0 55 [(0, vR (some 0))] [] S Mz Q → V Y_X11_passNoon 5 0 0 13 [(0, vR (some 0)), (1, vR (some 11)), (2, vI v2)] [] S M Q := by
  intro n
  induction n with
  | zero =>
    intro M v2 Mz h k
    cases h
  | succ n ih =>
    intro M v2 Mz h k
    rw [fX11_passNoon_L13] at h
    refine V_iload_n dX11_passNoon_13 rfl (xm 2 rfl) ?_
    refine V_aload_n dX11_passNoon_14 rfl (xm 0 rfl) ?_
    refine V_getR dX11_passNoon_15 fl_X11_12 (sk_0 hS (by decide)) rfl ?_
    refine V_getR dX11_passNoon_18 fl_X11_82 (sk_1 hS (by decide)) rfl ?_
    refine V_getI (kI := 0) dX11_passNoon_21 fl_X11_86 (sk_5 hS (by decide)) rfl rfl ?_
    refine V_icmp_ge (tgt := 55) dX11_passNoon_24 (by decide) h (fun _ h => ?_) (fun _ h => ?_)
    · refine V_aload_n dX11_passNoon_27 rfl (xm 1 rfl) ?_
      refine V_iload_n dX11_passNoon_28 rfl (xm 2 rfl) ?_
      refine V_aload_n dX11_passNoon_29 rfl (xm 0 rfl) ?_
      refine V_aload_n dX11_passNoon_30 rfl (xm 0 rfl) ?_
      refine V_getR dX11_passNoon_31 fl_X11_12 (sk_0 hS (by decide)) rfl ?_
      refine V_iload_n dX11_passNoon_34 rfl (xm 2 rfl) ?_
      refine V_aload_n dX11_passNoon_35 rfl (xm 0 rfl) ?_
      refine V_getR dX11_passNoon_36 fl_X11_12 (sk_0 hS (by decide)) rfl ?_
      refine V_getI (kI := 2) dX11_passNoon_39 fl_X11_103 (sk_1 hS (by decide)) rfl rfl ?_
      refine xbE h (fun r2 h1 h => ?_)
      refine T_callVI dX11_passNoon_42 ok_X1_holderOn (by exact ⟨by decide, rfl⟩) lk_X11_191.1 lk_X11_191.2 (sk_1 hS (by decide)) (hV := ((fX1_holderOn_c (hS.le (by decide)) h1).mono (by decide) (Nat.le_refl _) (Nat.le_refl _))) rfl (Nat.le_of_ble_eq_true rfl) rfl (Nat.le_of_ble_eq_true rfl) ?_
      refine xb2E h (fun r4 M5 h3 h => ?_)
      refine T_callVI dX11_passNoon_45 ok_X11_voteOf (by exact ⟨by decide, rfl⟩) lk_X11_195.1 lk_X11_195.2 (sk_0 hS (by decide)) (hV := ((fX11_voteOf_c (hS.le (by decide)) h3).mono (by decide) (Nat.le_refl _) (Nat.le_refl _))) rfl (Nat.le_of_ble_eq_true rfl) rfl (Nat.le_of_ble_eq_true rfl) ?_
      refine T_iast dX11_passNoon_48 (sk_11 hS (by decide)) rfl h (fun M6 h => ?_)
      refine V_iinc (ls' := [(2, vI (v2 + 1)), (0, vR (some 0)), (1, vR (some 11))]) dX11_passNoon_49 (xm 2 rfl) (by decide) rfl ?_
      refine V_goto (tgt := 13) dX11_passNoon_52 (by decide) ?_
      refine V.pick [1, 2, 0] rfl ?_
      exact ih M6 (v2 + 1) h k
    · cases h
      refine V.pick [0] rfl ?_
      exact k
theorem fX11_passNoon_L13_ci {S : xS} {kp : Option Nat} (hS : xSk kp 94 S) {Q : Option xV → xS → xM → Prop} {n : Nat} {M : xM} {v2 : Int} {Mz : xM} (hl : fX11_passNoon_L13 n M v2 = some Mz) (k : V Y_X11_passNoon 5 0 0 55 [(0, vR (some 0))] [] S Mz Q) : V Y_X11_passNoon 5 0 0 13 [(0, vR (some 0)), (1, vR (some 11)), (2, vI v2)] [] S M Q := fX11_passNoon_L13_c hS _ _ _ hl k
