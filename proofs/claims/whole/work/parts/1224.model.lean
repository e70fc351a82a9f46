def fX5_firstQuarrel_L12 (n : Nat) (M : xM) (v1 : Int) (v2 : Int) : Option ((Unit) ⊕ (Int)) := match n with
  | 0 => none
  | n + 1 => (if wr v2 < wr v1 then (xb (fX5_disagree M v2 v1) fun r2 => (if r2 = true then some (.inr v1) else fX5_firstQuarrel_L12 n M v1 (v2 + 1))) else some (.inl ()))
set_option maxRecDepth 20000 in
set_option maxHeartbeats 1000000 in
theorem fX5_firstQuarrel_L12_c {S : xS} {kp : Option Nat} (hS : xSk kp 22 S) {Q : Option xV → xS → xM → Prop} :
    ∀ (n : Nat) (M : xM) (v1 : Int) (v2 : Int) {E : (Unit) ⊕ (Int)}, fX5_firstQuarrel_L12 n M v1 v2 = some E → (E = .inl () → V Y_X5_firstQuarrel 3 0 0 34 [(0, vR (some 17)), (1, vI v1)] [] S M Q) → (∀ (w : Int), E = .inr w → Q (some (vI w)) S M) → V Y_X5_firstQuarrel 3 0 0 12 [(0, vR (some 17)), (1, vI v1), (2, vI v2)] [] S M Q := by
  intro n
  induction n with
  | zero =>
    intro M v1 v2 E h k kr
    cases h
  | succ n ih =>
    intro M v1 v2 E h k kr
    rw [fX5_firstQuarrel_L12] at h
    refine V_iload_n dX5_firstQuarrel_12 rfl (xm 2 rfl) ?_
    refine V_iload_n dX5_firstQuarrel_13 rfl (xm 1 rfl) ?_
    refine V_icmp_ge (tgt := 34) dX5_firstQuarrel_14 (by decide) h (fun _ h => ?_) (fun _ h => ?_)
    · refine V_aload_n dX5_firstQuarrel_17 rfl (xm 0 rfl) ?_
      refine V_iload_n dX5_firstQuarrel_18 rfl (xm 2 rfl) ?_
      refine V_iload_n dX5_firstQuarrel_19 rfl (xm 1 rfl) ?_
      refine xbE h (fun r2 h1 h => ?_)
      refine T_callVI dX5_firstQuarrel_20 ok_X5_disagree (by exact ⟨by decide, rfl⟩) lk_X5_48.1 lk_X5_48.2 (sk_17 hS (by decide)) (hV := ((fX5_disagree_c (hS.le (by decide)) h1).mono (by decide) (Nat.le_refl _) (Nat.le_refl _))) rfl (Nat.le_of_ble_eq_true rfl) rfl (Nat.le_of_ble_eq_true rfl) ?_
      refine V_if_eqB (tgt := 28) dX5_firstQuarrel_23 (by decide) h (fun _ h => ?_) (fun _ h => ?_)
      · refine V_iload_n dX5_firstQuarrel_26 rfl (xm 1 rfl) ?_
        exact V_ireti dX5_firstQuarrel_27 rfl (kr v1 (Option.some.inj h).symm)
      · refine V_iinc (ls' := [(2, vI (v2 + 1)), (0, vR (some 17)), (1, vI v1)]) dX5_firstQuarrel_28 (xm 2 rfl) (by decide) rfl ?_
        refine V_goto (tgt := 12) dX5_firstQuarrel_31 (by decide) ?_
        refine V.pick [1, 2, 0] rfl ?_
        exact ih M v1 (v2 + 1) h k kr
    · refine V.pick [0, 1] rfl ?_
      exact k  (Option.some.inj h).symm
theorem fX5_firstQuarrel_L12_ci {S : xS} {kp : Option Nat} (hS : xSk kp 22 S) {Q : Option xV → xS → xM → Prop} {n : Nat} {M : xM} {v1 : Int} {v2 : Int} (hl : fX5_firstQuarrel_L12 n M v1 v2 = some (.inl ())) (k : V Y_X5_firstQuarrel 3 0 0 34 [(0, vR (some 17)), (1, vI v1)] [] S M Q) : V Y_X5_firstQuarrel 3 0 0 12 [(0, vR (some 17)), (1, vI v1), (2, vI v2)] [] S M Q := fX5_firstQuarrel_L12_c hS _ _ _ _ hl (fun  e => by cases e; exact k) (fun _ e => by cases e)
theorem fX5_firstQuarrel_L12_cr {S : xS} {kp : Option Nat} (hS : xSk kp 22 S) {Q : Option xV → xS → xM → Prop} {n : Nat} {M : xM} {v1 : Int} {v2 : Int} {w : Int} (hl : fX5_firstQuarrel_L12 n M v1 v2 = some (.inr w)) (k : Q (some (vI w)) S M) : V Y_X5_firstQuarrel 3 0 0 12 [(0, vR (some 17)), (1, vI v1), (2, vI v2)] [] S M Q := fX5_firstQuarrel_L12_c hS _ _ _ _ hl (fun  e => by cases e) (fun _ e => by cases e; exact k)
def fX5_firstQuarrel_L2 (n : Nat) (M : xM) (v1 : Int) : Option ((Unit) ⊕ (Int)) := match n with
  | 0 => none
  | n + 1 => (if wr v1 < wr (M 17 0) then (xs0 (fX5_firstQuarrel_L12 xfuel M v1 0) (fX5_firstQuarrel_L2 n M (v1 + 1)) (fun r => some (.inr r))) else some (.inl ()))
set_option maxRecDepth 20000 in
set_option maxHeartbeats 1000000 in
theorem fX5_firstQuarrel_L2_c {S : xS} {kp : Option Nat} (hS : xSk kp 22 S) {Q : Option xV → xS → xM → Prop} :
    ∀ (n : Nat) (M : xM) (v1 : Int) {E : (Unit) ⊕ (Int)}, fX5_firstQuarrel_L2 n M v1 = some E → (E = .inl () → V Y_X5_firstQuarrel 3 0 0 40 [] [] S M Q) → (∀ (w : Int), E = .inr w → Q (some (vI w)) S M) → V Y_X5_firstQuarrel 3 0 0 2 [(0, vR (some 17)), (1, vI v1)] [] S M Q := by
  intro n
  induction n with
  | zero =>
    intro M v1 E h k kr
    cases h
  | succ n ih =>
    intro M v1 E h k kr
    rw [fX5_firstQuarrel_L2] at h
    refine V_iload_n dX5_firstQuarrel_2 rfl (xm 1 rfl) ?_
    refine V_aload_n dX5_firstQuarrel_3 rfl (xm 0 rfl) ?_
    refine V_getI (kI := 0) dX5_firstQuarrel_4 fl_X5_27 (sk_17 hS (by decide)) rfl rfl ?_
    refine V_icmp_ge (tgt := 40) dX5_firstQuarrel_7 (by decide) h (fun _ h => ?_) (fun _ h => ?_)
    · refine V_iconst dX5_firstQuarrel_10 ?_
      refine V_istore_n (ls' := [(2, vI 0), (0, vR (some 17)), (1, vI v1)]) dX5_firstQuarrel_11 rfl (by decide) rfl ?_
      refine xs0E h (fun  h3 h => ?_) (fun r h3 h => ?_)
      · refine V.pick [1, 2, 0] rfl ?_
        refine fX5_firstQuarrel_L12_ci (hS.le (by decide)) h3 ?_
        refine V_iinc (ls' := [(1, vI (v1 + 1)), (0, vR (some 17))]) dX5_firstQuarrel_34 (xm 1 rfl) (by decide) rfl ?_
        refine V_goto (tgt := 2) dX5_firstQuarrel_37 (by decide) ?_
        refine V.pick [1, 0] rfl ?_
        exact ih M (v1 + 1) h k kr
      · refine V.pick [1, 2, 0] rfl ?_
        refine fX5_firstQuarrel_L12_cr (hS.le (by decide)) h3 ?_
        exact kr _ (Option.some.inj h).symm
    · refine V.pick [] rfl ?_
      exact k  (Option.some.inj h).symm
theorem fX5_firstQuarrel_L2_ci {S : xS} {kp : Option Nat} (hS : xSk kp 22 S) {Q : Option xV → xS → xM → Prop} {n : Nat} {M : xM} {v1 : Int} (hl : fX5_firstQuarrel_L2 n M v1 = some (.inl ())) (k : V Y_X5_firstQuarrel 3 0 0 40 [] [] S M Q) : V Y_X5_firstQuarrel 3 0 0 2 [(0, vR (some 17)), (1, vI v1)] [] S M Q := fX5_firstQuarrel_L2_c hS _ _ _ hl (fun  e => by cases e; exact k) (fun _ e => by cases e)
theorem fX5_firstQuarrel_L2_cr {S : xS} {kp : Option Nat} (hS : xSk kp 22 S) {Q : Option xV → xS → xM → Prop} {n : Nat} {M : xM} {v1 : Int} {w : Int} (hl : fX5_firstQuarrel_L2 n M v1 = some (.inr w)) (k : Q (some (vI w)) S M) : V Y_X5_firstQuarrel 3 0 0 2 [(0, vR (some 17)), (1, vI v1)] [] S M Q := fX5_firstQuarrel_L2_c hS _ _ _ hl (fun  e => by cases e) (fun _ e => by cases e; exact k)
def fX5_firstQuarrel (M : xM)  : Option Int := xs0 (fX5_firstQuarrel_L2 xfuel M 1) (some ((-1))) (fun r => some r)
set_option maxRecDepth 20000 in
set_option maxHeartbeats 1000000 in
theorem fX5_firstQuarrel_c {S : xS} {kp : Option Nat} (hS : xSk kp 22 S) {M : xM} {E : Int} (h : fX5_firstQuarrel M = some E) :
    V Y_X5_firstQuarrel 3 0 0 0 (xarg 0 [vR (some 17)]) [] S M (xqR S M (some (vI E))) := by
  unfold fX5_firstQuarrel at h
  show V Y_X5_firstQuarrel 3 0 0 0 [(0, vR (some 17))] [] S M _
  refine V_iconst dX5_firstQuarrel_0 ?_
  refine V_istore_n (ls' := [(1, vI 1), (0, vR (some 17))]) dX5_firstQuarrel_1 rfl (by decide) rfl ?_
  refine xs0E h (fun  h4 h => ?_) (fun r h4 h => ?_)
  · refine V.pick [1, 0] rfl ?_
    refine fX5_firstQuarrel_L2_ci (hS.le (by decide)) h4 ?_
    refine V_iconst dX5_firstQuarrel_40 ?_
    exact V_ireti dX5_firstQuarrel_41 rfl (q_pI h)
  · refine V.pick [1, 0] rfl ?_
    refine fX5_firstQuarrel_L2_cr (hS.le (by decide)) h4 ?_
    exact q_pI h
def fX11_quarrel (M : xM)  : Option Int := xb (fX5_firstQuarrel M) fun r2 => some r2
set_option maxRecDepth 20000 in
set_option maxHeartbeats 1000000 in
theorem fX11_quarrel_c {S : xS} {kp : Option Nat} (hS : xSk kp 94 S) {M : xM} {E : Int} (h : fX11_quarrel M = some E) :
    V Y_X11_quarrel 4 0 0 0 (xarg 0 [vR (some 0)]) [] S M (xqR S M (some (vI E))) := by
  unfold fX11_quarrel at h
  show V Y_X11_quarrel 4 0 0 0 [(0, vR (some 0))] [] S M _
  refine V_aload_n dX11_quarrel_0 rfl (xm 0 rfl) ?_
  refine V_getR dX11_quarrel_1 fl_X11_12 (sk_0 hS (by decide)) rfl ?_
  refine V_getR dX11_quarrel_4 fl_X11_175 (sk_1 hS (by decide)) rfl ?_
  refine xbE h (fun r2 h1 h => ?_)
  refine T_callVI dX11_quarrel_7 ok_X5_firstQuarrel (by exact ⟨by decide, rfl⟩) lk_X11_290.1 lk_X11_290.2 (sk_17 hS (by decide)) (hV := ((fX5_firstQuarrel_c (hS.le (by decide)) h1).mono (by decide) (Nat.le_refl _) (Nat.le_refl _))) rfl (Nat.le_of_ble_eq_true rfl) rfl (Nat.le_of_ble_eq_true rfl) ?_
  exact V_ireti dX11_quarrel_10 rfl (q_pI h)
def fX5_fewestOf_L4 (n : Nat) (M : xM) (v1 : Int) (v2 : Int) (v3 : Int) : Option (Int × xM) := match n with
  | 0 => none
  | n + 1 => (if wr v3 < wr (M 17 0) then (xrd M 19 24 v3 fun r1 => (if wr r1 = wr v1 then (if (fX5_stands M v3) = true then (if wr v2 < wr 10 then (xwt M 22 24 v2 v3 fun M2 => fX5_fewestOf_L4 n M2 v1 (v2 + 1) (v3 + 1)) else fX5_fewestOf_L4 n M v1 v2 (v3 + 1)) else fX5_fewestOf_L4 n M v1 v2 (v3 + 1)) else fX5_fewestOf_L4 n M v1 v2 (v3 + 1))) else some (v2, M))
set_option maxRecDepth 20000 in
set_option maxHeartbeats 1000000 in
theorem fX5_fewestOf_L4_c {S : xS} {kp : Option Nat} (hS : xSk kp 23 S) {Q : Option xV → xS → xM → Prop} :
    ∀ (n : Nat) (M : xM) (v1 : Int) (v2 : Int) (v3 : Int) {x2 : Int} {Mz : xM}, fX5_fewestOf_L4 n M v1 v2 v3 = some (x2, Mz) → V Y_X5_fewestOf 4 0 0 52 [(0, vR (some 17)), (2, vI x2)] [] S Mz Q → V Y_X5_fewestOf 4 0 0 4 [(0, vR (some 17)), (1, vI v1), (2, vI v2), (3, vI v3)] [] S M Q := by
  intro n
  induction n with
  | zero =>
    intro M v1 v2 v3 x2 Mz h k
    cases h
  | succ n ih =>
    intro M v1 v2 v3 x2 Mz h k
    rw [fX5_fewestOf_L4] at h
    refine V_iload_n dX5_fewestOf_4 rfl (xm 3 rfl) ?_
    refine V_aload_n dX5_fewestOf_5 rfl (xm 0 rfl) ?_
    refine V_getI (kI := 0) dX5_fewestOf_6 fl_X5_27 (sk_17 hS (by decide)) rfl rfl ?_
    refine V_icmp_ge (tgt := 52) dX5_fewestOf_9 (by decide) h (fun _ h => ?_) (fun _ h => ?_)
    · refine V_aload_n dX5_fewestOf_12 rfl (xm 0 rfl) ?_
      refine V_getR dX5_fewestOf_13 fl_X5_15 (sk_17 hS (by decide)) rfl ?_
      refine V_iload_n dX5_fewestOf_16 rfl (xm 3 rfl) ?_
      refine T_iald dX5_fewestOf_17 (sk_19 hS (by decide)) rfl h (fun r1 h => ?_)
      refine V_iload_n dX5_fewestOf_18 rfl (xm 1 rfl) ?_
      refine V_icmp_ne (tgt := 46) dX5_fewestOf_19 (by decide) h (fun _ h => ?_) (fun _ h => ?_)
      · refine V_aload_n dX5_fewestOf_22 rfl (xm 0 rfl) ?_
        refine V_iload_n dX5_fewestOf_23 rfl (xm 3 rfl) ?_
        refine T_callVI dX5_fewestOf_24 ok_X5_stands (by exact ⟨by decide, rfl⟩) lk_X5_44.1 lk_X5_44.2 (sk_17 hS (by decide)) (hV := ((fX5_stands_c (hS.le (by decide)) rfl).mono (by decide) (Nat.le_refl _) (Nat.le_refl _))) rfl (Nat.le_of_ble_eq_true rfl) rfl (Nat.le_of_ble_eq_true rfl) ?_
        refine V_if_eqB (tgt := 46) dX5_fewestOf_27 (by decide) h (fun _ h => ?_) (fun _ h => ?_)
        · refine V_iload_n dX5_fewestOf_30 rfl (xm 2 rfl) ?_
          refine V_bipush dX5_fewestOf_31 (by decide) ?_
          refine V_icmp_ge (tgt := 46) dX5_fewestOf_33 (by decide) h (fun _ h => ?_) (fun _ h => ?_)
          · refine V_aload_n dX5_fewestOf_36 rfl (xm 0 rfl) ?_
            refine V_getR dX5_fewestOf_37 fl_X5_24 (sk_17 hS (by decide)) rfl ?_
            refine V_iload_n dX5_fewestOf_40 rfl (xm 2 rfl) ?_
            refine V_iload_n dX5_fewestOf_41 rfl (xm 3 rfl) ?_
            refine T_iast dX5_fewestOf_42 (sk_22 hS (by decide)) rfl h (fun M2 h => ?_)
            refine V_iinc (ls' := [(2, vI (v2 + 1)), (0, vR (some 17)), (1, vI v1), (3, vI v3)]) dX5_fewestOf_43 (xm 2 rfl) (by decide) rfl ?_
            refine V_iinc (ls' := [(3, vI (v3 + 1)), (2, vI (v2 + 1)), (0, vR (some 17)), (1, vI v1)]) dX5_fewestOf_46 (xm 3 rfl) (by decide) rfl ?_
            refine V_goto (tgt := 4) dX5_fewestOf_49 (by decide) ?_
            refine V.pick [2, 3, 1, 0] rfl ?_
            exact ih M2 v1 (v2 + 1) (v3 + 1) h k
          · refine V_iinc (ls' := [(3, vI (v3 + 1)), (0, vR (some 17)), (1, vI v1), (2, vI v2)]) dX5_fewestOf_46 (xm 3 rfl) (by decide) rfl ?_
            refine V_goto (tgt := 4) dX5_fewestOf_49 (by decide) ?_
            refine V.pick [1, 2, 3, 0] rfl ?_
            exact ih M v1 v2 (v3 + 1) h k
        · refine V_iinc (ls' := [(3, vI (v3 + 1)), (0, vR (some 17)), (1, vI v1), (2, vI v2)]) dX5_fewestOf_46 (xm 3 rfl) (by decide) rfl ?_
          refine V_goto (tgt := 4) dX5_fewestOf_49 (by decide) ?_
          refine V.pick [1, 2, 3, 0] rfl ?_
          exact ih M v1 v2 (v3 + 1) h k
      · refine V_iinc (ls' := [(3, vI (v3 + 1)), (0, vR (some 17)), (1, vI v1), (2, vI v2)]) dX5_fewestOf_46 (xm 3 rfl) (by decide) rfl ?_
        refine V_goto (tgt := 4) dX5_fewestOf_49 (by decide) ?_
        refine V.pick [1, 2, 3, 0] rfl ?_
        exact ih M v1 v2 (v3 + 1) h k
    · cases h
      refine V.pick [0, 2] rfl ?_
      exact k
theorem fX5_fewestOf_L4_ci {S : xS} {kp : Option Nat} (hS : xSk kp 23 S) {Q : Option xV → xS → xM → Prop} {n : Nat} {M : xM} {v1 : Int} {v2 : Int} {v3 : Int} {x2 : Int} {Mz : xM} (hl : fX5_fewestOf_L4 n M v1 v2 v3 = some (x2, Mz)) (k : V Y_X5_fewestOf 4 0 0 52 [(0, vR (some 17)), (2, vI x2)] [] S Mz Q) : V Y_X5_fewestOf 4 0 0 4 [(0, vR (some 17)), (1, vI v1), (2, vI v2), (3, vI v3)] [] S M Q := fX5_fewestOf_L4_c hS _ _ _ _ _ hl k
def fX5_agreeWithout_L10 (n : Nat) (M : xM) (v1 : Int) (v2 : Int) (v3 : Int) (v4 : Int) : Option ((Unit) ⊕ (Bool)) := match n with
  | 0 => none
  | n + 1 => (if wr v4 < wr v3 then (if wr (xand (xshr v1 v3) 1) = 0 then (if wr (xand (xshr v1 v4) 1) = 0 then (xrd M 22 24 v4 fun r1 => xrd M 22 24 v3 fun r2 => xb (fX5_disagree M r1 r2) fun r4 => (if r4 = true then some (.inr false) else fX5_agreeWithout_L10 n M v1 v2 v3 (v4 + 1))) else fX5_agreeWithout_L10 n M v1 v2 v3 (v4 + 1)) else fX5_agreeWithout_L10 n M v1 v2 v3 (v4 + 1)) else some (.inl ()))
set_option maxRecDepth 20000 in
set_option maxHeartbeats 1000000 in
theorem fX5_agreeWithout_L10_c {S : xS} {kp : Option Nat} (hS : xSk kp 23 S) {Q : Option xV → xS → xM → Prop} :
    ∀ (n : Nat) (M : xM) (v1 : Int) (v2 : Int) (v3 : Int) (v4 : Int) {E : (Unit) ⊕ (Bool)}, fX5_agreeWithout_L10 n M v1 v2 v3 v4 = some E → (E = .inl () → V Y_X5_agreeWithout 3 0 0 61 [(0, vR (some 17)), (1, vI v1), (2, vI v2), (3, vI v3)] [] S M Q) → (∀ (w : Bool), E = .inr w → Q (some (vI (b2i w))) S M) → V Y_X5_agreeWithout 3 0 0 10 [(0, vR (some 17)), (1, vI v1), (2, vI v2), (3, vI v3), (4, vI v4)] [] S M Q := by
  intro n
  induction n with
  | zero =>
    intro M v1 v2 v3 v4 E h k kr
    cases h
  | succ n ih =>
    intro M v1 v2 v3 v4 E h k kr
    rw [fX5_agreeWithout_L10] at h
    refine V_iload dX5_agreeWithout_10 (xm 4 rfl) ?_
    refine V_iload_n dX5_agreeWithout_12 rfl (xm 3 rfl) ?_
    refine V_icmp_ge (tgt := 61) dX5_agreeWithout_13 (by decide) h (fun _ h => ?_) (fun _ h => ?_)
    · refine V_iload_n dX5_agreeWithout_16 rfl (xm 1 rfl) ?_
      refine V_iload_n dX5_agreeWithout_17 rfl (xm 3 rfl) ?_
      refine V_ishr dX5_agreeWithout_18 ?_
      refine V_iconst dX5_agreeWithout_19 ?_
      refine V_iand dX5_agreeWithout_20 ?_
      refine V_if_ne (tgt := 55) dX5_agreeWithout_21 (by decide) h (fun _ h => ?_) (fun _ h => ?_)
      · refine V_iload_n dX5_agreeWithout_24 rfl (xm 1 rfl) ?_
        refine V_iload dX5_agreeWithout_25 (xm 4 rfl) ?_
        refine V_ishr dX5_agreeWithout_27 ?_
        refine V_iconst dX5_agreeWithout_28 ?_
        refine V_iand dX5_agreeWithout_29 ?_
        refine V_if_ne (tgt := 55) dX5_agreeWithout_30 (by decide) h (fun _ h => ?_) (fun _ h => ?_)
        · refine V_aload_n dX5_agreeWithout_33 rfl (xm 0 rfl) ?_
          refine V_aload_n dX5_agreeWithout_34 rfl (xm 0 rfl) ?_
          refine V_getR dX5_agreeWithout_35 fl_X5_24 (sk_17 hS (by decide)) rfl ?_
          refine V_iload dX5_agreeWithout_38 (xm 4 rfl) ?_
          refine T_iald dX5_agreeWithout_40 (sk_22 hS (by decide)) rfl h (fun r1 h => ?_)
          refine V_aload_n dX5_agreeWithout_41 rfl (xm 0 rfl) ?_
          refine V_getR dX5_agreeWithout_42 fl_X5_24 (sk_17 hS (by decide)) rfl ?_
          refine V_iload_n dX5_agreeWithout_45 rfl (xm 3 rfl) ?_
          refine T_iald dX5_agreeWithout_46 (sk_22 hS (by decide)) rfl h (fun r2 h => ?_)
          refine xbE h (fun r4 h3 h => ?_)
          refine T_callVI dX5_agreeWithout_47 ok_X5_disagree (by exact ⟨by decide, rfl⟩) lk_X5_48.1 lk_X5_48.2 (sk_17 hS (by decide)) (hV := ((fX5_disagree_c (hS.le (by decide)) h3).mono (by decide) (Nat.le_refl _) (Nat.le_refl _))) rfl (Nat.le_of_ble_eq_true rfl) rfl (Nat.le_of_ble_eq_true rfl) ?_
          refine V_if_eqB (tgt := 55) dX5_agreeWithout_50 (by decide) h (fun _ h => ?_) (fun _ h => ?_)
          · refine V_iconst dX5_agreeWithout_53 ?_
            exact V_iretb (b := false) dX5_agreeWithout_54 rfl (by decide) (kr false (Option.some.inj h).symm)
          · refine V_iinc (ls' := [(4, vI (v4 + 1)), (0, vR (some 17)), (1, vI v1), (2, vI v2), (3, vI v3)]) dX5_agreeWithout_55 (xm 4 rfl) (by decide) rfl ?_
            refine V_goto (tgt := 10) dX5_agreeWithout_58 (by decide) ?_
            refine V.pick [1, 2, 3, 4, 0] rfl ?_
            exact ih M v1 v2 v3 (v4 + 1) h k kr
        · refine V_iinc (ls' := [(4, vI (v4 + 1)), (0, vR (some 17)), (1, vI v1), (2, vI v2), (3, vI v3)]) dX5_agreeWithout_55 (xm 4 rfl) (by decide) rfl ?_
          refine V_goto (tgt := 10) dX5_agreeWithout_58 (by decide) ?_
          refine V.pick [1, 2, 3, 4, 0] rfl ?_
          exact ih M v1 v2 v3 (v4 + 1) h k kr
      · refine V_iinc (ls' := [(4, vI (v4 + 1)), (0, vR (some 17)), (1, vI v1), (2, vI v2), (3, vI v3)]) dX5_agreeWithout_55 (xm 4 rfl) (by decide) rfl ?_
        refine V_goto (tgt := 10) dX5_agreeWithout_58 (by decide) ?_
        refine V.pick [1, 2, 3, 4, 0] rfl ?_
        exact ih M v1 v2 v3 (v4 + 1) h k kr
    · refine V.pick [0, 1, 2, 3] rfl ?_
      exact k  (Option.some.inj h).symm
theorem fX5_agreeWithout_L10_ci {S : xS} {kp : Option Nat} (hS : xSk kp 23 S) {Q : Option xV → xS → xM → Prop} {n : Nat} {M : xM} {v1 : Int} {v2 : Int} {v3 : Int} {v4 : Int} (hl : fX5_agreeWithout_L10 n M v1 v2 v3 v4 = some (.inl ())) (k : V Y_X5_agreeWithout 3 0 0 61 [(0, vR (some 17)), (1, vI v1), (2, vI v2), (3, vI v3)] [] S M Q) : V Y_X5_agreeWithout 3 0 0 10 [(0, vR (some 17)), (1, vI v1), (2, vI v2), (3, vI v3), (4, vI v4)] [] S M Q := fX5_agreeWithout_L10_c hS _ _ _ _ _ _ hl (fun  e => by cases e; exact k) (fun _ e => by cases e)
theorem fX5_agreeWithout_L10_cr {S : xS} {kp : Option Nat} (hS : xSk kp 23 S) {Q : Option xV → xS → xM → Prop} {n : Nat} {M : xM} {v1 : Int} {v2 : Int} {v3 : Int} {v4 : Int} {w : Bool} (hl : fX5_agreeWithout_L10 n M v1 v2 v3 v4 = some (.inr w)) (k : Q (some (vI (b2i w))) S M) : V Y_X5_agreeWithout 3 0 0 10 [(0, vR (some 17)), (1, vI v1), (2, vI v2), (3, vI v3), (4, vI v4)] [] S M Q := fX5_agreeWithout_L10_c hS _ _ _ _ _ _ hl (fun  e => by cases e) (fun _ e => by cases e; exact k)
def fX5_agreeWithout_L2 (n : Nat) (M : xM) (v1 : Int) (v2 : Int) (v3 : Int) : Option ((Unit) ⊕ (Bool)) := match n with
  | 0 => none
  | n + 1 => (if wr v3 < wr v2 then (xs0 (fX5_agreeWithout_L10 xfuel M v1 v2 v3 0) (fX5_agreeWithout_L2 n M v1 v2 (v3 + 1)) (fun r => some (.inr r))) else some (.inl ()))
set_option maxRecDepth 20000 in
set_option maxHeartbeats 1000000 in
theorem fX5_agreeWithout_L2_c {S : xS} {kp : Option Nat} (hS : xSk kp 23 S) {Q : Option xV → xS → xM → Prop} :
    ∀ (n : Nat) (M : xM) (v1 : Int) (v2 : Int) (v3 : Int) {E : (Unit) ⊕ (Bool)}, fX5_agreeWithout_L2 n M v1 v2 v3 = some E → (E = .inl () → V Y_X5_agreeWithout 3 0 0 67 [] [] S M Q) → (∀ (w : Bool), E = .inr w → Q (some (vI (b2i w))) S M) → V Y_X5_agreeWithout 3 0 0 2 [(0, vR (some 17)), (1, vI v1), (2, vI v2), (3, vI v3)] [] S M Q := by
  intro n
  induction n with
  | zero =>
    intro M v1 v2 v3 E h k kr
    cases h
  | succ n ih =>
    intro M v1 v2 v3 E h k kr
    rw [fX5_agreeWithout_L2] at h
    refine V_iload_n dX5_agreeWithout_2 rfl (xm 3 rfl) ?_
    refine V_iload_n dX5_agreeWithout_3 rfl (xm 2 rfl) ?_
    refine V_icmp_ge (tgt := 67) dX5_agreeWithout_4 (by decide) h (fun _ h => ?_) (fun _ h => ?_)
    · refine V_iconst dX5_agreeWithout_7 ?_
      refine V_istore (ls' := [(4, vI 0), (0, vR (some 17)), (1, vI v1), (2, vI v2), (3, vI v3)]) dX5_agreeWithout_8 (by decide) rfl ?_
      refine xs0E h (fun  h5 h => ?_) (fun r h5 h => ?_)
      · refine V.pick [1, 2, 3, 4, 0] rfl ?_
        refine fX5_agreeWithout_L10_ci (hS.le (by decide)) h5 ?_
        refine V_iinc (ls' := [(3, vI (v3 + 1)), (0, vR (some 17)), (1, vI v1), (2, vI v2)]) dX5_agreeWithout_61 (xm 3 rfl) (by decide) rfl ?_
        refine V_goto (tgt := 2) dX5_agreeWithout_64 (by decide) ?_
        refine V.pick [1, 2, 3, 0] rfl ?_
        exact ih M v1 v2 (v3 + 1) h k kr
      · refine V.pick [1, 2, 3, 4, 0] rfl ?_
        refine fX5_agreeWithout_L10_cr (hS.le (by decide)) h5 ?_
        exact kr _ (Option.some.inj h).symm
    · refine V.pick [] rfl ?_
      exact k  (Option.some.inj h).symm
theorem fX5_agreeWithout_L2_ci {S : xS} {kp : Option Nat} (hS : xSk kp 23 S) {Q : Option xV → xS → xM → Prop} {n : Nat} {M : xM} {v1 : Int} {v2 : Int} {v3 : Int} (hl : fX5_agreeWithout_L2 n M v1 v2 v3 = some (.inl ())) (k : V Y_X5_agreeWithout 3 0 0 67 [] [] S M Q) : V Y_X5_agreeWithout 3 0 0 2 [(0, vR (some 17)), (1, vI v1), (2, vI v2), (3, vI v3)] [] S M Q := fX5_agreeWithout_L2_c hS _ _ _ _ _ hl (fun  e => by cases e; exact k) (fun _ e => by cases e)
theorem fX5_agreeWithout_L2_cr {S : xS} {kp : Option Nat} (hS : xSk kp 23 S) {Q : Option xV → xS → xM → Prop} {n : Nat} {M : xM} {v1 : Int} {v2 : Int} {v3 : Int} {w : Bool} (hl : fX5_agreeWithout_L2 n M v1 v2 v3 = some (.inr w)) (k : Q (some (vI (b2i w))) S M) : V Y_X5_agreeWithout 3 0 0 2 [(0, vR (some 17)), (1, vI v1), (2, vI v2), (3, vI v3)] [] S M Q := fX5_agreeWithout_L2_c hS _ _ _ _ _ hl (fun  e => by cases e) (fun _ e => by cases e; exact k)
def fX5_agreeWithout (M : xM) (v1 : Int) (v2 : Int) : Option Bool := xs0 (fX5_agreeWithout_L2 xfuel M v1 v2 1) (some true) (fun r => some r)
set_option maxRecDepth 20000 in
set_option maxHeartbeats 1000000 in
theorem fX5_agreeWithout_c {S : xS} {kp : Option Nat} (hS : xSk kp 23 S) {M : xM} {v1 : Int} {v2 : Int} {E : Bool} (h : fX5_agreeWithout M v1 v2 = some E) :
    V Y_X5_agreeWithout 3 0 0 0 (xarg 0 [vR (some 17), vI v1, vI v2]) [] S M (xqR S M (some (vI (b2i E)))) := by
  unfold fX5_agreeWithout at h
  show V Y_X5_agreeWithout 3 0 0 0 [(0, vR (some 17)), (1, vI v1), (2, vI v2)] [] S M _
  refine V_iconst dX5_agreeWithout_0 ?_
  refine V_istore_n (ls' := [(3, vI 1), (0, vR (some 17)), (1, vI v1), (2, vI v2)]) dX5_agreeWithout_1 rfl (by decide) rfl ?_
  refine xs0E h (fun  h6 h => ?_) (fun r h6 h => ?_)
  · refine V.pick [1, 2, 3, 0] rfl ?_
    refine fX5_agreeWithout_L2_ci (hS.le (by decide)) h6 ?_
    refine V_iconst dX5_agreeWithout_67 ?_
    exact V_iretb (b := true) dX5_agreeWithout_68 rfl (by decide) (q_pB h)
  · refine V.pick [1, 2, 3, 0] rfl ?_
    refine fX5_agreeWithout_L2_cr (hS.le (by decide)) h6 ?_
    exact q_pB h
def fX5_fewestOf_L61 (n : Nat) (M : xM) (v2 : Int) (v3 : Int) (v4 : Int) : Option (Int) := match n with
  | 0 => none
  | n + 1 => (if wr v4 < wr (xshl 1 v2) then (if wr (fJ6_bitCount_0f7a4 v4) < wr (fJ6_bitCount_0f7a4 v3) then (xb (fX5_agreeWithout M v4 v2) fun r7 => (if r7 = true then fX5_fewestOf_L61 n M v2 v4 (v4 + 1) else fX5_fewestOf_L61 n M v2 v3 (v4 + 1))) else fX5_fewestOf_L61 n M v2 v3 (v4 + 1)) else some v3)
set_option maxRecDepth 20000 in
set_option maxHeartbeats 1000000 in
theorem fX5_fewestOf_L61_c {S : xS} {kp : Option Nat} (hS : xSk kp 23 S) {Q : Option xV → xS → xM → Prop} :
    ∀ (n : Nat) (M : xM) (v2 : Int) (v3 : Int) (v4 : Int) {x3 : Int}, fX5_fewestOf_L61 n M v2 v3 v4 = some x3 → V Y_X5_fewestOf 4 0 0 100 [(0, vR (some 17)), (2, vI v2), (3, vI x3)] [] S M Q → V Y_X5_fewestOf 4 0 0 61 [(0, vR (some 17)), (2, vI v2), (3, vI v3), (4, vI v4)] [] S M Q := by
  intro n
  induction n with
  | zero =>
    intro M v2 v3 v4 x3 h k
    cases h
  | succ n ih =>
    intro M v2 v3 v4 x3 h k
    rw [fX5_fewestOf_L61] at h
    refine V_iload dX5_fewestOf_61 (xm 3 rfl) ?_
    refine V_iconst dX5_fewestOf_63 ?_
    refine V_iload_n dX5_fewestOf_64 rfl (xm 1 rfl) ?_
    refine V_ishl dX5_fewestOf_65 ?_
    refine V_icmp_ge (tgt := 100) dX5_fewestOf_66 (by decide) h (fun _ h => ?_) (fun _ h => ?_)
    · refine V_iload dX5_fewestOf_69 (xm 3 rfl) ?_
      refine T_callSI (host := "") dX5_fewestOf_71 ok_J6_bitCount_0f7a4 lk_X5_52.1 lk_X5_52.2 (hV := ((fJ6_bitCount_0f7a4_c (hS.le (by decide)) rfl).mono (by decide) (Nat.le_refl _) (Nat.le_refl _))) rfl (Nat.le_of_ble_eq_true rfl) rfl (Nat.le_of_ble_eq_true rfl) ?_
      refine V_iload_n dX5_fewestOf_74 rfl (xm 2 rfl) ?_
      refine T_callSI (host := "") dX5_fewestOf_75 ok_J6_bitCount_0f7a4 lk_X5_52.1 lk_X5_52.2 (hV := ((fJ6_bitCount_0f7a4_c (hS.le (by decide)) rfl).mono (by decide) (Nat.le_refl _) (Nat.le_refl _))) rfl (Nat.le_of_ble_eq_true rfl) rfl (Nat.le_of_ble_eq_true rfl) ?_
      refine V_icmp_ge (tgt := 94) dX5_fewestOf_78 (by decide) h (fun _ h => ?_) (fun _ h => ?_)
      · refine V_aload_n dX5_fewestOf_81 rfl (xm 0 rfl) ?_
        refine V_iload dX5_fewestOf_82 (xm 3 rfl) ?_
        refine V_iload_n dX5_fewestOf_84 rfl (xm 1 rfl) ?_
        refine xbE h (fun r7 h6 h => ?_)
        refine T_callVI dX5_fewestOf_85 ok_X5_agreeWithout (by exact ⟨by decide, rfl⟩) lk_X5_58.1 lk_X5_58.2 (sk_17 hS (by decide)) (hV := ((fX5_agreeWithout_c (hS.le (by decide)) h6).mono (by decide) (Nat.le_refl _) (Nat.le_refl _))) rfl (Nat.le_of_ble_eq_true rfl) rfl (Nat.le_of_ble_eq_true rfl) ?_
        refine V_if_eqB (tgt := 94) dX5_fewestOf_88 (by decide) h (fun _ h => ?_) (fun _ h => ?_)
        · refine V_iload dX5_fewestOf_91 (xm 3 rfl) ?_
          refine V_istore_n (ls' := [(3, vI v4), (0, vR (some 17)), (2, vI v2), (4, vI v4)]) dX5_fewestOf_93 rfl (by decide) rfl ?_
          refine V_iinc (ls' := [(4, vI (v4 + 1)), (3, vI v4), (0, vR (some 17)), (2, vI v2)]) dX5_fewestOf_94 (xm 3 rfl) (by decide) rfl ?_
          refine V_goto (tgt := 61) dX5_fewestOf_97 (by decide) ?_
          refine V.pick [2, 3, 1, 0] rfl ?_
          exact ih M v2 v4 (v4 + 1) h k
        · refine V_iinc (ls' := [(4, vI (v4 + 1)), (0, vR (some 17)), (2, vI v2), (3, vI v3)]) dX5_fewestOf_94 (xm 3 rfl) (by decide) rfl ?_
          refine V_goto (tgt := 61) dX5_fewestOf_97 (by decide) ?_
          refine V.pick [1, 2, 3, 0] rfl ?_
          exact ih M v2 v3 (v4 + 1) h k
      · refine V_iinc (ls' := [(4, vI (v4 + 1)), (0, vR (some 17)), (2, vI v2), (3, vI v3)]) dX5_fewestOf_94 (xm 3 rfl) (by decide) rfl ?_
        refine V_goto (tgt := 61) dX5_fewestOf_97 (by decide) ?_
        refine V.pick [1, 2, 3, 0] rfl ?_
        exact ih M v2 v3 (v4 + 1) h k
    · cases h
      refine V.pick [0, 1, 2] rfl ?_
      exact k
theorem fX5_fewestOf_L61_ci {S : xS} {kp : Option Nat} (hS : xSk kp 23 S) {Q : Option xV → xS → xM → Prop} {n : Nat} {M : xM} {v2 : Int} {v3 : Int} {v4 : Int} {x3 : Int} (hl : fX5_fewestOf_L61 n M v2 v3 v4 = some x3) (k : V Y_X5_fewestOf 4 0 0 100 [(0, vR (some 17)), (2, vI v2), (3, vI x3)] [] S M Q) : V Y_X5_fewestOf 4 0 0 61 [(0, vR (some 17)), (2, vI v2), (3, vI v3), (4, vI v4)] [] S M Q := fX5_fewestOf_L61_c hS _ _ _ _ _ hl k
def fX5_fewestOf_L106 (n : Nat) (M : xM) (v2 : Int) (v3 : Int) (v4 : Int) (v5 : Int) : Option (Int) := match n with
  | 0 => none
  | n + 1 => (if wr v5 < wr v2 then (xrd M 22 24 v5 fun r10 => fX5_fewestOf_L106 n M v2 v3 (xor_ v4 (xshl (xand (xshr v3 v5) 1) r10)) (v5 + 1)) else some v4)
set_option maxRecDepth 20000 in
set_option maxHeartbeats 1000000 in
theorem fX5_fewestOf_L106_c {S : xS} {kp : Option Nat} (hS : xSk kp 23 S) {Q : Option xV → xS → xM → Prop} :
    ∀ (n : Nat) (M : xM) (v2 : Int) (v3 : Int) (v4 : Int) (v5 : Int) {x4 : Int}, fX5_fewestOf_L106 n M v2 v3 v4 v5 = some x4 → V Y_X5_fewestOf 4 0 0 137 [(4, vI x4)] [] S M Q → V Y_X5_fewestOf 4 0 0 106 [(0, vR (some 17)), (2, vI v2), (3, vI v3), (4, vI v4), (5, vI v5)] [] S M Q := by
  intro n
  induction n with
  | zero =>
    intro M v2 v3 v4 v5 x4 h k
    cases h
  | succ n ih =>
    intro M v2 v3 v4 v5 x4 h k
    rw [fX5_fewestOf_L106] at h
    refine V_iload dX5_fewestOf_106 (xm 4 rfl) ?_
    refine V_iload_n dX5_fewestOf_108 rfl (xm 1 rfl) ?_
    refine V_icmp_ge (tgt := 137) dX5_fewestOf_109 (by decide) h (fun _ h => ?_) (fun _ h => ?_)
    · refine V_iload dX5_fewestOf_112 (xm 3 rfl) ?_
      refine V_iload_n dX5_fewestOf_114 rfl (xm 2 rfl) ?_
      refine V_iload dX5_fewestOf_115 (xm 4 rfl) ?_
      refine V_ishr dX5_fewestOf_117 ?_
      refine V_iconst dX5_fewestOf_118 ?_
      refine V_iand dX5_fewestOf_119 ?_
      refine V_aload_n dX5_fewestOf_120 rfl (xm 0 rfl) ?_
      refine V_getR dX5_fewestOf_121 fl_X5_24 (sk_17 hS (by decide)) rfl ?_
      refine V_iload dX5_fewestOf_124 (xm 4 rfl) ?_
      refine T_iald dX5_fewestOf_126 (sk_22 hS (by decide)) rfl h (fun r10 h => ?_)
      refine V_ishl dX5_fewestOf_127 ?_
      refine V_ior dX5_fewestOf_128 ?_
      refine V_istore (ls' := [(4, vI (xor_ v4 (xshl (xand (xshr v3 v5) 1) r10))), (0, vR (some 17)), (2, vI v2), (3, vI v3), (5, vI v5)]) dX5_fewestOf_129 (by decide) rfl ?_
      refine V_iinc (ls' := [(5, vI (v5 + 1)), (4, vI (xor_ v4 (xshl (xand (xshr v3 v5) 1) r10))), (0, vR (some 17)), (2, vI v2), (3, vI v3)]) dX5_fewestOf_131 (xm 4 rfl) (by decide) rfl ?_
      refine V_goto (tgt := 106) dX5_fewestOf_134 (by decide) ?_
      refine V.pick [2, 3, 4, 1, 0] rfl ?_
      exact ih M v2 v3 (xor_ v4 (xshl (xand (xshr v3 v5) 1) r10)) (v5 + 1) h k
    · cases h
      refine V.pick [3] rfl ?_
      exact k
theorem fX5_fewestOf_L106_ci {S : xS} {kp : Option Nat} (hS : xSk kp 23 S) {Q : Option xV → xS → xM → Prop} {n : Nat} {M : xM} {v2 : Int} {v3 : Int} {v4 : Int} {v5 : Int} {x4 : Int} (hl : fX5_fewestOf_L106 n M v2 v3 v4 v5 = some x4) (k : V Y_X5_fewestOf 4 0 0 137 [(4, vI x4)] [] S M Q) : V Y_X5_fewestOf 4 0 0 106 [(0, vR (some 17)), (2, vI v2), (3, vI v3), (4, vI v4), (5, vI v5)] [] S M Q := fX5_fewestOf_L106_c hS _ _ _ _ _ _ hl k
def fX5_fewestOf (M : xM) (v1 : Int) : Option (Int × xM) := xb2 (fX5_fewestOf_L4 xfuel M v1 0 0) fun y3 M4 => xb (fX5_fewestOf_L61 xfuel M4 y3 ((xshl 1 y3) - 1) 0) fun y8 => xb (fX5_fewestOf_L106 xfuel M4 y3 y8 0 0) fun y11 => some (y11, M4)
set_option maxRecDepth 20000 in
set_option maxHeartbeats 1000000 in
theorem fX5_fewestOf_c {S : xS} {kp : Option Nat} (hS : xSk kp 23 S) {M : xM} {v1 : Int} {E : Int × xM} (h : fX5_fewestOf M v1 = some E) :
    V Y_X5_fewestOf 4 0 0 0 (xarg 0 [vR (some 17), vI v1]) [] S M (xqR S E.2 (some (vI E.1))) := by
  unfold fX5_fewestOf at h
  show V Y_X5_fewestOf 4 0 0 0 [(0, vR (some 17)), (1, vI v1)] [] S M _
  refine V_iconst dX5_fewestOf_0 ?_
  refine V_istore_n (ls' := [(2, vI 0), (0, vR (some 17)), (1, vI v1)]) dX5_fewestOf_1 rfl (by decide) rfl ?_
  refine V_iconst dX5_fewestOf_2 ?_
  refine V_istore_n (ls' := [(3, vI 0), (2, vI 0), (0, vR (some 17)), (1, vI v1)]) dX5_fewestOf_3 rfl (by decide) rfl ?_
  refine xb2E h (fun y3 M4 h5 h => ?_)
  refine V.pick [2, 3, 1, 0] rfl ?_
  refine fX5_fewestOf_L4_ci (hS.le (by decide)) h5 ?_
  refine V_iconst dX5_fewestOf_52 ?_
  refine V_iload_n dX5_fewestOf_53 rfl (xm 1 rfl) ?_
  refine V_ishl dX5_fewestOf_54 ?_
  refine V_iconst dX5_fewestOf_55 ?_
  refine V_isub dX5_fewestOf_56 ?_
  refine V_istore_n (ls' := [(3, vI ((xshl 1 y3) - 1)), (0, vR (some 17)), (2, vI y3)]) dX5_fewestOf_57 rfl (by decide) rfl ?_
  refine V_iconst dX5_fewestOf_58 ?_
  refine V_istore (ls' := [(4, vI 0), (3, vI ((xshl 1 y3) - 1)), (0, vR (some 17)), (2, vI y3)]) dX5_fewestOf_59 (by decide) rfl ?_
  refine xbE h (fun y8 h9 h => ?_)
  refine V.pick [2, 3, 1, 0] rfl ?_
  refine fX5_fewestOf_L61_ci (hS.le (by decide)) h9 ?_
  refine V_iconst dX5_fewestOf_100 ?_
  refine V_istore (ls' := [(4, vI 0), (0, vR (some 17)), (2, vI y3), (3, vI y8)]) dX5_fewestOf_101 (by decide) rfl ?_
  refine V_iconst dX5_fewestOf_103 ?_
  refine V_istore (ls' := [(5, vI 0), (4, vI 0), (0, vR (some 17)), (2, vI y3), (3, vI y8)]) dX5_fewestOf_104 (by decide) rfl ?_
  refine xbE h (fun y11 h12 h => ?_)
  refine V.pick [2, 3, 4, 1, 0] rfl ?_
  refine fX5_fewestOf_L106_ci (hS.le (by decide)) h12 ?_
  refine V_iload dX5_fewestOf_137 (xm 0 rfl) ?_
  exact V_ireti dX5_fewestOf_139 rfl (q_wI h)
def fX11_fewest (M : xM) (v1 : Int) : Option (Int × xM) := (if (fX4_has M v1) = true then (xb2 (fX5_fewestOf M v1) fun r2 M3 => some (r2, M3)) else some ((-1), M))
set_option maxRecDepth 20000 in
set_option maxHeartbeats 1000000 in
theorem fX11_fewest_c {S : xS} {kp : Option Nat} (hS : xSk kp 94 S) {M : xM} {v1 : Int} {E : Int × xM} (h : fX11_fewest M v1 = some E) :
    V Y_X11_fewest 5 0 0 0 (xarg 0 [vR (some 0), vI v1]) [] S M (xqR S E.2 (some (vI E.1))) := by
  unfold fX11_fewest at h
  show V Y_X11_fewest 5 0 0 0 [(0, vR (some 0)), (1, vI v1)] [] S M _
  refine V_aload_n dX11_fewest_0 rfl (xm 0 rfl) ?_
  refine V_getR dX11_fewest_1 fl_X11_12 (sk_0 hS (by decide)) rfl ?_
  refine V_getR dX11_fewest_4 fl_X11_82 (sk_1 hS (by decide)) rfl ?_
  refine V_iload_n dX11_fewest_7 rfl (xm 1 rfl) ?_
  refine T_callVI dX11_fewest_8 ok_X4_has (by exact ⟨by decide, rfl⟩) lk_X11_145.1 lk_X11_145.2 (sk_5 hS (by decide)) (hV := ((fX4_has_c (hS.le (by decide)) rfl).mono (by decide) (Nat.le_refl _) (Nat.le_refl _))) rfl (Nat.le_of_ble_eq_true rfl) rfl (Nat.le_of_ble_eq_true rfl) ?_
  refine V_if_eqB (tgt := 28) dX11_fewest_11 (by decide) h (fun _ h => ?_) (fun _ h => ?_)
  · refine V_aload_n dX11_fewest_14 rfl (xm 0 rfl) ?_
    refine V_getR dX11_fewest_15 fl_X11_12 (sk_0 hS (by decide)) rfl ?_
    refine V_getR dX11_fewest_18 fl_X11_175 (sk_1 hS (by decide)) rfl ?_
    refine V_iload_n dX11_fewest_21 rfl (xm 1 rfl) ?_
    refine xb2E h (fun r2 M3 h1 h => ?_)
    refine T_callVI dX11_fewest_22 ok_X5_fewestOf (by exact ⟨by decide, rfl⟩) lk_X11_293.1 lk_X11_293.2 (sk_17 hS (by decide)) (hV := ((fX5_fewestOf_c (hS.le (by decide)) h1).mono (by decide) (Nat.le_refl _) (Nat.le_refl _))) rfl (Nat.le_of_ble_eq_true rfl) rfl (Nat.le_of_ble_eq_true rfl) ?_
    refine V_goto (tgt := 29) dX11_fewest_25 (by decide) ?_
    exact V_ireti dX11_fewest_29 rfl (q_wI h)
  · refine V_iconst dX11_fewest_28 ?_
    exact V_ireti dX11_fewest_29 rfl (q_wI h)
def fX11_plan (M : xM) (v1 : Int) (v2 : Int) : Option (Bool × xM) := (if (fX11_within v1 0 59) = true then (if (fX11_isTurn v2) = true then (xwt M 4 60 v1 v2 fun M1 => some (true, M1)) else some (false, M)) else some (false, M))
set_option maxRecDepth 20000 in
set_option maxHeartbeats 1000000 in
theorem fX11_plan_c {S : xS} {kp : Option Nat} (hS : xSk kp 94 S) {M : xM} {v1 : Int} {v2 : Int} {E : Bool × xM} (h : fX11_plan M v1 v2 = some E) :
    V Y_X11_plan 2 0 0 0 (xarg 0 [vR (some 0), vI v1, vI v2]) [] S M (xqR S E.2 (some (vI (b2i E.1)))) := by
  unfold fX11_plan at h
  show V Y_X11_plan 2 0 0 0 [(0, vR (some 0)), (1, vI v1), (2, vI v2)] [] S M _
  refine V_iload_n dX11_plan_0 rfl (xm 1 rfl) ?_
  refine V_iconst dX11_plan_1 ?_
  refine V_bipush dX11_plan_2 (by decide) ?_
  refine T_callSI (host := "") dX11_plan_4 ok_X11_within lk_X11_60.1 lk_X11_60.2 (hV := ((fX11_within_c (hS.le (by decide)) rfl).mono (by decide) (Nat.le_refl _) (Nat.le_refl _))) rfl (Nat.le_of_ble_eq_true rfl) rfl (Nat.le_of_ble_eq_true rfl) ?_
  refine V_if_eqB (tgt := 17) dX11_plan_7 (by decide) h (fun _ h => ?_) (fun _ h => ?_)
  · refine V_iload_n dX11_plan_10 rfl (xm 2 rfl) ?_
    refine T_callSI (host := "") dX11_plan_11 ok_X11_isTurn lk_X11_148.1 lk_X11_148.2 (hV := ((fX11_isTurn_c (hS.le (by decide)) rfl).mono (by decide) (Nat.le_refl _) (Nat.le_refl _))) rfl (Nat.le_of_ble_eq_true rfl) rfl (Nat.le_of_ble_eq_true rfl) ?_
    refine V_if_neB (tgt := 19) dX11_plan_14 (by decide) h (fun _ h => ?_) (fun _ h => ?_)
    · refine V_aload_n dX11_plan_19 rfl (xm 0 rfl) ?_
      refine V_getR dX11_plan_20 fl_X11_12 (sk_0 hS (by decide)) rfl ?_
      refine V_getR dX11_plan_23 fl_X11_296 (sk_1 hS (by decide)) rfl ?_
      refine V_iload_n dX11_plan_26 rfl (xm 1 rfl) ?_
      refine V_iload_n dX11_plan_27 rfl (xm 2 rfl) ?_
      refine T_iast dX11_plan_28 (sk_4 hS (by decide)) rfl h (fun M1 h => ?_)
      refine V_iconst dX11_plan_29 ?_
      exact V_iretb (b := true) dX11_plan_30 rfl (by decide) (q_wB h)
    · refine V_iconst dX11_plan_17 ?_
      exact V_iretb (b := false) dX11_plan_18 rfl (by decide) (q_wB h)
  · refine V_iconst dX11_plan_17 ?_
    exact V_iretb (b := false) dX11_plan_18 rfl (by decide) (q_wB h)
def fX11_boat_L49 (n : Nat) (M : xM) (v1 : Int) (v2 : Int) (v3 : Int) (v4 : Int) (v5 : Int) : Option ((Unit) ⊕ (Int)) := match n with
  | 0 => none
  | n + 1 => (if wr v5 < wr 60 then (xrd M 4 60 v5 fun r1 => xb (fX11_wrap (v4 + r1) (M 1 0)) fun r3 => (if wr v5 < wr v2 then fX11_boat_L49 n M v1 v2 v3 r3 (v5 + 1) else (xb (fX1_angleOf M v1 r3) fun r5 => (if wr r5 = wr v3 then some (.inr (v5 - v2)) else fX11_boat_L49 n M v1 v2 v3 r3 (v5 + 1))))) else some (.inl ()))
set_option maxRecDepth 20000 in
set_option maxHeartbeats 1000000 in
theorem fX11_boat_L49_c {S : xS} {kp : Option Nat} (hS : xSk kp 94 S) {Q : Option xV → xS → xM → Prop} :
    ∀ (n : Nat) (M : xM) (v1 : Int) (v2 : Int) (v3 : Int) (v4 : Int) (v5 : Int) {E : (Unit) ⊕ (Int)}, fX11_boat_L49 n M v1 v2 v3 v4 v5 = some E → (E = .inl () → V Y_X11_boat 3 0 0 112 [] [] S M Q) → (∀ (w : Int), E = .inr w → Q (some (vI w)) S M) → V Y_X11_boat 3 0 0 49 [(0, vR (some 0)), (1, vI v1), (2, vI v2), (3, vI v3), (4, vI v4), (5, vI v5)] [] S M Q := by
  intro n
  induction n with
  | zero =>
    intro M v1 v2 v3 v4 v5 E h k kr
    cases h
  | succ n ih =>
    intro M v1 v2 v3 v4 v5 E h k kr
    rw [fX11_boat_L49] at h
    refine V_iload dX11_boat_49 (xm 5 rfl) ?_
    refine V_bipush dX11_boat_51 (by decide) ?_
    refine V_icmp_ge (tgt := 112) dX11_boat_53 (by decide) h (fun _ h => ?_) (fun _ h => ?_)
    · refine V_iload dX11_boat_56 (xm 4 rfl) ?_
      refine V_aload_n dX11_boat_58 rfl (xm 0 rfl) ?_
      refine V_getR dX11_boat_59 fl_X11_12 (sk_0 hS (by decide)) rfl ?_
      refine V_getR dX11_boat_62 fl_X11_296 (sk_1 hS (by decide)) rfl ?_
      refine V_iload dX11_boat_65 (xm 5 rfl) ?_
      refine T_iald dX11_boat_67 (sk_4 hS (by decide)) rfl h (fun r1 h => ?_)
      refine V_iadd dX11_boat_68 ?_
      refine V_aload_n dX11_boat_69 rfl (xm 0 rfl) ?_
      refine V_getR dX11_boat_70 fl_X11_12 (sk_0 hS (by decide)) rfl ?_
      refine V_getI (kI := 0) dX11_boat_73 fl_X11_228 (sk_1 hS (by decide)) rfl rfl ?_
      refine xbE h (fun r3 h2 h => ?_)
      refine T_callSI (host := "") dX11_boat_76 ok_X11_wrap lk_X11_231.1 lk_X11_231.2 (hV := ((fX11_wrap_c (hS.le (by decide)) h2).mono (by decide) (Nat.le_refl _) (Nat.le_refl _))) rfl (Nat.le_of_ble_eq_true rfl) rfl (Nat.le_of_ble_eq_true rfl) ?_
      refine V_istore (ls' := [(4, vI r3), (0, vR (some 0)), (1, vI v1), (2, vI v2), (3, vI v3), (5, vI v5)]) dX11_boat_79 (by decide) rfl ?_
      refine V_iload dX11_boat_81 (xm 5 rfl) ?_
      refine V_iload_n dX11_boat_83 rfl (xm 3 rfl) ?_
      refine V_icmp_lt (tgt := 106) dX11_boat_84 (by decide) h (fun _ h => ?_) (fun _ h => ?_)
      · refine V_iinc (ls' := [(5, vI (v5 + 1)), (4, vI r3), (0, vR (some 0)), (1, vI v1), (2, vI v2), (3, vI v3)]) dX11_boat_106 (xm 5 rfl) (by decide) rfl ?_
        refine V_goto (tgt := 49) dX11_boat_109 (by decide) ?_
        refine V.pick [2, 3, 4, 5, 1, 0] rfl ?_
        exact ih M v1 v2 v3 r3 (v5 + 1) h k kr
      · refine V_aload_n dX11_boat_87 rfl (xm 1 rfl) ?_
        refine V_getR dX11_boat_88 fl_X11_12 (sk_0 hS (by decide)) rfl ?_
        refine V_iload_n dX11_boat_91 rfl (xm 2 rfl) ?_
        refine V_iload dX11_boat_92 (xm 0 rfl) ?_
        refine xbE h (fun r5 h4 h => ?_)
        refine T_callVI dX11_boat_94 ok_X1_angleOf (by exact ⟨by decide, rfl⟩) lk_X11_243.1 lk_X11_243.2 (sk_1 hS (by decide)) (hV := ((fX1_angleOf_c (hS.le (by decide)) h4).mono (by decide) (Nat.le_refl _) (Nat.le_refl _))) rfl (Nat.le_of_ble_eq_true rfl) rfl (Nat.le_of_ble_eq_true rfl) ?_
        refine V_iload_n dX11_boat_97 rfl (xm 4 rfl) ?_
        refine V_icmp_ne (tgt := 106) dX11_boat_98 (by decide) h (fun _ h => ?_) (fun _ h => ?_)
        · refine V_iload dX11_boat_101 (xm 5 rfl) ?_
          refine V_iload_n dX11_boat_103 rfl (xm 3 rfl) ?_
          refine V_isub dX11_boat_104 ?_
          exact V_ireti dX11_boat_105 rfl (kr (v5 - v2) (Option.some.inj h).symm)
        · refine V_iinc (ls' := [(5, vI (v5 + 1)), (4, vI r3), (0, vR (some 0)), (1, vI v1), (2, vI v2), (3, vI v3)]) dX11_boat_106 (xm 5 rfl) (by decide) rfl ?_
          refine V_goto (tgt := 49) dX11_boat_109 (by decide) ?_
          refine V.pick [2, 3, 4, 5, 1, 0] rfl ?_
          exact ih M v1 v2 v3 r3 (v5 + 1) h k kr
    · refine V.pick [] rfl ?_
      exact k  (Option.some.inj h).symm
theorem fX11_boat_L49_ci {S : xS} {kp : Option Nat} (hS : xSk kp 94 S) {Q : Option xV → xS → xM → Prop} {n : Nat} {M : xM} {v1 : Int} {v2 : Int} {v3 : Int} {v4 : Int} {v5 : Int} (hl : fX11_boat_L49 n M v1 v2 v3 v4 v5 = some (.inl ())) (k : V Y_X11_boat 3 0 0 112 [] [] S M Q) : V Y_X11_boat 3 0 0 49 [(0, vR (some 0)), (1, vI v1), (2, vI v2), (3, vI v3), (4, vI v4), (5, vI v5)] [] S M Q := fX11_boat_L49_c hS _ _ _ _ _ _ _ hl (fun  e => by cases e; exact k) (fun _ e => by cases e)
theorem fX11_boat_L49_cr {S : xS} {kp : Option Nat} (hS : xSk kp 94 S) {Q : Option xV → xS → xM → Prop} {n : Nat} {M : xM} {v1 : Int} {v2 : Int} {v3 : Int} {v4 : Int} {v5 : Int} {w : Int} (hl : fX11_boat_L49 n M v1 v2 v3 v4 v5 = some (.inr w)) (k : Q (some (vI w)) S M) : V Y_X11_boat 3 0 0 49 [(0, vR (some 0)), (1, vI v1), (2, vI v2), (3, vI v3), (4, vI v4), (5, vI v5)] [] S M Q := fX11_boat_L49_c hS _ _ _ _ _ _ _ hl (fun  e => by cases e) (fun _ e => by cases e; exact k)
def fX11_boat (M : xM) (v1 : Int) (v2 : Int) (v3 : Int) : Option Int := (if (fX4_has M v1) = true then (if (fX11_within v2 0 59) = true then (if (fX1_hasAngle M v3) = true then (xs0 (fX11_boat_L49 xfuel M v1 v2 v3 (M 1 1) 0) (some ((-1))) (fun r => some r)) else some ((-1))) else some ((-1))) else some ((-1)))
set_option maxRecDepth 20000 in
set_option maxHeartbeats 1000000 in
theorem fX11_boat_c {S : xS} {kp : Option Nat} (hS : xSk kp 94 S) {M : xM} {v1 : Int} {v2 : Int} {v3 : Int} {E : Int} (h : fX11_boat M v1 v2 v3 = some E) :
    V Y_X11_boat 3 0 0 0 (xarg 0 [vR (some 0), vI v1, vI v2, vI v3]) [] S M (xqR S M (some (vI E))) := by
  unfold fX11_boat at h
  show V Y_X11_boat 3 0 0 0 [(0, vR (some 0)), (1, vI v1), (2, vI v2), (3, vI v3)] [] S M _
  refine V_aload_n dX11_boat_0 rfl (xm 0 rfl) ?_
  refine V_getR dX11_boat_1 fl_X11_12 (sk_0 hS (by decide)) rfl ?_
  refine V_getR dX11_boat_4 fl_X11_82 (sk_1 hS (by decide)) rfl ?_
  refine V_iload_n dX11_boat_7 rfl (xm 1 rfl) ?_
  refine T_callVI dX11_boat_8 ok_X4_has (by exact ⟨by decide, rfl⟩) lk_X11_145.1 lk_X11_145.2 (sk_5 hS (by decide)) (hV := ((fX4_has_c (hS.le (by decide)) rfl).mono (by decide) (Nat.le_refl _) (Nat.le_refl _))) rfl (Nat.le_of_ble_eq_true rfl) rfl (Nat.le_of_ble_eq_true rfl) ?_
  refine V_if_eqB (tgt := 35) dX11_boat_11 (by decide) h (fun _ h => ?_) (fun _ h => ?_)
  · refine V_iload_n dX11_boat_14 rfl (xm 2 rfl) ?_
    refine V_iconst dX11_boat_15 ?_
    refine V_bipush dX11_boat_16 (by decide) ?_
    refine T_callSI (host := "") dX11_boat_18 ok_X11_within lk_X11_60.1 lk_X11_60.2 (hV := ((fX11_within_c (hS.le (by decide)) rfl).mono (by decide) (Nat.le_refl _) (Nat.le_refl _))) rfl (Nat.le_of_ble_eq_true rfl) rfl (Nat.le_of_ble_eq_true rfl) ?_
    refine V_if_eqB (tgt := 35) dX11_boat_21 (by decide) h (fun _ h => ?_) (fun _ h => ?_)
    · refine V_aload_n dX11_boat_24 rfl (xm 0 rfl) ?_
      refine V_getR dX11_boat_25 fl_X11_12 (sk_0 hS (by decide)) rfl ?_
      refine V_iload_n dX11_boat_28 rfl (xm 3 rfl) ?_
      refine T_callVI dX11_boat_29 ok_X1_hasAngle (by exact ⟨by decide, rfl⟩) lk_X11_68.1 lk_X11_68.2 (sk_1 hS (by decide)) (hV := ((fX1_hasAngle_c (hS.le (by decide)) rfl).mono (by decide) (Nat.le_refl _) (Nat.le_refl _))) rfl (Nat.le_of_ble_eq_true rfl) rfl (Nat.le_of_ble_eq_true rfl) ?_
      refine V_if_neB (tgt := 37) dX11_boat_32 (by decide) h (fun _ h => ?_) (fun _ h => ?_)
      · refine V_aload_n dX11_boat_37 rfl (xm 0 rfl) ?_
        refine V_getR dX11_boat_38 fl_X11_12 (sk_0 hS (by decide)) rfl ?_
        refine V_getI (kI := 1) dX11_boat_41 fl_X11_100 (sk_1 hS (by decide)) rfl rfl ?_
        refine V_istore (ls' := [(4, vI (M 1 1)), (0, vR (some 0)), (1, vI v1), (2, vI v2), (3, vI v3)]) dX11_boat_44 (by decide) rfl ?_
        refine V_iconst dX11_boat_46 ?_
        refine V_istore (ls' := [(5, vI 0), (4, vI (M 1 1)), (0, vR (some 0)), (1, vI v1), (2, vI v2), (3, vI v3)]) dX11_boat_47 (by decide) rfl ?_
        refine xs0E h (fun  h6 h => ?_) (fun r h6 h => ?_)
        · refine V.pick [2, 3, 4, 5, 1, 0] rfl ?_
          refine fX11_boat_L49_ci (hS.le (by decide)) h6 ?_
          refine V_iconst dX11_boat_112 ?_
          exact V_ireti dX11_boat_113 rfl (q_pI h)
        · refine V.pick [2, 3, 4, 5, 1, 0] rfl ?_
          refine fX11_boat_L49_cr (hS.le (by decide)) h6 ?_
          exact q_pI h
      · refine V_iconst dX11_boat_35 ?_
        exact V_ireti dX11_boat_36 rfl (q_pI h)
    · refine V_iconst dX11_boat_35 ?_
      exact V_ireti dX11_boat_36 rfl (q_pI h)
  · refine V_iconst dX11_boat_35 ?_
    exact V_ireti dX11_boat_36 rfl (q_pI h)
def fX2_take (M : xM) (v1 : Int) (v2 : Int) (v3 : Int) : Option xM := xwt M 24 40 (M 23 0) v1 fun M1 => xwt M1 25 40 (M1 23 0) v2 fun M2 => xwt M2 26 40 (M2 23 0) v3 fun M3 => xlet (xup M3 23 0 ((M3 23 0) + 1)) fun M4 => some M4
set_option maxRecDepth 20000 in
set_option maxHeartbeats 1000000 in
theorem fX2_take_c {S : xS} {kp : Option Nat} (hS : xSk kp 27 S) {M : xM} {v1 : Int} {v2 : Int} {v3 : Int} {E : xM} (h : fX2_take M v1 v2 v3 = some E) :
    V Y_X2_take 0 0 0 0 (xarg 0 [vR (some 23), vI v1, vI v2, vI v3]) [] S M (xqR S E none) := by
  unfold fX2_take at h
  show V Y_X2_take 0 0 0 0 [(0, vR (some 23)), (1, vI v1), (2, vI v2), (3, vI v3)] [] S M _
  refine V_aload_n dX2_take_0 rfl (xm 0 rfl) ?_
  refine V_getR dX2_take_1 fl_X2_9 (sk_23 hS (by decide)) rfl ?_
  refine V_aload_n dX2_take_4 rfl (xm 0 rfl) ?_
  refine V_getI (kI := 0) dX2_take_5 fl_X2_19 (sk_23 hS (by decide)) rfl rfl ?_
  refine V_iload_n dX2_take_8 rfl (xm 1 rfl) ?_
  refine T_iast dX2_take_9 (sk_24 hS (by decide)) rfl h (fun M1 h => ?_)
  refine V_aload_n dX2_take_10 rfl (xm 0 rfl) ?_
  refine V_getR dX2_take_11 fl_X2_13 (sk_23 hS (by decide)) rfl ?_
  refine V_aload_n dX2_take_14 rfl (xm 0 rfl) ?_
  refine V_getI (kI := 0) dX2_take_15 fl_X2_19 (sk_23 hS (by decide)) rfl rfl ?_
  refine V_iload_n dX2_take_18 rfl (xm 2 rfl) ?_
  refine T_iast dX2_take_19 (sk_25 hS (by decide)) rfl h (fun M2 h => ?_)
  refine V_aload_n dX2_take_20 rfl (xm 0 rfl) ?_
  refine V_getR dX2_take_21 fl_X2_16 (sk_23 hS (by decide)) rfl ?_
  refine V_aload_n dX2_take_24 rfl (xm 0 rfl) ?_
  refine V_getI (kI := 0) dX2_take_25 fl_X2_19 (sk_23 hS (by decide)) rfl rfl ?_
  refine V_iload_n dX2_take_28 rfl (xm 3 rfl) ?_
  refine T_iast dX2_take_29 (sk_26 hS (by decide)) rfl h (fun M3 h => ?_)
  refine V_aload_n dX2_take_30 rfl (xm 0 rfl) ?_
  refine V_dup dX2_take_31 rfl ?_
  refine V_getI (kI := 0) dX2_take_32 fl_X2_19 (sk_23 hS (by decide)) rfl rfl ?_
  refine V_iconst dX2_take_35 ?_
  refine V_iadd dX2_take_36 ?_
  refine T_putI (kI := 0) dX2_take_37 fp_X2_19 (sk_23 hS (by decide)) rfl rfl h (fun M4 h => ?_)
  exact V_ret dX2_take_40 rfl (q_v h)
