def fX12_noons (M : xM) (v1 : Int) : Option (Int × xM) := (if (fX12_isIn v1 1 400) = true then (if wr 9999 < wr ((M 95 2) + v1) then some ((-1), M) else (xb2 (fX12_noons_L31 xfuel M v1 0 0) fun y6 M7 => some (y6, M7))) else some ((-1), M))
set_option maxRecDepth 20000 in
set_option maxHeartbeats 1000000 in
theorem fX12_noons_c {S : xS} {kp : Option Nat} (hS : xSk kp 103 S) {M : xM} {v1 : Int} {E : Int × xM} (h : fX12_noons M v1 = some E) :
    V Y_X12_noons 5 0 0 0 (xarg 0 [vR (some 94), vI v1]) [] S M (xqR S E.2 (some (vI E.1))) := by
  unfold fX12_noons at h
  show V Y_X12_noons 5 0 0 0 [(0, vR (some 94)), (1, vI v1)] [] S M _
  refine V_iload_n dX12_noons_0 rfl (xm 1 rfl) ?_
  refine V_iconst dX12_noons_1 ?_
  refine V_sipush dX12_noons_2 (by decide) ?_
  refine T_callSI (host := "") dX12_noons_5 ok_X12_isIn lk_X12_70.1 lk_X12_70.2 (hV := ((fX12_isIn_c (hS.le (by decide)) rfl).mono (by decide) (Nat.le_refl _) (Nat.le_refl _))) rfl (Nat.le_of_ble_eq_true rfl) rfl (Nat.le_of_ble_eq_true rfl) ?_
  refine V_if_eqB (tgt := 25) dX12_noons_8 (by decide) h (fun _ h => ?_) (fun _ h => ?_)
  · refine V_aload_n dX12_noons_11 rfl (xm 0 rfl) ?_
    refine V_getR dX12_noons_12 fl_X12_7 (sk_94 hS (by decide)) rfl ?_
    refine V_iconst dX12_noons_15 ?_
    refine V_ialdK (j := 2) dX12_noons_16 (sk_95 hS (by decide)) (by decide) (by decide) ?_
    refine V_iload_n dX12_noons_17 rfl (xm 1 rfl) ?_
    refine V_iadd dX12_noons_18 ?_
    refine V_sipush dX12_noons_19 (by decide) ?_
    refine V_icmp_le (tgt := 27) dX12_noons_22 (by decide) h (fun _ h => ?_) (fun _ h => ?_)
    · refine V_iconst dX12_noons_25 ?_
      exact V_ireti dX12_noons_26 rfl (q_wI h)
    · refine V_iconst dX12_noons_27 ?_
      refine V_istore_n (ls' := [(2, vI 0), (0, vR (some 94)), (1, vI v1)]) dX12_noons_28 rfl (by decide) rfl ?_
      refine V_iconst dX12_noons_29 ?_
      refine V_istore_n (ls' := [(3, vI 0), (2, vI 0), (0, vR (some 94)), (1, vI v1)]) dX12_noons_30 rfl (by decide) rfl ?_
      refine xb2E h (fun y6 M7 h8 h => ?_)
      refine V.pick [2, 3, 1, 0] rfl ?_
      refine fX12_noons_L31_ci (hS.le (by decide)) h8 ?_
      refine V_iload_n dX12_noons_53 rfl (xm 0 rfl) ?_
      exact V_ireti dX12_noons_54 rfl (q_wI h)
  · refine V_iconst dX12_noons_25 ?_
    exact V_ireti dX12_noons_26 rfl (q_wI h)
def fX12_turned_L10 (n : Nat) (M : xM) (v1 : Int) (v2 : Int) : Option ((Unit) ⊕ (Int)) := match n with
  | 0 => none
  | n + 1 => (if wr v2 < 0 then some (.inl ()) else (if wr v2 < wr ((M 95 9) - 400) then some (.inl ()) else (xrd M 95 5820 (1490 + (2 * v2)) fun r1 => (if wr r1 = wr v1 then (xrd M 95 5820 ((1490 + (2 * v2)) + 1) fun r2 => some (.inr (r2 + 2))) else fX12_turned_L10 n M v1 (v2 + (-1))))))
set_option maxRecDepth 20000 in
set_option maxHeartbeats 1000000 in
theorem fX12_turned_L10_c {S : xS} {kp : Option Nat} (hS : xSk kp 96 S) {Q : Option xV → xS → xM → Prop} :
    ∀ (n : Nat) (M : xM) (v1 : Int) (v2 : Int) {E : (Unit) ⊕ (Int)}, fX12_turned_L10 n M v1 v2 = some E → (E = .inl () → V Y_X12_turned 0 0 0 68 [] [] S M Q) → (∀ (w : Int), E = .inr w → Q (some (vI w)) S M) → V Y_X12_turned 0 0 0 10 [(0, vR (some 94)), (1, vI v1), (2, vI v2)] [] S M Q := by
  intro n
  induction n with
  | zero =>
    intro M v1 v2 E h k kr
    cases h
  | succ n ih =>
    intro M v1 v2 E h k kr
    rw [fX12_turned_L10] at h
    refine V_iload_n dX12_turned_10 rfl (xm 2 rfl) ?_
    refine V_if_lt (tgt := 68) dX12_turned_11 (by decide) h (fun _ h => ?_) (fun _ h => ?_)
    · refine V.pick [] rfl ?_
      exact k  (Option.some.inj h).symm
    · refine V_iload_n dX12_turned_14 rfl (xm 2 rfl) ?_
      refine V_aload_n dX12_turned_15 rfl (xm 0 rfl) ?_
      refine V_getR dX12_turned_16 fl_X12_7 (sk_94 hS (by decide)) rfl ?_
      refine V_bipush dX12_turned_19 (by decide) ?_
      refine V_ialdK (j := 9) dX12_turned_21 (sk_95 hS (by decide)) (by decide) (by decide) ?_
      refine V_sipush dX12_turned_22 (by decide) ?_
      refine V_isub dX12_turned_25 ?_
      refine V_icmp_lt (tgt := 68) dX12_turned_26 (by decide) h (fun _ h => ?_) (fun _ h => ?_)
      · refine V.pick [] rfl ?_
        exact k  (Option.some.inj h).symm
      · refine V_aload_n dX12_turned_29 rfl (xm 0 rfl) ?_
        refine V_getR dX12_turned_30 fl_X12_7 (sk_94 hS (by decide)) rfl ?_
        refine V_sipush dX12_turned_33 (by decide) ?_
        refine V_iconst dX12_turned_36 ?_
        refine V_iload_n dX12_turned_37 rfl (xm 2 rfl) ?_
        refine V_imul dX12_turned_38 ?_
        refine V_iadd dX12_turned_39 ?_
        refine T_iald dX12_turned_40 (sk_95 hS (by decide)) rfl h (fun r1 h => ?_)
        refine V_iload_n dX12_turned_41 rfl (xm 1 rfl) ?_
        refine V_icmp_ne (tgt := 62) dX12_turned_42 (by decide) h (fun _ h => ?_) (fun _ h => ?_)
        · refine V_aload_n dX12_turned_45 rfl (xm 0 rfl) ?_
          refine V_getR dX12_turned_46 fl_X12_7 (sk_94 hS (by decide)) rfl ?_
          refine V_sipush dX12_turned_49 (by decide) ?_
          refine V_iconst dX12_turned_52 ?_
          refine V_iload_n dX12_turned_53 rfl (xm 2 rfl) ?_
          refine V_imul dX12_turned_54 ?_
          refine V_iadd dX12_turned_55 ?_
          refine V_iconst dX12_turned_56 ?_
          refine V_iadd dX12_turned_57 ?_
          refine T_iald dX12_turned_58 (sk_95 hS (by decide)) rfl h (fun r2 h => ?_)
          refine V_iconst dX12_turned_59 ?_
          refine V_iadd dX12_turned_60 ?_
          exact V_ireti dX12_turned_61 rfl (kr (r2 + 2) (Option.some.inj h).symm)
        · refine V_iinc (ls' := [(2, vI (v2 + (-1))), (0, vR (some 94)), (1, vI v1)]) dX12_turned_62 (xm 2 rfl) (by decide) rfl ?_
          refine V_goto (tgt := 10) dX12_turned_65 (by decide) ?_
          refine V.pick [1, 2, 0] rfl ?_
          exact ih M v1 (v2 + (-1)) h k kr
theorem fX12_turned_L10_ci {S : xS} {kp : Option Nat} (hS : xSk kp 96 S) {Q : Option xV → xS → xM → Prop} {n : Nat} {M : xM} {v1 : Int} {v2 : Int} (hl : fX12_turned_L10 n M v1 v2 = some (.inl ())) (k : V Y_X12_turned 0 0 0 68 [] [] S M Q) : V Y_X12_turned 0 0 0 10 [(0, vR (some 94)), (1, vI v1), (2, vI v2)] [] S M Q := fX12_turned_L10_c hS _ _ _ _ hl (fun  e => by cases e; exact k) (fun _ e => by cases e)
theorem fX12_turned_L10_cr {S : xS} {kp : Option Nat} (hS : xSk kp 96 S) {Q : Option xV → xS → xM → Prop} {n : Nat} {M : xM} {v1 : Int} {v2 : Int} {w : Int} (hl : fX12_turned_L10 n M v1 v2 = some (.inr w)) (k : Q (some (vI w)) S M) : V Y_X12_turned 0 0 0 10 [(0, vR (some 94)), (1, vI v1), (2, vI v2)] [] S M Q := fX12_turned_L10_c hS _ _ _ _ hl (fun  e => by cases e) (fun _ e => by cases e; exact k)
def fX12_turned (M : xM) (v1 : Int) : Option Int := xs0 (fX12_turned_L10 xfuel M v1 ((M 95 9) - 1)) (some ((-1))) (fun r => some r)
set_option maxRecDepth 20000 in
set_option maxHeartbeats 1000000 in
theorem fX12_turned_c {S : xS} {kp : Option Nat} (hS : xSk kp 96 S) {M : xM} {v1 : Int} {E : Int} (h : fX12_turned M v1 = some E) :
    V Y_X12_turned 0 0 0 0 (xarg 0 [vR (some 94), vI v1]) [] S M (xqR S M (some (vI E))) := by
  unfold fX12_turned at h
  show V Y_X12_turned 0 0 0 0 [(0, vR (some 94)), (1, vI v1)] [] S M _
  refine V_aload_n dX12_turned_0 rfl (xm 0 rfl) ?_
  refine V_getR dX12_turned_1 fl_X12_7 (sk_94 hS (by decide)) rfl ?_
  refine V_bipush dX12_turned_4 (by decide) ?_
  refine V_ialdK (j := 9) dX12_turned_6 (sk_95 hS (by decide)) (by decide) (by decide) ?_
  refine V_iconst dX12_turned_7 ?_
  refine V_isub dX12_turned_8 ?_
  refine V_istore_n (ls' := [(2, vI ((M 95 9) - 1)), (0, vR (some 94)), (1, vI v1)]) dX12_turned_9 rfl (by decide) rfl ?_
  refine xs0E h (fun  h3 h => ?_) (fun r h3 h => ?_)
  · refine V.pick [1, 2, 0] rfl ?_
    refine fX12_turned_L10_ci (hS.le (by decide)) h3 ?_
    refine V_iconst dX12_turned_68 ?_
    exact V_ireti dX12_turned_69 rfl (q_pI h)
  · refine V.pick [1, 2, 0] rfl ?_
    refine fX12_turned_L10_cr (hS.le (by decide)) h3 ?_
    exact q_pI h
def fX12_count_L4 (n : Nat) (M : xM) (v0 : Int) (v1 : Int) (v2 : Int) : Option (Int) := match n with
  | 0 => none
  | n + 1 => (if wr v2 < wr 24 then fX12_count_L4 n M v0 (v1 + (xand (xshr v0 v2) 1)) (v2 + 1) else some v1)
set_option maxRecDepth 20000 in
set_option maxHeartbeats 1000000 in
theorem fX12_count_L4_c {S : xS} {kp : Option Nat} (hS : xSk kp 0 S) {Q : Option xV → xS → xM → Prop} :
    ∀ (n : Nat) (M : xM) (v0 : Int) (v1 : Int) (v2 : Int) {x1 : Int}, fX12_count_L4 n M v0 v1 v2 = some x1 → V Y_X12_count 0 0 0 24 [(1, vI x1)] [] S M Q → V Y_X12_count 0 0 0 4 [(0, vI v0), (1, vI v1), (2, vI v2)] [] S M Q := by
  intro n
  induction n with
  | zero =>
    intro M v0 v1 v2 x1 h k
    cases h
  | succ n ih =>
    intro M v0 v1 v2 x1 h k
    rw [fX12_count_L4] at h
    refine V_iload_n dX12_count_4 rfl (xm 2 rfl) ?_
    refine V_bipush dX12_count_5 (by decide) ?_
    refine V_icmp_ge (tgt := 24) dX12_count_7 (by decide) h (fun _ h => ?_) (fun _ h => ?_)
    · refine V_iload_n dX12_count_10 rfl (xm 1 rfl) ?_
      refine V_iload_n dX12_count_11 rfl (xm 0 rfl) ?_
      refine V_iload_n dX12_count_12 rfl (xm 2 rfl) ?_
      refine V_ishr dX12_count_13 ?_
      refine V_iconst dX12_count_14 ?_
      refine V_iand dX12_count_15 ?_
      refine V_iadd dX12_count_16 ?_
      refine V_istore_n (ls' := [(1, vI (v1 + (xand (xshr v0 v2) 1))), (0, vI v0), (2, vI v2)]) dX12_count_17 rfl (by decide) rfl ?_
      refine V_iinc (ls' := [(2, vI (v2 + 1)), (1, vI (v1 + (xand (xshr v0 v2) 1))), (0, vI v0)]) dX12_count_18 (xm 2 rfl) (by decide) rfl ?_
      refine V_goto (tgt := 4) dX12_count_21 (by decide) ?_
      refine V.pick [2, 1, 0] rfl ?_
      exact ih M v0 (v1 + (xand (xshr v0 v2) 1)) (v2 + 1) h k
    · cases h
      refine V.pick [1] rfl ?_
      exact k
theorem fX12_count_L4_ci {S : xS} {kp : Option Nat} (hS : xSk kp 0 S) {Q : Option xV → xS → xM → Prop} {n : Nat} {M : xM} {v0 : Int} {v1 : Int} {v2 : Int} {x1 : Int} (hl : fX12_count_L4 n M v0 v1 v2 = some x1) (k : V Y_X12_count 0 0 0 24 [(1, vI x1)] [] S M Q) : V Y_X12_count 0 0 0 4 [(0, vI v0), (1, vI v1), (2, vI v2)] [] S M Q := fX12_count_L4_c hS _ _ _ _ _ hl k
def fX12_count (M : xM) (v0 : Int) : Option Int := xb (fX12_count_L4 xfuel M v0 0 0) fun y1 => some y1
set_option maxRecDepth 20000 in
set_option maxHeartbeats 1000000 in
theorem fX12_count_c {S : xS} {kp : Option Nat} (hS : xSk kp 0 S) {M : xM} {v0 : Int} {E : Int} (h : fX12_count M v0 = some E) :
    V Y_X12_count 0 0 0 0 (xarg 0 [vI v0]) [] S M (xqR S M (some (vI E))) := by
  unfold fX12_count at h
  show V Y_X12_count 0 0 0 0 [(0, vI v0)] [] S M _
  refine V_iconst dX12_count_0 ?_
  refine V_istore_n (ls' := [(1, vI 0), (0, vI v0)]) dX12_count_1 rfl (by decide) rfl ?_
  refine V_iconst dX12_count_2 ?_
  refine V_istore_n (ls' := [(2, vI 0), (1, vI 0), (0, vI v0)]) dX12_count_3 rfl (by decide) rfl ?_
  refine xbE h (fun y1 h2 h => ?_)
  refine V.pick [2, 1, 0] rfl ?_
  refine fX12_count_L4_ci (hS.le (by decide)) h2 ?_
  refine V_iload_n dX12_count_24 rfl (xm 0 rfl) ?_
  exact V_ireti dX12_count_25 rfl (q_pI h)
def fX12_orders (n : Nat) (M : xM) (v1 : Int) : Option (Int) := match n with
  | 0 => none
  | n + 1 => (if wr v1 < wr 2 then some 1 else (xb ((fX12_orders n) M (v1 - 1)) fun r2 => some (v1 * r2)))
set_option maxRecDepth 20000 in
set_option maxHeartbeats 1000000 in
theorem fX12_orders_c {S : xS} {kp : Option Nat} (hS : xSk kp 0 S) : ∀ n : Nat, (∀ {M : xM} {v1 : Int} {E : Int}, fX12_orders n M v1 = some E → V Y_X12_orders (n + 0) 0 0 0 (xarg 0 [vI v1]) [] S M (xqR S M (some (vI E)))) := by
  intro n
  induction n with
  | zero => exact fun h => by cases h
  | succ n ih =>
    have ih0 := @ih
    have e9 : n + 1 + 0 = n + 0 + 1 := by omega
    rw [e9]
    intro M v1 E h
    rw [fX12_orders] at h
    show V Y_X12_orders _ 0 0 0 [(0, vI v1)] [] S M _
    refine V_iload_n dX12_orders_0 rfl (xm 0 rfl) ?_
    refine V_iconst dX12_orders_1 ?_
    refine V_icmp_ge (tgt := 9) dX12_orders_2 (by decide) h (fun _ h => ?_) (fun _ h => ?_)
    · refine V_iconst dX12_orders_5 ?_
      refine V_goto (tgt := 17) dX12_orders_6 (by decide) ?_
      exact V_ireti dX12_orders_17 rfl (q_pI h)
    · refine V_iload_n dX12_orders_9 rfl (xm 0 rfl) ?_
      refine V_iload_n dX12_orders_10 rfl (xm 0 rfl) ?_
      refine V_iconst dX12_orders_11 ?_
      refine V_isub dX12_orders_12 ?_
      refine xbE h (fun r2 h1 h => ?_)
      refine T_callSI (host := "") dX12_orders_13 ok_X12_orders lk_X12_270.1 lk_X12_270.2 (hV := (ih0 h1)) rfl (Nat.le_of_ble_eq_true rfl) rfl (Nat.le_of_ble_eq_true rfl) ?_
      refine V_imul dX12_orders_16 ?_
      exact V_ireti dX12_orders_17 rfl (q_pI h)
def fX12_pivots_L5 (n : Nat) (M : xM) (v1 : Int) (v2 : Int) (v3 : Int) (v4 : Int) : Option (Int) := match n with
  | 0 => none
  | n + 1 => (if wr (fX12_allPlots M) < wr v4 then some v3 else (if wr (xand (xshr v4 v1) 1) = wr 1 then fX12_pivots_L5 n M v1 v2 v3 (v4 + 1) else (xb (fX12_isEnough M v4) fun r2 => (if r2 = true then fX12_pivots_L5 n M v1 v2 v3 (v4 + 1) else (xb (fX12_isEnough M (xor_ v4 (xshl 1 v1))) fun r4 => (if r4 = true then (if wr v2 = 0 then (xb (fX12_count M v4) fun r6 => xb (fX12_orders 40 M r6) fun r8 => xb (fX12_count M v4) fun r10 => xb (fX12_orders 40 M (((M 95 5) - 1) - r10)) fun r12 => fX12_pivots_L5 n M v1 v2 (v3 + (r8 * r12)) (v4 + 1)) else fX12_pivots_L5 n M v1 v2 (v3 + 1) (v4 + 1)) else fX12_pivots_L5 n M v1 v2 v3 (v4 + 1)))))))
set_option maxRecDepth 20000 in
set_option maxHeartbeats 1000000 in
theorem fX12_pivots_L5_c {S : xS} {kp : Option Nat} (hS : xSk kp 96 S) {Q : Option xV → xS → xM → Prop} :
    ∀ (n : Nat) (M : xM) (v1 : Int) (v2 : Int) (v3 : Int) (v4 : Int) {x3 : Int}, fX12_pivots_L5 n M v1 v2 v3 v4 = some x3 → V Y_X12_pivots 41 0 0 92 [(3, vI x3)] [] S M Q → V Y_X12_pivots 41 0 0 5 [(0, vR (some 94)), (1, vI v1), (2, vI v2), (3, vI v3), (4, vI v4)] [] S M Q := by
  intro n
  induction n with
  | zero =>
    intro M v1 v2 v3 v4 x3 h k
    cases h
  | succ n ih =>
    intro M v1 v2 v3 v4 x3 h k
    rw [fX12_pivots_L5] at h
    refine V_iload dX12_pivots_5 (xm 4 rfl) ?_
    refine V_aload_n dX12_pivots_7 rfl (xm 0 rfl) ?_
    refine T_callVI dX12_pivots_8 ok_X12_allPlots (by exact ⟨by decide, rfl⟩) lk_X12_255.1 lk_X12_255.2 (sk_94 hS (by decide)) (hV := ((fX12_allPlots_c (hS.le (by decide)) rfl).mono (by decide) (Nat.le_refl _) (Nat.le_refl _))) rfl (Nat.le_of_ble_eq_true rfl) rfl (Nat.le_of_ble_eq_true rfl) ?_
    refine V_icmp_gt (tgt := 92) dX12_pivots_11 (by decide) h (fun _ h => ?_) (fun _ h => ?_)
    · cases h
      refine V.pick [3] rfl ?_
      exact k
    · refine V_iload dX12_pivots_14 (xm 4 rfl) ?_
      refine V_iload_n dX12_pivots_16 rfl (xm 1 rfl) ?_
      refine V_ishr dX12_pivots_17 ?_
      refine V_iconst dX12_pivots_18 ?_
      refine V_iand dX12_pivots_19 ?_
      refine V_iconst dX12_pivots_20 ?_
      refine V_icmp_eq (tgt := 86) dX12_pivots_21 (by decide) h (fun _ h => ?_) (fun _ h => ?_)
      · refine V_iinc (ls' := [(4, vI (v4 + 1)), (0, vR (some 94)), (1, vI v1), (2, vI v2), (3, vI v3)]) dX12_pivots_86 (xm 4 rfl) (by decide) rfl ?_
        refine V_goto (tgt := 5) dX12_pivots_89 (by decide) ?_
        refine V.pick [1, 2, 3, 4, 0] rfl ?_
        exact ih M v1 v2 v3 (v4 + 1) h k
      · refine V_aload_n dX12_pivots_24 rfl (xm 0 rfl) ?_
        refine V_iload dX12_pivots_25 (xm 4 rfl) ?_
        refine xbE h (fun r2 h1 h => ?_)
        refine T_callVI dX12_pivots_27 ok_X12_isEnough (by exact ⟨by decide, rfl⟩) lk_X12_258.1 lk_X12_258.2 (sk_94 hS (by decide)) (hV := ((fX12_isEnough_c (hS.le (by decide)) h1).mono (by decide) (Nat.le_refl _) (Nat.le_refl _))) rfl (Nat.le_of_ble_eq_true rfl) rfl (Nat.le_of_ble_eq_true rfl) ?_
        refine V_if_neB (tgt := 86) dX12_pivots_30 (by decide) h (fun _ h => ?_) (fun _ h => ?_)
        · refine V_iinc (ls' := [(4, vI (v4 + 1)), (0, vR (some 94)), (1, vI v1), (2, vI v2), (3, vI v3)]) dX12_pivots_86 (xm 4 rfl) (by decide) rfl ?_
          refine V_goto (tgt := 5) dX12_pivots_89 (by decide) ?_
          refine V.pick [1, 2, 3, 4, 0] rfl ?_
          exact ih M v1 v2 v3 (v4 + 1) h k
        · refine V_aload_n dX12_pivots_33 rfl (xm 0 rfl) ?_
          refine V_iload dX12_pivots_34 (xm 4 rfl) ?_
          refine V_iconst dX12_pivots_36 ?_
          refine V_iload_n dX12_pivots_37 rfl (xm 1 rfl) ?_
          refine V_ishl dX12_pivots_38 ?_
          refine V_ior dX12_pivots_39 ?_
          refine xbE h (fun r4 h3 h => ?_)
          refine T_callVI dX12_pivots_40 ok_X12_isEnough (by exact ⟨by decide, rfl⟩) lk_X12_258.1 lk_X12_258.2 (sk_94 hS (by decide)) (hV := ((fX12_isEnough_c (hS.le (by decide)) h3).mono (by decide) (Nat.le_refl _) (Nat.le_refl _))) rfl (Nat.le_of_ble_eq_true rfl) rfl (Nat.le_of_ble_eq_true rfl) ?_
          refine V_if_neB (tgt := 49) dX12_pivots_43 (by decide) h (fun _ h => ?_) (fun _ h => ?_)
          · refine V_iload_n dX12_pivots_49 rfl (xm 3 rfl) ?_
            refine V_iload_n dX12_pivots_50 rfl (xm 2 rfl) ?_
            refine V_if_eq (tgt := 58) dX12_pivots_51 (by decide) h (fun _ h => ?_) (fun _ h => ?_)
            · refine V_iload dX12_pivots_58 (xm 4 rfl) ?_
              refine xbE h (fun r6 h5 h => ?_)
              refine T_callSI (host := "") dX12_pivots_60 ok_X12_count lk_X12_273.1 lk_X12_273.2 (hV := ((fX12_count_c (hS.le (by decide)) h5).mono (by decide) (Nat.le_refl _) (Nat.le_refl _))) rfl (Nat.le_of_ble_eq_true rfl) rfl (Nat.le_of_ble_eq_true rfl) ?_
              refine xbE h (fun r8 h7 h => ?_)
              refine T_callSI (host := "") dX12_pivots_63 ok_X12_orders lk_X12_270.1 lk_X12_270.2 (hV := (((fX12_orders_c (hS.le (by decide)) 40) h7).mono (by decide) (Nat.le_refl _) (Nat.le_refl _))) rfl (Nat.le_of_ble_eq_true rfl) rfl (Nat.le_of_ble_eq_true rfl) ?_
              refine V_aload_n dX12_pivots_66 rfl (xm 0 rfl) ?_
              refine V_getR dX12_pivots_67 fl_X12_7 (sk_94 hS (by decide)) rfl ?_
              refine V_iconst dX12_pivots_70 ?_
              refine V_ialdK (j := 5) dX12_pivots_71 (sk_95 hS (by decide)) (by decide) (by decide) ?_
              refine V_iconst dX12_pivots_72 ?_
              refine V_isub dX12_pivots_73 ?_
              refine V_iload dX12_pivots_74 (xm 4 rfl) ?_
              refine xbE h (fun r10 h9 h => ?_)
              refine T_callSI (host := "") dX12_pivots_76 ok_X12_count lk_X12_273.1 lk_X12_273.2 (hV := ((fX12_count_c (hS.le (by decide)) h9).mono (by decide) (Nat.le_refl _) (Nat.le_refl _))) rfl (Nat.le_of_ble_eq_true rfl) rfl (Nat.le_of_ble_eq_true rfl) ?_
              refine V_isub dX12_pivots_79 ?_
              refine xbE h (fun r12 h11 h => ?_)
              refine T_callSI (host := "") dX12_pivots_80 ok_X12_orders lk_X12_270.1 lk_X12_270.2 (hV := (((fX12_orders_c (hS.le (by decide)) 40) h11).mono (by decide) (Nat.le_refl _) (Nat.le_refl _))) rfl (Nat.le_of_ble_eq_true rfl) rfl (Nat.le_of_ble_eq_true rfl) ?_
              refine V_imul dX12_pivots_83 ?_
              refine V_iadd dX12_pivots_84 ?_
              refine V_istore_n (ls' := [(3, vI (v3 + (r8 * r12))), (0, vR (some 94)), (1, vI v1), (2, vI v2), (4, vI v4)]) dX12_pivots_85 rfl (by decide) rfl ?_
              refine V_iinc (ls' := [(4, vI (v4 + 1)), (3, vI (v3 + (r8 * r12))), (0, vR (some 94)), (1, vI v1), (2, vI v2)]) dX12_pivots_86 (xm 4 rfl) (by decide) rfl ?_
              refine V_goto (tgt := 5) dX12_pivots_89 (by decide) ?_
              refine V.pick [2, 3, 4, 1, 0] rfl ?_
              exact ih M v1 v2 (v3 + (r8 * r12)) (v4 + 1) h k
            · refine V_iconst dX12_pivots_54 ?_
              refine V_goto (tgt := 84) dX12_pivots_55 (by decide) ?_
              refine V_iadd dX12_pivots_84 ?_
              refine V_istore_n (ls' := [(3, vI (v3 + 1)), (0, vR (some 94)), (1, vI v1), (2, vI v2), (4, vI v4)]) dX12_pivots_85 rfl (by decide) rfl ?_
              refine V_iinc (ls' := [(4, vI (v4 + 1)), (3, vI (v3 + 1)), (0, vR (some 94)), (1, vI v1), (2, vI v2)]) dX12_pivots_86 (xm 4 rfl) (by decide) rfl ?_
              refine V_goto (tgt := 5) dX12_pivots_89 (by decide) ?_
              refine V.pick [2, 3, 4, 1, 0] rfl ?_
              exact ih M v1 v2 (v3 + 1) (v4 + 1) h k
          · refine V_goto (tgt := 86) dX12_pivots_46 (by decide) ?_
            refine V_iinc (ls' := [(4, vI (v4 + 1)), (0, vR (some 94)), (1, vI v1), (2, vI v2), (3, vI v3)]) dX12_pivots_86 (xm 4 rfl) (by decide) rfl ?_
            refine V_goto (tgt := 5) dX12_pivots_89 (by decide) ?_
            refine V.pick [1, 2, 3, 4, 0] rfl ?_
            exact ih M v1 v2 v3 (v4 + 1) h k
theorem fX12_pivots_L5_ci {S : xS} {kp : Option Nat} (hS : xSk kp 96 S) {Q : Option xV → xS → xM → Prop} {n : Nat} {M : xM} {v1 : Int} {v2 : Int} {v3 : Int} {v4 : Int} {x3 : Int} (hl : fX12_pivots_L5 n M v1 v2 v3 v4 = some x3) (k : V Y_X12_pivots 41 0 0 92 [(3, vI x3)] [] S M Q) : V Y_X12_pivots 41 0 0 5 [(0, vR (some 94)), (1, vI v1), (2, vI v2), (3, vI v3), (4, vI v4)] [] S M Q := fX12_pivots_L5_c hS _ _ _ _ _ _ hl k
def fX12_pivots (M : xM) (v1 : Int) (v2 : Int) : Option Int := xb (fX12_pivots_L5 xfuel M v1 v2 0 0) fun y13 => some y13
set_option maxRecDepth 20000 in
set_option maxHeartbeats 1000000 in
theorem fX12_pivots_c {S : xS} {kp : Option Nat} (hS : xSk kp 96 S) {M : xM} {v1 : Int} {v2 : Int} {E : Int} (h : fX12_pivots M v1 v2 = some E) :
    V Y_X12_pivots 41 0 0 0 (xarg 0 [vR (some 94), vI v1, vI v2]) [] S M (xqR S M (some (vI E))) := by
  unfold fX12_pivots at h
  show V Y_X12_pivots 41 0 0 0 [(0, vR (some 94)), (1, vI v1), (2, vI v2)] [] S M _
  refine V_iconst dX12_pivots_0 ?_
  refine V_istore_n (ls' := [(3, vI 0), (0, vR (some 94)), (1, vI v1), (2, vI v2)]) dX12_pivots_1 rfl (by decide) rfl ?_
  refine V_iconst dX12_pivots_2 ?_
  refine V_istore (ls' := [(4, vI 0), (3, vI 0), (0, vR (some 94)), (1, vI v1), (2, vI v2)]) dX12_pivots_3 (by decide) rfl ?_
  refine xbE h (fun y13 h14 h => ?_)
  refine V.pick [2, 3, 4, 1, 0] rfl ?_
  refine fX12_pivots_L5_ci (hS.le (by decide)) h14 ?_
  refine V_iload_n dX12_pivots_92 rfl (xm 0 rfl) ?_
  exact V_ireti dX12_pivots_93 rfl (q_pI h)
def fX12_of (M : xM) (v1 : Int) (v2 : Int) : Option Int := (if (fX12_isPlot M v1) = true then (if (fX12_isIn v2 0 6) = true then (if wr v2 < wr 4 then (xb (fX12_of0 M v1 v2) fun r2 => some r2) else (if wr v2 = wr 4 then (xb (fX12_of0 M v1 0) fun r4 => xb (fX12_modulo M (r4 + (M 95 1))) fun r6 => some r6) else (xj (fun (s7 : Int) => xb (fX12_pivots M v1 s7) fun r10 => some r10) fun j8 => (if wr v2 = wr 6 then j8 1 else j8 0)))) else some ((-100000))) else some ((-100000)))
set_option maxRecDepth 20000 in
set_option maxHeartbeats 1000000 in
theorem fX12_of_c {S : xS} {kp : Option Nat} (hS : xSk kp 96 S) {M : xM} {v1 : Int} {v2 : Int} {E : Int} (h : fX12_of M v1 v2 = some E) :
    V Y_X12_of 42 0 0 0 (xarg 0 [vR (some 94), vI v1, vI v2]) [] S M (xqR S M (some (vI E))) := by
  unfold fX12_of at h
  show V Y_X12_of 42 0 0 0 [(0, vR (some 94)), (1, vI v1), (2, vI v2)] [] S M _
  refine V_aload_n dX12_of_0 rfl (xm 0 rfl) ?_
  refine V_iload_n dX12_of_1 rfl (xm 1 rfl) ?_
  refine T_callVI dX12_of_2 ok_X12_isPlot (by exact ⟨by decide, rfl⟩) lk_X12_226.1 lk_X12_226.2 (sk_94 hS (by decide)) (hV := ((fX12_isPlot_c (hS.le (by decide)) rfl).mono (by decide) (Nat.le_refl _) (Nat.le_refl _))) rfl (Nat.le_of_ble_eq_true rfl) rfl (Nat.le_of_ble_eq_true rfl) ?_
  refine V_if_eqB (tgt := 18) dX12_of_5 (by decide) h (fun _ h => ?_) (fun _ h => ?_)
  · refine V_iload_n dX12_of_8 rfl (xm 2 rfl) ?_
    refine V_iconst dX12_of_9 ?_
    refine V_bipush dX12_of_10 (by decide) ?_
    refine T_callSI (host := "") dX12_of_12 ok_X12_isIn lk_X12_70.1 lk_X12_70.2 (hV := ((fX12_isIn_c (hS.le (by decide)) rfl).mono (by decide) (Nat.le_refl _) (Nat.le_refl _))) rfl (Nat.le_of_ble_eq_true rfl) rfl (Nat.le_of_ble_eq_true rfl) ?_
    refine V_if_neB (tgt := 21) dX12_of_15 (by decide) h (fun _ h => ?_) (fun _ h => ?_)
    · refine V_iload_n dX12_of_21 rfl (xm 2 rfl) ?_
      refine V_iconst dX12_of_22 ?_
      refine V_icmp_ge (tgt := 33) dX12_of_23 (by decide) h (fun _ h => ?_) (fun _ h => ?_)
      · refine V_aload_n dX12_of_26 rfl (xm 0 rfl) ?_
        refine V_iload_n dX12_of_27 rfl (xm 1 rfl) ?_
        refine V_iload_n dX12_of_28 rfl (xm 2 rfl) ?_
        refine xbE h (fun r2 h1 h => ?_)
        refine T_callVI dX12_of_29 ok_X12_of0 (by exact ⟨by decide, rfl⟩) lk_X12_212.1 lk_X12_212.2 (sk_94 hS (by decide)) (hV := ((fX12_of0_c (hS.le (by decide)) h1).mono (by decide) (Nat.le_refl _) (Nat.le_refl _))) rfl (Nat.le_of_ble_eq_true rfl) rfl (Nat.le_of_ble_eq_true rfl) ?_
        exact V_ireti dX12_of_32 rfl (q_pI h)
      · refine V_iload_n dX12_of_33 rfl (xm 2 rfl) ?_
        refine V_iconst dX12_of_34 ?_
        refine V_icmp_ne (tgt := 58) dX12_of_35 (by decide) h (fun _ h => ?_) (fun _ h => ?_)
        · refine V_aload_n dX12_of_38 rfl (xm 0 rfl) ?_
          refine V_aload_n dX12_of_39 rfl (xm 0 rfl) ?_
          refine V_iload_n dX12_of_40 rfl (xm 1 rfl) ?_
          refine V_iconst dX12_of_41 ?_
          refine xbE h (fun r4 h3 h => ?_)
          refine T_callVI dX12_of_42 ok_X12_of0 (by exact ⟨by decide, rfl⟩) lk_X12_212.1 lk_X12_212.2 (sk_94 hS (by decide)) (hV := ((fX12_of0_c (hS.le (by decide)) h3).mono (by decide) (Nat.le_refl _) (Nat.le_refl _))) rfl (Nat.le_of_ble_eq_true rfl) rfl (Nat.le_of_ble_eq_true rfl) ?_
          refine V_aload_n dX12_of_45 rfl (xm 0 rfl) ?_
          refine V_getR dX12_of_46 fl_X12_7 (sk_94 hS (by decide)) rfl ?_
          refine V_iconst dX12_of_49 ?_
          refine V_ialdK (j := 1) dX12_of_50 (sk_95 hS (by decide)) (by decide) (by decide) ?_
          refine V_iadd dX12_of_51 ?_
          refine xbE h (fun r6 h5 h => ?_)
          refine T_callVI dX12_of_52 ok_X12_modulo (by exact ⟨by decide, rfl⟩) lk_X12_216.1 lk_X12_216.2 (sk_94 hS (by decide)) (hV := ((fX12_modulo_c (hS.le (by decide)) h5).mono (by decide) (Nat.le_refl _) (Nat.le_refl _))) rfl (Nat.le_of_ble_eq_true rfl) rfl (Nat.le_of_ble_eq_true rfl) ?_
          refine V_goto (tgt := 74) dX12_of_55 (by decide) ?_
          exact V_ireti dX12_of_74 rfl (q_pI h)
        · refine V_aload_n dX12_of_58 rfl (xm 0 rfl) ?_
          refine V_iload_n dX12_of_59 rfl (xm 1 rfl) ?_
          refine V_iload_n dX12_of_60 rfl (xm 2 rfl) ?_
          refine V_bipush dX12_of_61 (by decide) ?_
          refine xjE h (fun j8 hj8 h => ?_)
          have kj8 : ∀ (s7 : Int), j8 s7 = some E → V Y_X12_of 42 0 0 71 [] [vI s7, vI v1, vR (some 94)] S M (xqR S M (some (vI E))) := by
            intro s7 h
            rw [hj8] at h
            refine xbE h (fun r10 h9 h => ?_)
            refine T_callVI dX12_of_71 ok_X12_pivots (by exact ⟨by decide, rfl⟩) lk_X12_276.1 lk_X12_276.2 (sk_94 hS (by decide)) (hV := ((fX12_pivots_c (hS.le (by decide)) h9).mono (by decide) (Nat.le_refl _) (Nat.le_refl _))) rfl (Nat.le_of_ble_eq_true rfl) rfl (Nat.le_of_ble_eq_true rfl) ?_
            exact V_ireti dX12_of_74 rfl (q_pI h)
          refine V_icmp_ne (tgt := 70) dX12_of_63 (by decide) h (fun _ h => ?_) (fun _ h => ?_)
          · refine V_iconst dX12_of_66 ?_
            refine V_goto (tgt := 71) dX12_of_67 (by decide) ?_
            refine V.pick [] rfl ?_
            exact kj8 1 h
          · refine V_iconst dX12_of_70 ?_
            refine V.pick [] rfl ?_
            exact kj8 0 h
    · refine V_ldc (n := (-100000)) dX12_of_18 (xsg6 211 rfl rfl : Cond.constant RX12 236 (-100000) ∈ xT) (by decide) ?_
      exact V_ireti dX12_of_20 rfl (q_pI h)
  · refine V_ldc (n := (-100000)) dX12_of_18 (xsg6 211 rfl rfl : Cond.constant RX12 236 (-100000) ∈ xT) (by decide) ?_
    exact V_ireti dX12_of_20 rfl (q_pI h)
def fX12_worthTo_L6 (n : Nat) (M : xM) (v1 : Int) (v2 : Int) (v3 : Int) (v4 : Int) (v5 : Int) (v6 : Int) : Option (Int × xM) := match n with
  | 0 => none
  | n + 1 => (if wr v6 < wr (M 95 5) then (if wr (xand (xshr v1 v6) 1) = wr 1 then (xb2 (fX12_worthOf M v6 ((M 95 2) + v2) v3 v4) fun r2 M3 => fX12_worthTo_L6 n M3 v1 v2 v3 v4 (v5 + r2) (v6 + 1)) else fX12_worthTo_L6 n M v1 v2 v3 v4 (v5 + 0) (v6 + 1)) else some (v5, M))
set_option maxRecDepth 20000 in
set_option maxHeartbeats 1000000 in
theorem fX12_worthTo_L6_c {S : xS} {kp : Option Nat} (hS : xSk kp 103 S) {Q : Option xV → xS → xM → Prop} :
    ∀ (n : Nat) (M : xM) (v1 : Int) (v2 : Int) (v3 : Int) (v4 : Int) (v5 : Int) (v6 : Int) {x5 : Int} {Mz : xM}, fX12_worthTo_L6 n M v1 v2 v3 v4 v5 v6 = some (x5, Mz) → V Y_X12_worthTo 3 0 0 59 [(5, vI x5)] [] S Mz Q → V Y_X12_worthTo 3 0 0 6 [(0, vR (some 94)), (1, vI v1), (2, vI v2), (3, vI v3), (4, vI v4), (5, vI v5), (6, vI v6)] [] S M Q := by
  intro n
  induction n with
  | zero =>
    intro M v1 v2 v3 v4 v5 v6 x5 Mz h k
    cases h
  | succ n ih =>
    intro M v1 v2 v3 v4 v5 v6 x5 Mz h k
    rw [fX12_worthTo_L6] at h
    refine V_iload dX12_worthTo_6 (xm 6 rfl) ?_
    refine V_aload_n dX12_worthTo_8 rfl (xm 0 rfl) ?_
    refine V_getR dX12_worthTo_9 fl_X12_7 (sk_94 hS (by decide)) rfl ?_
    refine V_iconst dX12_worthTo_12 ?_
    refine V_ialdK (j := 5) dX12_worthTo_13 (sk_95 hS (by decide)) (by decide) (by decide) ?_
    refine V_icmp_ge (tgt := 59) dX12_worthTo_14 (by decide) h (fun _ h => ?_) (fun _ h => ?_)
    · refine V_iload dX12_worthTo_17 (xm 5 rfl) ?_
      refine V_iload_n dX12_worthTo_19 rfl (xm 1 rfl) ?_
      refine V_iload dX12_worthTo_20 (xm 6 rfl) ?_
      refine V_ishr dX12_worthTo_22 ?_
      refine V_iconst dX12_worthTo_23 ?_
      refine V_iand dX12_worthTo_24 ?_
      refine V_iconst dX12_worthTo_25 ?_
      refine V_icmp_ne (tgt := 49) dX12_worthTo_26 (by decide) h (fun _ h => ?_) (fun _ h => ?_)
      · refine V_aload_n dX12_worthTo_29 rfl (xm 0 rfl) ?_
        refine V_iload dX12_worthTo_30 (xm 6 rfl) ?_
        refine V_aload_n dX12_worthTo_32 rfl (xm 0 rfl) ?_
        refine V_getR dX12_worthTo_33 fl_X12_7 (sk_94 hS (by decide)) rfl ?_
        refine V_iconst dX12_worthTo_36 ?_
        refine V_ialdK (j := 2) dX12_worthTo_37 (sk_95 hS (by decide)) (by decide) (by decide) ?_
        refine V_iload_n dX12_worthTo_38 rfl (xm 2 rfl) ?_
        refine V_iadd dX12_worthTo_39 ?_
        refine V_iload_n dX12_worthTo_40 rfl (xm 3 rfl) ?_
        refine V_iload dX12_worthTo_41 (xm 4 rfl) ?_
        refine xb2E h (fun r2 M3 h1 h => ?_)
        refine T_callVI dX12_worthTo_43 ok_X12_worthOf (by exact ⟨by decide, rfl⟩) lk_X12_232.1 lk_X12_232.2 (sk_94 hS (by decide)) (hV := ((fX12_worthOf_c (hS.le (by decide)) h1).mono (by decide) (Nat.le_refl _) (Nat.le_refl _))) rfl (Nat.le_of_ble_eq_true rfl) rfl (Nat.le_of_ble_eq_true rfl) ?_
        refine V_goto (tgt := 50) dX12_worthTo_46 (by decide) ?_
        refine V_iadd dX12_worthTo_50 ?_
        refine V_istore (ls' := [(5, vI (v5 + r2)), (0, vR (some 94)), (1, vI v1), (2, vI v2), (3, vI v3), (4, vI v4), (6, vI v6)]) dX12_worthTo_51 (by decide) rfl ?_
        refine V_iinc (ls' := [(6, vI (v6 + 1)), (5, vI (v5 + r2)), (0, vR (some 94)), (1, vI v1), (2, vI v2), (3, vI v3), (4, vI v4)]) dX12_worthTo_53 (xm 6 rfl) (by decide) rfl ?_
        refine V_goto (tgt := 6) dX12_worthTo_56 (by decide) ?_
        refine V.pick [2, 3, 4, 5, 6, 1, 0] rfl ?_
        exact ih M3 v1 v2 v3 v4 (v5 + r2) (v6 + 1) h k
      · refine V_iconst dX12_worthTo_49 ?_
        refine V_iadd dX12_worthTo_50 ?_
        refine V_istore (ls' := [(5, vI (v5 + 0)), (0, vR (some 94)), (1, vI v1), (2, vI v2), (3, vI v3), (4, vI v4), (6, vI v6)]) dX12_worthTo_51 (by decide) rfl ?_
        refine V_iinc (ls' := [(6, vI (v6 + 1)), (5, vI (v5 + 0)), (0, vR (some 94)), (1, vI v1), (2, vI v2), (3, vI v3), (4, vI v4)]) dX12_worthTo_53 (xm 6 rfl) (by decide) rfl ?_
        refine V_goto (tgt := 6) dX12_worthTo_56 (by decide) ?_
        refine V.pick [2, 3, 4, 5, 6, 1, 0] rfl ?_
        exact ih M v1 v2 v3 v4 (v5 + 0) (v6 + 1) h k
    · cases h
      refine V.pick [5] rfl ?_
      exact k
theorem fX12_worthTo_L6_ci {S : xS} {kp : Option Nat} (hS : xSk kp 103 S) {Q : Option xV → xS → xM → Prop} {n : Nat} {M : xM} {v1 : Int} {v2 : Int} {v3 : Int} {v4 : Int} {v5 : Int} {v6 : Int} {x5 : Int} {Mz : xM} (hl : fX12_worthTo_L6 n M v1 v2 v3 v4 v5 v6 = some (x5, Mz)) (k : V Y_X12_worthTo 3 0 0 59 [(5, vI x5)] [] S Mz Q) : V Y_X12_worthTo 3 0 0 6 [(0, vR (some 94)), (1, vI v1), (2, vI v2), (3, vI v3), (4, vI v4), (5, vI v5), (6, vI v6)] [] S M Q := fX12_worthTo_L6_c hS _ _ _ _ _ _ _ _ hl k
def fX12_worthTo (M : xM) (v1 : Int) (v2 : Int) (v3 : Int) (v4 : Int) : Option (Int × xM) := xb2 (fX12_worthTo_L6 xfuel M v1 v2 v3 v4 0 0) fun y4 M5 => some (y4, M5)
set_option maxRecDepth 20000 in
set_option maxHeartbeats 1000000 in
theorem fX12_worthTo_c {S : xS} {kp : Option Nat} (hS : xSk kp 103 S) {M : xM} {v1 : Int} {v2 : Int} {v3 : Int} {v4 : Int} {E : Int × xM} (h : fX12_worthTo M v1 v2 v3 v4 = some E) :
    V Y_X12_worthTo 3 0 0 0 (xarg 0 [vR (some 94), vI v1, vI v2, vI v3, vI v4]) [] S M (xqR S E.2 (some (vI E.1))) := by
  unfold fX12_worthTo at h
  show V Y_X12_worthTo 3 0 0 0 [(0, vR (some 94)), (1, vI v1), (2, vI v2), (3, vI v3), (4, vI v4)] [] S M _
  refine V_iconst dX12_worthTo_0 ?_
  refine V_istore (ls' := [(5, vI 0), (0, vR (some 94)), (1, vI v1), (2, vI v2), (3, vI v3), (4, vI v4)]) dX12_worthTo_1 (by decide) rfl ?_
  refine V_iconst dX12_worthTo_3 ?_
  refine V_istore (ls' := [(6, vI 0), (5, vI 0), (0, vR (some 94)), (1, vI v1), (2, vI v2), (3, vI v3), (4, vI v4)]) dX12_worthTo_4 (by decide) rfl ?_
  refine xb2E h (fun y4 M5 h6 h => ?_)
  refine V.pick [2, 3, 4, 5, 6, 1, 0] rfl ?_
  refine fX12_worthTo_L6_ci (hS.le (by decide)) h6 ?_
  refine V_iload dX12_worthTo_59 (xm 0 rfl) ?_
  exact V_ireti dX12_worthTo_61 rfl (q_wI h)
def fX12_turnOf (v0 : Int) : Int := (if wr v0 = wr 2 then (-1) else v0)
set_option maxRecDepth 20000 in
set_option maxHeartbeats 1000000 in
theorem fX12_turnOf_c {S : xS} {kp : Option Nat} (hS : xSk kp 0 S) {M : xM} {v0 : Int} {E : Int} (h : fX12_turnOf v0 = E) :
    V Y_X12_turnOf 0 0 0 0 (xarg 0 [vI v0]) [] S M (xqR S M (some (vI E))) := by
  unfold fX12_turnOf at h
  show V Y_X12_turnOf 0 0 0 0 [(0, vI v0)] [] S M _
  refine V_iload_n dX12_turnOf_0 rfl (xm 0 rfl) ?_
  refine V_iconst dX12_turnOf_1 ?_
  refine V_icmp_ne (tgt := 9) dX12_turnOf_2 (by decide) h (fun _ h => ?_) (fun _ h => ?_)
  · refine V_iconst dX12_turnOf_5 ?_
    refine V_goto (tgt := 10) dX12_turnOf_6 (by decide) ?_
    exact V_ireti dX12_turnOf_10 rfl (q_tI h)
  · refine V_iload_n dX12_turnOf_9 rfl (xm 0 rfl) ?_
    exact V_ireti dX12_turnOf_10 rfl (q_tI h)
def fX12_placeOf (v1 : Int) (v2 : Int) (v3 : Int) : Int := ((72 * v1) + (3 * v2)) + v3
set_option maxRecDepth 20000 in
set_option maxHeartbeats 1000000 in
theorem fX12_placeOf_c {S : xS} {kp : Option Nat} (hS : xSk kp 0 S) {M : xM} {v1 : Int} {v2 : Int} {v3 : Int} {E : Int} (h : fX12_placeOf v1 v2 v3 = E) :
    V Y_X12_placeOf 0 0 0 0 (xarg 0 [vR (some 94), vI v1, vI v2, vI v3]) [] S M (xqR S M (some (vI E))) := by
  unfold fX12_placeOf at h
  show V Y_X12_placeOf 0 0 0 0 [(0, vR (some 94)), (1, vI v1), (2, vI v2), (3, vI v3)] [] S M _
  refine V_bipush dX12_placeOf_0 (by decide) ?_
  refine V_iload_n dX12_placeOf_2 rfl (xm 1 rfl) ?_
  refine V_imul dX12_placeOf_3 ?_
  refine V_iconst dX12_placeOf_4 ?_
  refine V_iload_n dX12_placeOf_5 rfl (xm 2 rfl) ?_
  refine V_imul dX12_placeOf_6 ?_
  refine V_iadd dX12_placeOf_7 ?_
  refine V_iload_n dX12_placeOf_8 rfl (xm 3 rfl) ?_
  refine V_iadd dX12_placeOf_9 ?_
  exact V_ireti dX12_placeOf_10 rfl (q_tI h)
def fX12_laysBest_L3 (n : Nat) (M : xM) (v1 : Int) (v2 : Int) (v3 : Int) (v4 : Int) : Option (xM) := match n with
  | 0 => none
  | n + 1 => (if wr v4 < wr (M 95 0) then (xwt M 104 1464 ((24 * v2) + v4) 0 fun M1 => fX12_laysBest_L3 n M1 v1 v2 v3 (v4 + 1)) else some M)
set_option maxRecDepth 20000 in
set_option maxHeartbeats 1000000 in
theorem fX12_laysBest_L3_c {S : xS} {kp : Option Nat} (hS : xSk kp 105 S) {Q : Option xV → xS → xM → Prop} :
    ∀ (n : Nat) (M : xM) (v1 : Int) (v2 : Int) (v3 : Int) (v4 : Int) {Mz : xM}, fX12_laysBest_L3 n M v1 v2 v3 v4 = some Mz → V Y_X12_laysBest 4 0 0 33 [(0, vR (some 94)), (1, vI v1), (2, vI v2), (3, vI v3)] [] S Mz Q → V Y_X12_laysBest 4 0 0 3 [(0, vR (some 94)), (1, vI v1), (2, vI v2), (3, vI v3), (4, vI v4)] [] S M Q := by
  intro n
  induction n with
  | zero =>
    intro M v1 v2 v3 v4 Mz h k
    cases h
  | succ n ih =>
    intro M v1 v2 v3 v4 Mz h k
    rw [fX12_laysBest_L3] at h
    refine V_iload dX12_laysBest_3 (xm 4 rfl) ?_
    refine V_aload_n dX12_laysBest_5 rfl (xm 0 rfl) ?_
    refine V_getR dX12_laysBest_6 fl_X12_7 (sk_94 hS (by decide)) rfl ?_
    refine V_iconst dX12_laysBest_9 ?_
    refine V_ialdK (j := 0) dX12_laysBest_10 (sk_95 hS (by decide)) (by decide) (by decide) ?_
    refine V_icmp_ge (tgt := 33) dX12_laysBest_11 (by decide) h (fun _ h => ?_) (fun _ h => ?_)
    · refine V_aload_n dX12_laysBest_14 rfl (xm 0 rfl) ?_
      refine V_getR dX12_laysBest_15 fl_X12_41 (sk_94 hS (by decide)) rfl ?_
      refine V_bipush dX12_laysBest_18 (by decide) ?_
      refine V_iload_n dX12_laysBest_20 rfl (xm 2 rfl) ?_
      refine V_imul dX12_laysBest_21 ?_
      refine V_iload dX12_laysBest_22 (xm 4 rfl) ?_
      refine V_iadd dX12_laysBest_24 ?_
      refine V_iconst dX12_laysBest_25 ?_
      refine T_iast dX12_laysBest_26 (sk_104 hS (by decide)) rfl h (fun M1 h => ?_)
      refine V_iinc (ls' := [(4, vI (v4 + 1)), (0, vR (some 94)), (1, vI v1), (2, vI v2), (3, vI v3)]) dX12_laysBest_27 (xm 4 rfl) (by decide) rfl ?_
      refine V_goto (tgt := 3) dX12_laysBest_30 (by decide) ?_
      refine V.pick [1, 2, 3, 4, 0] rfl ?_
      exact ih M1 v1 v2 v3 (v4 + 1) h k
    · cases h
      refine V.pick [0, 1, 2, 3] rfl ?_
      exact k
theorem fX12_laysBest_L3_ci {S : xS} {kp : Option Nat} (hS : xSk kp 105 S) {Q : Option xV → xS → xM → Prop} {n : Nat} {M : xM} {v1 : Int} {v2 : Int} {v3 : Int} {v4 : Int} {Mz : xM} (hl : fX12_laysBest_L3 n M v1 v2 v3 v4 = some Mz) (k : V Y_X12_laysBest 4 0 0 33 [(0, vR (some 94)), (1, vI v1), (2, vI v2), (3, vI v3)] [] S Mz Q) : V Y_X12_laysBest 4 0 0 3 [(0, vR (some 94)), (1, vI v1), (2, vI v2), (3, vI v3), (4, vI v4)] [] S M Q := fX12_laysBest_L3_c hS _ _ _ _ _ _ hl k
def fX12_laysBest_L60 (n : Nat) (M : xM) (v1 : Int) (v3 : Int) (v4 : Int) (v5 : Int) (v6 : Int) : Option (xM) := match n with
  | 0 => none
  | n + 1 => (if wr v6 < wr 3 then (xj (fun (s4 : Int) (M5 : xM) => xwt M5 103 4320 (fX12_placeOf v4 v5 v6) s4 fun M7 => fX12_laysBest_L60 n M7 v1 v3 v4 v5 (v6 + 1)) fun j6 => (if wr v6 = wr 2 then (xrd M 103 4320 (fX12_placeOf v4 v5 1) fun r8 => j6 r8 M) else (xb2 (fX12_worthTo M v1 v4 v5 (fX12_turnOf v6)) fun r10 M11 => j6 r10 M11))) else some M)
set_option maxRecDepth 20000 in
set_option maxHeartbeats 1000000 in
theorem fX12_laysBest_L60_c {S : xS} {kp : Option Nat} (hS : xSk kp 104 S) {Q : Option xV → xS → xM → Prop} :
    ∀ (n : Nat) (M : xM) (v1 : Int) (v3 : Int) (v4 : Int) (v5 : Int) (v6 : Int) {Mz : xM}, fX12_laysBest_L60 n M v1 v3 v4 v5 v6 = some Mz → V Y_X12_laysBest 4 0 0 124 [(0, vR (some 94)), (1, vI v1), (3, vI v3), (4, vI v4), (5, vI v5)] [] S Mz Q → V Y_X12_laysBest 4 0 0 60 [(0, vR (some 94)), (1, vI v1), (3, vI v3), (4, vI v4), (5, vI v5), (6, vI v6)] [] S M Q := by
  intro n
  induction n with
  | zero =>
    intro M v1 v3 v4 v5 v6 Mz h k
    cases h
  | succ n ih =>
    intro M v1 v3 v4 v5 v6 Mz h k
    rw [fX12_laysBest_L60] at h
    refine V_iload dX12_laysBest_60 (xm 5 rfl) ?_
    refine V_iconst dX12_laysBest_62 ?_
    refine V_icmp_ge (tgt := 124) dX12_laysBest_63 (by decide) h (fun _ h => ?_) (fun _ h => ?_)
    · refine V_aload_n dX12_laysBest_66 rfl (xm 0 rfl) ?_
      refine V_getR dX12_laysBest_67 fl_X12_38 (sk_94 hS (by decide)) rfl ?_
      refine V_aload_n dX12_laysBest_70 rfl (xm 0 rfl) ?_
      refine V_iload dX12_laysBest_71 (xm 3 rfl) ?_
      refine V_iload dX12_laysBest_73 (xm 4 rfl) ?_
      refine V_iload dX12_laysBest_75 (xm 5 rfl) ?_
      refine T_callVI dX12_laysBest_77 ok_X12_placeOf (by exact ⟨by decide, rfl⟩) lk_X12_280.1 lk_X12_280.2 (sk_94 hS (by decide)) (hV := ((fX12_placeOf_c (hS.le (by decide)) rfl).mono (by decide) (Nat.le_refl _) (Nat.le_refl _))) rfl (Nat.le_of_ble_eq_true rfl) rfl (Nat.le_of_ble_eq_true rfl) ?_
      refine V_iload dX12_laysBest_80 (xm 5 rfl) ?_
      refine V_iconst dX12_laysBest_82 ?_
      refine xjE h (fun j6 hj6 h => ?_)
      have kj6 : ∀ (s4 : Int) (M5 : xM), j6 s4 M5 = some Mz → V Y_X12_laysBest 4 0 0 117 [(0, vR (some 94)), (1, vI v1), (3, vI v3), (4, vI v4), (5, vI v5), (6, vI v6)] [vI s4, vI (fX12_placeOf v4 v5 v6), vR (some 103)] S M5 Q := by
        intro s4 M5 h
        rw [hj6] at h
        refine T_iast dX12_laysBest_117 (sk_103 hS (by decide)) rfl h (fun M7 h => ?_)
        refine V_iinc (ls' := [(6, vI (v6 + 1)), (0, vR (some 94)), (1, vI v1), (3, vI v3), (4, vI v4), (5, vI v5)]) dX12_laysBest_118 (xm 5 rfl) (by decide) rfl ?_
        refine V_goto (tgt := 60) dX12_laysBest_121 (by decide) ?_
        refine V.pick [1, 2, 3, 4, 5, 0] rfl ?_
        exact ih M7 v1 v3 v4 v5 (v6 + 1) h k
      refine V_icmp_ne (tgt := 103) dX12_laysBest_83 (by decide) h (fun _ h => ?_) (fun _ h => ?_)
      · refine V_aload_n dX12_laysBest_86 rfl (xm 0 rfl) ?_
        refine V_getR dX12_laysBest_87 fl_X12_38 (sk_94 hS (by decide)) rfl ?_
        refine V_aload_n dX12_laysBest_90 rfl (xm 0 rfl) ?_
        refine V_iload dX12_laysBest_91 (xm 3 rfl) ?_
        refine V_iload dX12_laysBest_93 (xm 4 rfl) ?_
        refine V_iconst dX12_laysBest_95 ?_
        refine T_callVI dX12_laysBest_96 ok_X12_placeOf (by exact ⟨by decide, rfl⟩) lk_X12_280.1 lk_X12_280.2 (sk_94 hS (by decide)) (hV := ((fX12_placeOf_c (hS.le (by decide)) rfl).mono (by decide) (Nat.le_refl _) (Nat.le_refl _))) rfl (Nat.le_of_ble_eq_true rfl) rfl (Nat.le_of_ble_eq_true rfl) ?_
        refine T_iald dX12_laysBest_99 (sk_103 hS (by decide)) rfl h (fun r8 h => ?_)
        refine V_goto (tgt := 117) dX12_laysBest_100 (by decide) ?_
        refine V.pick [0, 1, 2, 3, 4, 5] rfl ?_
        exact kj6 r8 M h
      · refine V_aload_n dX12_laysBest_103 rfl (xm 0 rfl) ?_
        refine V_iload_n dX12_laysBest_104 rfl (xm 1 rfl) ?_
        refine V_iload dX12_laysBest_105 (xm 3 rfl) ?_
        refine V_iload dX12_laysBest_107 (xm 4 rfl) ?_
        refine V_iload dX12_laysBest_109 (xm 5 rfl) ?_
        refine T_callSI (host := "") dX12_laysBest_111 ok_X12_turnOf lk_X12_283.1 lk_X12_283.2 (hV := ((fX12_turnOf_c (hS.le (by decide)) rfl).mono (by decide) (Nat.le_refl _) (Nat.le_refl _))) rfl (Nat.le_of_ble_eq_true rfl) rfl (Nat.le_of_ble_eq_true rfl) ?_
        refine xb2E h (fun r10 M11 h9 h => ?_)
        refine T_callVI dX12_laysBest_114 ok_X12_worthTo (by exact ⟨by decide, rfl⟩) lk_X12_286.1 lk_X12_286.2 (sk_94 hS (by decide)) (hV := ((fX12_worthTo_c (hS.le (by decide)) h9).mono (by decide) (Nat.le_refl _) (Nat.le_refl _))) rfl (Nat.le_of_ble_eq_true rfl) rfl (Nat.le_of_ble_eq_true rfl) ?_
        refine V.pick [0, 1, 2, 3, 4, 5] rfl ?_
        exact kj6 r10 M11 h
    · cases h
      refine V.pick [0, 1, 2, 3, 4] rfl ?_
      exact k
theorem fX12_laysBest_L60_ci {S : xS} {kp : Option Nat} (hS : xSk kp 104 S) {Q : Option xV → xS → xM → Prop} {n : Nat} {M : xM} {v1 : Int} {v3 : Int} {v4 : Int} {v5 : Int} {v6 : Int} {Mz : xM} (hl : fX12_laysBest_L60 n M v1 v3 v4 v5 v6 = some Mz) (k : V Y_X12_laysBest 4 0 0 124 [(0, vR (some 94)), (1, vI v1), (3, vI v3), (4, vI v4), (5, vI v5)] [] S Mz Q) : V Y_X12_laysBest 4 0 0 60 [(0, vR (some 94)), (1, vI v1), (3, vI v3), (4, vI v4), (5, vI v5), (6, vI v6)] [] S M Q := fX12_laysBest_L60_c hS _ _ _ _ _ _ _ hl k
def fX12_laysBest_L46 (n : Nat) (M : xM) (v1 : Int) (v3 : Int) (v4 : Int) (v5 : Int) : Option (xM) := match n with
  | 0 => none
  | n + 1 => (if wr v5 < wr (M 95 0) then (xb (fX12_laysBest_L60 xfuel M v1 v3 v4 v5 0) fun M12 => fX12_laysBest_L46 n M12 v1 v3 v4 (v5 + 1)) else some M)
set_option maxRecDepth 20000 in
set_option maxHeartbeats 1000000 in
theorem fX12_laysBest_L46_c {S : xS} {kp : Option Nat} (hS : xSk kp 104 S) {Q : Option xV → xS → xM → Prop} :
    ∀ (n : Nat) (M : xM) (v1 : Int) (v3 : Int) (v4 : Int) (v5 : Int) {Mz : xM}, fX12_laysBest_L46 n M v1 v3 v4 v5 = some Mz → V Y_X12_laysBest 4 0 0 130 [(0, vR (some 94)), (1, vI v1), (3, vI v3), (4, vI v4)] [] S Mz Q → V Y_X12_laysBest 4 0 0 46 [(0, vR (some 94)), (1, vI v1), (3, vI v3), (4, vI v4), (5, vI v5)] [] S M Q := by
  intro n
  induction n with
  | zero =>
    intro M v1 v3 v4 v5 Mz h k
    cases h
  | succ n ih =>
    intro M v1 v3 v4 v5 Mz h k
    rw [fX12_laysBest_L46] at h
    refine V_iload dX12_laysBest_46 (xm 4 rfl) ?_
    refine V_aload_n dX12_laysBest_48 rfl (xm 0 rfl) ?_
    refine V_getR dX12_laysBest_49 fl_X12_7 (sk_94 hS (by decide)) rfl ?_
    refine V_iconst dX12_laysBest_52 ?_
    refine V_ialdK (j := 0) dX12_laysBest_53 (sk_95 hS (by decide)) (by decide) (by decide) ?_
    refine V_icmp_ge (tgt := 130) dX12_laysBest_54 (by decide) h (fun _ h => ?_) (fun _ h => ?_)
    · refine V_iconst dX12_laysBest_57 ?_
      refine V_istore (ls' := [(6, vI 0), (0, vR (some 94)), (1, vI v1), (3, vI v3), (4, vI v4), (5, vI v5)]) dX12_laysBest_58 (by decide) rfl ?_
      refine xbE h (fun M12 h13 h => ?_)
      refine V.pick [1, 2, 3, 4, 5, 0] rfl ?_
      refine fX12_laysBest_L60_ci (hS.le (by decide)) h13 ?_
      refine V_iinc (ls' := [(5, vI (v5 + 1)), (0, vR (some 94)), (1, vI v1), (3, vI v3), (4, vI v4)]) dX12_laysBest_124 (xm 4 rfl) (by decide) rfl ?_
      refine V_goto (tgt := 46) dX12_laysBest_127 (by decide) ?_
      refine V.pick [1, 2, 3, 4, 0] rfl ?_
      exact ih M12 v1 v3 v4 (v5 + 1) h k
    · cases h
      refine V.pick [0, 1, 2, 3] rfl ?_
      exact k
theorem fX12_laysBest_L46_ci {S : xS} {kp : Option Nat} (hS : xSk kp 104 S) {Q : Option xV → xS → xM → Prop} {n : Nat} {M : xM} {v1 : Int} {v3 : Int} {v4 : Int} {v5 : Int} {Mz : xM} (hl : fX12_laysBest_L46 n M v1 v3 v4 v5 = some Mz) (k : V Y_X12_laysBest 4 0 0 130 [(0, vR (some 94)), (1, vI v1), (3, vI v3), (4, vI v4)] [] S Mz Q) : V Y_X12_laysBest 4 0 0 46 [(0, vR (some 94)), (1, vI v1), (3, vI v3), (4, vI v4), (5, vI v5)] [] S M Q := fX12_laysBest_L46_c hS _ _ _ _ _ _ hl k
