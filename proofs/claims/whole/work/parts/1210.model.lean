def fX12_areAtOdds (M : xM) (v1 : Int) (v2 : Int) : Option Bool := (if wr v1 = wr v2 then some false else (xb (fX12_stands M v1) fun r2 => (if r2 = true then (xb (fX12_stands M v2) fun r4 => (if r4 = true then (xrd M 95 5820 (370 + (5 * v1)) fun r5 => xrd M 95 5820 (370 + (5 * v2)) fun r6 => (if wr r5 = wr r6 then (xrd M 95 5820 ((370 + (5 * v1)) + 1) fun r7 => xrd M 95 5820 ((370 + (5 * v2)) + 1) fun r8 => (if wr r7 = wr r8 then some false else (xrd M 95 5820 ((370 + (5 * v1)) + 2) fun r9 => xrd M 95 5820 ((370 + (5 * v2)) + 3) fun r10 => (if wr r10 < wr r9 then some false else (xrd M 95 5820 ((370 + (5 * v2)) + 2) fun r11 => xrd M 95 5820 ((370 + (5 * v1)) + 3) fun r12 => (if wr r12 < wr r11 then some false else some true)))))) else some false)) else some false)) else some false)))
set_option maxRecDepth 20000 in
set_option maxHeartbeats 1000000 in
theorem fX12_areAtOdds_c {S : xS} {kp : Option Nat} (hS : xSk kp 96 S) {M : xM} {v1 : Int} {v2 : Int} {E : Bool} (h : fX12_areAtOdds M v1 v2 = some E) :
    V Y_X12_areAtOdds 1 0 0 0 (xarg 0 [vR (some 94), vI v1, vI v2]) [] S M (xqR S M (some (vI (b2i E)))) := by
  unfold fX12_areAtOdds at h
  show V Y_X12_areAtOdds 1 0 0 0 [(0, vR (some 94)), (1, vI v1), (2, vI v2)] [] S M _
  refine V_sipush dX12_areAtOdds_0 (by decide) ?_
  refine V_iconst dX12_areAtOdds_3 ?_
  refine V_iload_n dX12_areAtOdds_4 rfl (xm 1 rfl) ?_
  refine V_imul dX12_areAtOdds_5 ?_
  refine V_iadd dX12_areAtOdds_6 ?_
  refine V_istore_n (ls' := [(3, vI (370 + (5 * v1))), (0, vR (some 94)), (1, vI v1), (2, vI v2)]) dX12_areAtOdds_7 rfl (by decide) rfl ?_
  refine V_sipush dX12_areAtOdds_8 (by decide) ?_
  refine V_iconst dX12_areAtOdds_11 ?_
  refine V_iload_n dX12_areAtOdds_12 rfl (xm 3 rfl) ?_
  refine V_imul dX12_areAtOdds_13 ?_
  refine V_iadd dX12_areAtOdds_14 ?_
  refine V_istore (ls' := [(4, vI (370 + (5 * v2))), (3, vI (370 + (5 * v1))), (0, vR (some 94)), (1, vI v1), (2, vI v2)]) dX12_areAtOdds_15 (by decide) rfl ?_
  refine V_iload_n dX12_areAtOdds_17 rfl (xm 3 rfl) ?_
  refine V_iload_n dX12_areAtOdds_18 rfl (xm 4 rfl) ?_
  refine V_icmp_eq (tgt := 118) dX12_areAtOdds_19 (by decide) h (fun _ h => ?_) (fun _ h => ?_)
  · refine V_iconst dX12_areAtOdds_118 ?_
    exact V_iretb (b := false) dX12_areAtOdds_119 rfl (by decide) (q_pB h)
  · refine V_aload_n dX12_areAtOdds_22 rfl (xm 2 rfl) ?_
    refine V_iload_n dX12_areAtOdds_23 rfl (xm 3 rfl) ?_
    refine xbE h (fun r2 h1 h => ?_)
    refine T_callVI dX12_areAtOdds_24 ok_X12_stands (by exact ⟨by decide, rfl⟩) lk_X12_246.1 lk_X12_246.2 (sk_94 hS (by decide)) (hV := ((fX12_stands_c (hS.le (by decide)) h1).mono (by decide) (Nat.le_refl _) (Nat.le_refl _))) rfl (Nat.le_of_ble_eq_true rfl) rfl (Nat.le_of_ble_eq_true rfl) ?_
    refine V_if_eqB (tgt := 118) dX12_areAtOdds_27 (by decide) h (fun _ h => ?_) (fun _ h => ?_)
    · refine V_aload_n dX12_areAtOdds_30 rfl (xm 2 rfl) ?_
      refine V_iload_n dX12_areAtOdds_31 rfl (xm 4 rfl) ?_
      refine xbE h (fun r4 h3 h => ?_)
      refine T_callVI dX12_areAtOdds_32 ok_X12_stands (by exact ⟨by decide, rfl⟩) lk_X12_246.1 lk_X12_246.2 (sk_94 hS (by decide)) (hV := ((fX12_stands_c (hS.le (by decide)) h3).mono (by decide) (Nat.le_refl _) (Nat.le_refl _))) rfl (Nat.le_of_ble_eq_true rfl) rfl (Nat.le_of_ble_eq_true rfl) ?_
      refine V_if_eqB (tgt := 118) dX12_areAtOdds_35 (by decide) h (fun _ h => ?_) (fun _ h => ?_)
      · refine V_aload_n dX12_areAtOdds_38 rfl (xm 2 rfl) ?_
        refine V_getR dX12_areAtOdds_39 fl_X12_7 (sk_94 hS (by decide)) rfl ?_
        refine V_iload_n dX12_areAtOdds_42 rfl (xm 1 rfl) ?_
        refine T_iald dX12_areAtOdds_43 (sk_95 hS (by decide)) rfl h (fun r5 h => ?_)
        refine V_aload_n dX12_areAtOdds_44 rfl (xm 2 rfl) ?_
        refine V_getR dX12_areAtOdds_45 fl_X12_7 (sk_94 hS (by decide)) rfl ?_
        refine V_iload dX12_areAtOdds_48 (xm 0 rfl) ?_
        refine T_iald dX12_areAtOdds_50 (sk_95 hS (by decide)) rfl h (fun r6 h => ?_)
        refine V_icmp_ne (tgt := 118) dX12_areAtOdds_51 (by decide) h (fun _ h => ?_) (fun _ h => ?_)
        · refine V_aload_n dX12_areAtOdds_54 rfl (xm 2 rfl) ?_
          refine V_getR dX12_areAtOdds_55 fl_X12_7 (sk_94 hS (by decide)) rfl ?_
          refine V_iload_n dX12_areAtOdds_58 rfl (xm 1 rfl) ?_
          refine V_iconst dX12_areAtOdds_59 ?_
          refine V_iadd dX12_areAtOdds_60 ?_
          refine T_iald dX12_areAtOdds_61 (sk_95 hS (by decide)) rfl h (fun r7 h => ?_)
          refine V_aload_n dX12_areAtOdds_62 rfl (xm 2 rfl) ?_
          refine V_getR dX12_areAtOdds_63 fl_X12_7 (sk_94 hS (by decide)) rfl ?_
          refine V_iload dX12_areAtOdds_66 (xm 0 rfl) ?_
          refine V_iconst dX12_areAtOdds_68 ?_
          refine V_iadd dX12_areAtOdds_69 ?_
          refine T_iald dX12_areAtOdds_70 (sk_95 hS (by decide)) rfl h (fun r8 h => ?_)
          refine V_icmp_eq (tgt := 118) dX12_areAtOdds_71 (by decide) h (fun _ h => ?_) (fun _ h => ?_)
          · refine V_iconst dX12_areAtOdds_118 ?_
            exact V_iretb (b := false) dX12_areAtOdds_119 rfl (by decide) (q_pB h)
          · refine V_aload_n dX12_areAtOdds_74 rfl (xm 2 rfl) ?_
            refine V_getR dX12_areAtOdds_75 fl_X12_7 (sk_94 hS (by decide)) rfl ?_
            refine V_iload_n dX12_areAtOdds_78 rfl (xm 1 rfl) ?_
            refine V_iconst dX12_areAtOdds_79 ?_
            refine V_iadd dX12_areAtOdds_80 ?_
            refine T_iald dX12_areAtOdds_81 (sk_95 hS (by decide)) rfl h (fun r9 h => ?_)
            refine V_aload_n dX12_areAtOdds_82 rfl (xm 2 rfl) ?_
            refine V_getR dX12_areAtOdds_83 fl_X12_7 (sk_94 hS (by decide)) rfl ?_
            refine V_iload dX12_areAtOdds_86 (xm 0 rfl) ?_
            refine V_iconst dX12_areAtOdds_88 ?_
            refine V_iadd dX12_areAtOdds_89 ?_
            refine T_iald dX12_areAtOdds_90 (sk_95 hS (by decide)) rfl h (fun r10 h => ?_)
            refine V_icmp_gt (tgt := 118) dX12_areAtOdds_91 (by decide) h (fun _ h => ?_) (fun _ h => ?_)
            · refine V_iconst dX12_areAtOdds_118 ?_
              exact V_iretb (b := false) dX12_areAtOdds_119 rfl (by decide) (q_pB h)
            · refine V_aload_n dX12_areAtOdds_94 rfl (xm 2 rfl) ?_
              refine V_getR dX12_areAtOdds_95 fl_X12_7 (sk_94 hS (by decide)) rfl ?_
              refine V_iload dX12_areAtOdds_98 (xm 0 rfl) ?_
              refine V_iconst dX12_areAtOdds_100 ?_
              refine V_iadd dX12_areAtOdds_101 ?_
              refine T_iald dX12_areAtOdds_102 (sk_95 hS (by decide)) rfl h (fun r11 h => ?_)
              refine V_aload_n dX12_areAtOdds_103 rfl (xm 2 rfl) ?_
              refine V_getR dX12_areAtOdds_104 fl_X12_7 (sk_94 hS (by decide)) rfl ?_
              refine V_iload_n dX12_areAtOdds_107 rfl (xm 1 rfl) ?_
              refine V_iconst dX12_areAtOdds_108 ?_
              refine V_iadd dX12_areAtOdds_109 ?_
              refine T_iald dX12_areAtOdds_110 (sk_95 hS (by decide)) rfl h (fun r12 h => ?_)
              refine V_icmp_gt (tgt := 118) dX12_areAtOdds_111 (by decide) h (fun _ h => ?_) (fun _ h => ?_)
              · refine V_iconst dX12_areAtOdds_118 ?_
                exact V_iretb (b := false) dX12_areAtOdds_119 rfl (by decide) (q_pB h)
              · refine V_iconst dX12_areAtOdds_114 ?_
                refine V_goto (tgt := 119) dX12_areAtOdds_115 (by decide) ?_
                exact V_iretb (b := true) dX12_areAtOdds_119 rfl (by decide) (q_pB h)
        · refine V_iconst dX12_areAtOdds_118 ?_
          exact V_iretb (b := false) dX12_areAtOdds_119 rfl (by decide) (q_pB h)
      · refine V_iconst dX12_areAtOdds_118 ?_
        exact V_iretb (b := false) dX12_areAtOdds_119 rfl (by decide) (q_pB h)
    · refine V_iconst dX12_areAtOdds_118 ?_
      exact V_iretb (b := false) dX12_areAtOdds_119 rfl (by decide) (q_pB h)
def fX12_quarrel_L15 (n : Nat) (M : xM) (v1 : Int) (v2 : Int) : Option ((Unit) ⊕ (Int)) := match n with
  | 0 => none
  | n + 1 => (if wr v2 < wr v1 then (xb (fX12_areAtOdds M v1 v2) fun r2 => (if r2 = true then some (.inr v1) else fX12_quarrel_L15 n M v1 (v2 + 1))) else some (.inl ()))
set_option maxRecDepth 20000 in
set_option maxHeartbeats 1000000 in
theorem fX12_quarrel_L15_c {S : xS} {kp : Option Nat} (hS : xSk kp 96 S) {Q : Option xV → xS → xM → Prop} :
    ∀ (n : Nat) (M : xM) (v1 : Int) (v2 : Int) {E : (Unit) ⊕ (Int)}, fX12_quarrel_L15 n M v1 v2 = some E → (E = .inl () → V Y_X12_quarrel 2 0 0 37 [(0, vR (some 94)), (1, vI v1)] [] S M Q) → (∀ (w : Int), E = .inr w → Q (some (vI w)) S M) → V Y_X12_quarrel 2 0 0 15 [(0, vR (some 94)), (1, vI v1), (2, vI v2)] [] S M Q := by
  intro n
  induction n with
  | zero =>
    intro M v1 v2 E h k kr
    cases h
  | succ n ih =>
    intro M v1 v2 E h k kr
    rw [fX12_quarrel_L15] at h
    refine V_iload_n dX12_quarrel_15 rfl (xm 2 rfl) ?_
    refine V_iload_n dX12_quarrel_16 rfl (xm 1 rfl) ?_
    refine V_icmp_ge (tgt := 37) dX12_quarrel_17 (by decide) h (fun _ h => ?_) (fun _ h => ?_)
    · refine V_aload_n dX12_quarrel_20 rfl (xm 0 rfl) ?_
      refine V_iload_n dX12_quarrel_21 rfl (xm 1 rfl) ?_
      refine V_iload_n dX12_quarrel_22 rfl (xm 2 rfl) ?_
      refine xbE h (fun r2 h1 h => ?_)
      refine T_callVI dX12_quarrel_23 ok_X12_areAtOdds (by exact ⟨by decide, rfl⟩) lk_X12_314.1 lk_X12_314.2 (sk_94 hS (by decide)) (hV := ((fX12_areAtOdds_c (hS.le (by decide)) h1).mono (by decide) (Nat.le_refl _) (Nat.le_refl _))) rfl (Nat.le_of_ble_eq_true rfl) rfl (Nat.le_of_ble_eq_true rfl) ?_
      refine V_if_eqB (tgt := 31) dX12_quarrel_26 (by decide) h (fun _ h => ?_) (fun _ h => ?_)
      · refine V_iload_n dX12_quarrel_29 rfl (xm 1 rfl) ?_
        exact V_ireti dX12_quarrel_30 rfl (kr v1 (Option.some.inj h).symm)
      · refine V_iinc (ls' := [(2, vI (v2 + 1)), (0, vR (some 94)), (1, vI v1)]) dX12_quarrel_31 (xm 2 rfl) (by decide) rfl ?_
        refine V_goto (tgt := 15) dX12_quarrel_34 (by decide) ?_
        refine V.pick [1, 2, 0] rfl ?_
        exact ih M v1 (v2 + 1) h k kr
    · refine V.pick [0, 1] rfl ?_
      exact k  (Option.some.inj h).symm
theorem fX12_quarrel_L15_ci {S : xS} {kp : Option Nat} (hS : xSk kp 96 S) {Q : Option xV → xS → xM → Prop} {n : Nat} {M : xM} {v1 : Int} {v2 : Int} (hl : fX12_quarrel_L15 n M v1 v2 = some (.inl ())) (k : V Y_X12_quarrel 2 0 0 37 [(0, vR (some 94)), (1, vI v1)] [] S M Q) : V Y_X12_quarrel 2 0 0 15 [(0, vR (some 94)), (1, vI v1), (2, vI v2)] [] S M Q := fX12_quarrel_L15_c hS _ _ _ _ hl (fun  e => by cases e; exact k) (fun _ e => by cases e)
theorem fX12_quarrel_L15_cr {S : xS} {kp : Option Nat} (hS : xSk kp 96 S) {Q : Option xV → xS → xM → Prop} {n : Nat} {M : xM} {v1 : Int} {v2 : Int} {w : Int} (hl : fX12_quarrel_L15 n M v1 v2 = some (.inr w)) (k : Q (some (vI w)) S M) : V Y_X12_quarrel 2 0 0 15 [(0, vR (some 94)), (1, vI v1), (2, vI v2)] [] S M Q := fX12_quarrel_L15_c hS _ _ _ _ hl (fun  e => by cases e) (fun _ e => by cases e; exact k)
def fX12_quarrel_L2 (n : Nat) (M : xM) (v1 : Int) : Option ((Unit) ⊕ (Int)) := match n with
  | 0 => none
  | n + 1 => (if wr v1 < wr (M 95 7) then (xs0 (fX12_quarrel_L15 xfuel M v1 0) (fX12_quarrel_L2 n M (v1 + 1)) (fun r => some (.inr r))) else some (.inl ()))
set_option maxRecDepth 20000 in
set_option maxHeartbeats 1000000 in
theorem fX12_quarrel_L2_c {S : xS} {kp : Option Nat} (hS : xSk kp 96 S) {Q : Option xV → xS → xM → Prop} :
    ∀ (n : Nat) (M : xM) (v1 : Int) {E : (Unit) ⊕ (Int)}, fX12_quarrel_L2 n M v1 = some E → (E = .inl () → V Y_X12_quarrel 2 0 0 43 [] [] S M Q) → (∀ (w : Int), E = .inr w → Q (some (vI w)) S M) → V Y_X12_quarrel 2 0 0 2 [(0, vR (some 94)), (1, vI v1)] [] S M Q := by
  intro n
  induction n with
  | zero =>
    intro M v1 E h k kr
    cases h
  | succ n ih =>
    intro M v1 E h k kr
    rw [fX12_quarrel_L2] at h
    refine V_iload_n dX12_quarrel_2 rfl (xm 1 rfl) ?_
    refine V_aload_n dX12_quarrel_3 rfl (xm 0 rfl) ?_
    refine V_getR dX12_quarrel_4 fl_X12_7 (sk_94 hS (by decide)) rfl ?_
    refine V_bipush dX12_quarrel_7 (by decide) ?_
    refine V_ialdK (j := 7) dX12_quarrel_9 (sk_95 hS (by decide)) (by decide) (by decide) ?_
    refine V_icmp_ge (tgt := 43) dX12_quarrel_10 (by decide) h (fun _ h => ?_) (fun _ h => ?_)
    · refine V_iconst dX12_quarrel_13 ?_
      refine V_istore_n (ls' := [(2, vI 0), (0, vR (some 94)), (1, vI v1)]) dX12_quarrel_14 rfl (by decide) rfl ?_
      refine xs0E h (fun  h3 h => ?_) (fun r h3 h => ?_)
      · refine V.pick [1, 2, 0] rfl ?_
        refine fX12_quarrel_L15_ci (hS.le (by decide)) h3 ?_
        refine V_iinc (ls' := [(1, vI (v1 + 1)), (0, vR (some 94))]) dX12_quarrel_37 (xm 1 rfl) (by decide) rfl ?_
        refine V_goto (tgt := 2) dX12_quarrel_40 (by decide) ?_
        refine V.pick [1, 0] rfl ?_
        exact ih M (v1 + 1) h k kr
      · refine V.pick [1, 2, 0] rfl ?_
        refine fX12_quarrel_L15_cr (hS.le (by decide)) h3 ?_
        exact kr _ (Option.some.inj h).symm
    · refine V.pick [] rfl ?_
      exact k  (Option.some.inj h).symm
theorem fX12_quarrel_L2_ci {S : xS} {kp : Option Nat} (hS : xSk kp 96 S) {Q : Option xV → xS → xM → Prop} {n : Nat} {M : xM} {v1 : Int} (hl : fX12_quarrel_L2 n M v1 = some (.inl ())) (k : V Y_X12_quarrel 2 0 0 43 [] [] S M Q) : V Y_X12_quarrel 2 0 0 2 [(0, vR (some 94)), (1, vI v1)] [] S M Q := fX12_quarrel_L2_c hS _ _ _ hl (fun  e => by cases e; exact k) (fun _ e => by cases e)
theorem fX12_quarrel_L2_cr {S : xS} {kp : Option Nat} (hS : xSk kp 96 S) {Q : Option xV → xS → xM → Prop} {n : Nat} {M : xM} {v1 : Int} {w : Int} (hl : fX12_quarrel_L2 n M v1 = some (.inr w)) (k : Q (some (vI w)) S M) : V Y_X12_quarrel 2 0 0 2 [(0, vR (some 94)), (1, vI v1)] [] S M Q := fX12_quarrel_L2_c hS _ _ _ hl (fun  e => by cases e) (fun _ e => by cases e; exact k)
def fX12_quarrel (M : xM)  : Option Int := xs0 (fX12_quarrel_L2 xfuel M 0) (some ((-1))) (fun r => some r)
set_option maxRecDepth 20000 in
set_option maxHeartbeats 1000000 in
theorem fX12_quarrel_c {S : xS} {kp : Option Nat} (hS : xSk kp 96 S) {M : xM} {E : Int} (h : fX12_quarrel M = some E) :
    V Y_X12_quarrel 2 0 0 0 (xarg 0 [vR (some 94)]) [] S M (xqR S M (some (vI E))) := by
  unfold fX12_quarrel at h
  show V Y_X12_quarrel 2 0 0 0 [(0, vR (some 94))] [] S M _
  refine V_iconst dX12_quarrel_0 ?_
  refine V_istore_n (ls' := [(1, vI 0), (0, vR (some 94))]) dX12_quarrel_1 rfl (by decide) rfl ?_
  refine xs0E h (fun  h4 h => ?_) (fun r h4 h => ?_)
  · refine V.pick [1, 0] rfl ?_
    refine fX12_quarrel_L2_ci (hS.le (by decide)) h4 ?_
    refine V_iconst dX12_quarrel_43 ?_
    exact V_ireti dX12_quarrel_44 rfl (q_pI h)
  · refine V.pick [1, 0] rfl ?_
    refine fX12_quarrel_L2_cr (hS.le (by decide)) h4 ?_
    exact q_pI h
def fX12_canBe_L48 (rc : xM → Int → Int → Int → Int → Option (Bool)) (n : Nat) (M : xM) (v1 : Int) (v2 : Int) (v3 : Int) (v4 : Int) (v5 : Int) (v6 : Int) : Option ((Unit) ⊕ (Bool)) := match n with
  | 0 => none
  | n + 1 => (if wr v6 < wr v5 then (if wr (xand (xshr v2 v6) 1) = wr 1 then fX12_canBe_L48 rc n M v1 v2 v3 v4 v5 (v6 + 1) else (xb (fX12_areAtOdds M v5 v6) fun r3 => (if r3 = true then (if wr v4 = 0 then some (.inr false) else (xj (fun (_ : Unit) => (if wr (xand (xshr v3 v6) 1) = 0 then (xb (rc M v1 (xor_ v2 (xshl 1 v6)) (xor_ v3 (xshl 1 v5)) (v4 - 1)) fun r6 => (if r6 = true then some (.inr true) else some (.inr false))) else some (.inr false))) fun j4 => (if wr (xand (xshr v3 v5) 1) = 0 then (xb (rc M v1 (xor_ v2 (xshl 1 v5)) v3 (v4 - 1)) fun r8 => (if r8 = true then some (.inr true) else j4 ())) else j4 ()))) else fX12_canBe_L48 rc n M v1 v2 v3 v4 v5 (v6 + 1)))) else some (.inl ()))
set_option maxRecDepth 20000 in
set_option maxHeartbeats 1000000 in
theorem fX12_canBe_L48_c {S : xS} {kp : Option Nat} (hS : xSk kp 96 S) {Q : Option xV → xS → xM → Prop} {m : Nat} {rc : xM → Int → Int → Int → Int → Option (Bool)} (hm : 2 ≤ m) (ih0 : ∀ {M : xM} {v1 : Int} {v2 : Int} {v3 : Int} {v4 : Int} {E : Bool}, rc M v1 v2 v3 v4 = some E → V Y_X12_canBe m 0 0 0 (xarg 0 [vR (some 94), vI v1, vI v2, vI v3, vI v4]) [] S M (xqR S M (some (vI (b2i E))))) :
    ∀ (n : Nat) (M : xM) (v1 : Int) (v2 : Int) (v3 : Int) (v4 : Int) (v5 : Int) (v6 : Int) {E : (Unit) ⊕ (Bool)}, fX12_canBe_L48 rc n M v1 v2 v3 v4 v5 v6 = some E → (E = .inl () → V Y_X12_canBe (m + 1) 0 0 161 [(0, vR (some 94)), (1, vI v1), (2, vI v2), (3, vI v3), (4, vI v4), (5, vI v5)] [] S M Q) → (∀ (w : Bool), E = .inr w → Q (some (vI (b2i w))) S M) → V Y_X12_canBe (m + 1) 0 0 48 [(0, vR (some 94)), (1, vI v1), (2, vI v2), (3, vI v3), (4, vI v4), (5, vI v5), (6, vI v6)] [] S M Q := by
  intro n
  induction n with
  | zero =>
    intro M v1 v2 v3 v4 v5 v6 E h k kr
    cases h
  | succ n ih =>
    intro M v1 v2 v3 v4 v5 v6 E h k kr
    rw [fX12_canBe_L48] at h
    refine V_iload dX12_canBe_48 (xm 6 rfl) ?_
    refine V_iload dX12_canBe_50 (xm 5 rfl) ?_
    refine V_icmp_ge (tgt := 161) dX12_canBe_52 (by decide) h (fun _ h => ?_) (fun _ h => ?_)
    · refine V_iload_n dX12_canBe_55 rfl (xm 2 rfl) ?_
      refine V_iload dX12_canBe_56 (xm 6 rfl) ?_
      refine V_ishr dX12_canBe_58 ?_
      refine V_iconst dX12_canBe_59 ?_
      refine V_iand dX12_canBe_60 ?_
      refine V_iconst dX12_canBe_61 ?_
      refine V_icmp_eq (tgt := 155) dX12_canBe_62 (by decide) h (fun _ h => ?_) (fun _ h => ?_)
      · refine V_iinc (ls' := [(6, vI (v6 + 1)), (0, vR (some 94)), (1, vI v1), (2, vI v2), (3, vI v3), (4, vI v4), (5, vI v5)]) dX12_canBe_155 (xm 6 rfl) (by decide) rfl ?_
        refine V_goto (tgt := 48) dX12_canBe_158 (by decide) ?_
        refine V.pick [1, 2, 3, 4, 5, 6, 0] rfl ?_
        exact ih M v1 v2 v3 v4 v5 (v6 + 1) h k kr
      · refine V_aload_n dX12_canBe_65 rfl (xm 0 rfl) ?_
        refine V_iload dX12_canBe_66 (xm 5 rfl) ?_
        refine V_iload dX12_canBe_68 (xm 6 rfl) ?_
        refine xbE h (fun r3 h2 h => ?_)
        refine T_callVI dX12_canBe_70 ok_X12_areAtOdds (by exact ⟨by decide, rfl⟩) lk_X12_314.1 lk_X12_314.2 (sk_94 hS (by decide)) (hV := ((fX12_areAtOdds_c (hS.le (by decide)) h2).mono (by omega) (Nat.le_refl _) (Nat.le_refl _))) rfl (Nat.le_of_ble_eq_true rfl) rfl (Nat.le_of_ble_eq_true rfl) ?_
        refine V_if_neB (tgt := 79) dX12_canBe_73 (by decide) h (fun _ h => ?_) (fun _ h => ?_)
        · refine V_iload dX12_canBe_79 (xm 4 rfl) ?_
          refine V_if_ne (tgt := 86) dX12_canBe_81 (by decide) h (fun _ h => ?_) (fun _ h => ?_)
          · refine V_iconst dX12_canBe_84 ?_
            exact V_iretb (b := false) dX12_canBe_85 rfl (by decide) (kr false (Option.some.inj h).symm)
          · refine V_iload_n dX12_canBe_86 rfl (xm 3 rfl) ?_
            refine V_iload dX12_canBe_87 (xm 5 rfl) ?_
            refine V_ishr dX12_canBe_89 ?_
            refine V_iconst dX12_canBe_90 ?_
            refine V_iand dX12_canBe_91 ?_
            refine xjE h (fun j4 hj4 h => ?_)
            have kj4 : ∀ (u : Unit), j4 u = some E → V Y_X12_canBe (m + 1) 0 0 116 [(0, vR (some 94)), (1, vI v1), (2, vI v2), (3, vI v3), (4, vI v4), (5, vI v5), (6, vI v6)] [] S M Q := by
              intro u h
              rw [hj4] at h
              refine V_iload_n dX12_canBe_116 rfl (xm 3 rfl) ?_
              refine V_iload dX12_canBe_117 (xm 6 rfl) ?_
              refine V_ishr dX12_canBe_119 ?_
              refine V_iconst dX12_canBe_120 ?_
              refine V_iand dX12_canBe_121 ?_
              refine V_if_ne (tgt := 153) dX12_canBe_122 (by decide) h (fun _ h => ?_) (fun _ h => ?_)
              · refine V_aload_n dX12_canBe_125 rfl (xm 0 rfl) ?_
                refine V_iload_n dX12_canBe_126 rfl (xm 1 rfl) ?_
                refine V_iload_n dX12_canBe_127 rfl (xm 2 rfl) ?_
                refine V_iconst dX12_canBe_128 ?_
                refine V_iload dX12_canBe_129 (xm 6 rfl) ?_
                refine V_ishl dX12_canBe_131 ?_
                refine V_ior dX12_canBe_132 ?_
                refine V_iload_n dX12_canBe_133 rfl (xm 3 rfl) ?_
                refine V_iconst dX12_canBe_134 ?_
                refine V_iload dX12_canBe_135 (xm 5 rfl) ?_
                refine V_ishl dX12_canBe_137 ?_
                refine V_ior dX12_canBe_138 ?_
                refine V_iload dX12_canBe_139 (xm 4 rfl) ?_
                refine V_iconst dX12_canBe_141 ?_
                refine V_isub dX12_canBe_142 ?_
                refine xbE h (fun r6 h5 h => ?_)
                refine T_callVI dX12_canBe_143 ok_X12_canBe (by exact ⟨by decide, rfl⟩) lk_X12_318.1 lk_X12_318.2 (sk_94 hS (by decide)) (hV := (ih0 h5)) rfl (Nat.le_of_ble_eq_true rfl) rfl (Nat.le_of_ble_eq_true rfl) ?_
                refine V_if_eqB (tgt := 153) dX12_canBe_146 (by decide) h (fun _ h => ?_) (fun _ h => ?_)
                · refine V_iconst dX12_canBe_149 ?_
                  refine V_goto (tgt := 154) dX12_canBe_150 (by decide) ?_
                  exact V_iretb (b := true) dX12_canBe_154 rfl (by decide) (kr true (Option.some.inj h).symm)
                · refine V_iconst dX12_canBe_153 ?_
                  exact V_iretb (b := false) dX12_canBe_154 rfl (by decide) (kr false (Option.some.inj h).symm)
              · refine V_iconst dX12_canBe_153 ?_
                exact V_iretb (b := false) dX12_canBe_154 rfl (by decide) (kr false (Option.some.inj h).symm)
            refine V_if_ne (tgt := 116) dX12_canBe_92 (by decide) h (fun _ h => ?_) (fun _ h => ?_)
            · refine V_aload_n dX12_canBe_95 rfl (xm 0 rfl) ?_
              refine V_iload_n dX12_canBe_96 rfl (xm 1 rfl) ?_
              refine V_iload_n dX12_canBe_97 rfl (xm 2 rfl) ?_
              refine V_iconst dX12_canBe_98 ?_
              refine V_iload dX12_canBe_99 (xm 5 rfl) ?_
              refine V_ishl dX12_canBe_101 ?_
              refine V_ior dX12_canBe_102 ?_
              refine V_iload_n dX12_canBe_103 rfl (xm 3 rfl) ?_
              refine V_iload dX12_canBe_104 (xm 4 rfl) ?_
              refine V_iconst dX12_canBe_106 ?_
              refine V_isub dX12_canBe_107 ?_
              refine xbE h (fun r8 h7 h => ?_)
              refine T_callVI dX12_canBe_108 ok_X12_canBe (by exact ⟨by decide, rfl⟩) lk_X12_318.1 lk_X12_318.2 (sk_94 hS (by decide)) (hV := (ih0 h7)) rfl (Nat.le_of_ble_eq_true rfl) rfl (Nat.le_of_ble_eq_true rfl) ?_
              refine V_if_eqB (tgt := 116) dX12_canBe_111 (by decide) h (fun _ h => ?_) (fun _ h => ?_)
              · refine V_iconst dX12_canBe_114 ?_
                exact V_iretb (b := true) dX12_canBe_115 rfl (by decide) (kr true (Option.some.inj h).symm)
              · refine V.pick [0, 1, 2, 3, 4, 5, 6] rfl ?_
                exact kj4 () h
            · refine V.pick [0, 1, 2, 3, 4, 5, 6] rfl ?_
              exact kj4 () h
        · refine V_goto (tgt := 155) dX12_canBe_76 (by decide) ?_
          refine V_iinc (ls' := [(6, vI (v6 + 1)), (0, vR (some 94)), (1, vI v1), (2, vI v2), (3, vI v3), (4, vI v4), (5, vI v5)]) dX12_canBe_155 (xm 6 rfl) (by decide) rfl ?_
          refine V_goto (tgt := 48) dX12_canBe_158 (by decide) ?_
          refine V.pick [1, 2, 3, 4, 5, 6, 0] rfl ?_
          exact ih M v1 v2 v3 v4 v5 (v6 + 1) h k kr
    · refine V.pick [0, 1, 2, 3, 4, 5] rfl ?_
      exact k  (Option.some.inj h).symm
theorem fX12_canBe_L48_ci {S : xS} {kp : Option Nat} (hS : xSk kp 96 S) {Q : Option xV → xS → xM → Prop} {m : Nat} {rc : xM → Int → Int → Int → Int → Option (Bool)} (hm : 2 ≤ m) (ih0 : ∀ {M : xM} {v1 : Int} {v2 : Int} {v3 : Int} {v4 : Int} {E : Bool}, rc M v1 v2 v3 v4 = some E → V Y_X12_canBe m 0 0 0 (xarg 0 [vR (some 94), vI v1, vI v2, vI v3, vI v4]) [] S M (xqR S M (some (vI (b2i E))))) {n : Nat} {M : xM} {v1 : Int} {v2 : Int} {v3 : Int} {v4 : Int} {v5 : Int} {v6 : Int} (hl : fX12_canBe_L48 rc n M v1 v2 v3 v4 v5 v6 = some (.inl ())) (k : V Y_X12_canBe (m + 1) 0 0 161 [(0, vR (some 94)), (1, vI v1), (2, vI v2), (3, vI v3), (4, vI v4), (5, vI v5)] [] S M Q) : V Y_X12_canBe (m + 1) 0 0 48 [(0, vR (some 94)), (1, vI v1), (2, vI v2), (3, vI v3), (4, vI v4), (5, vI v5), (6, vI v6)] [] S M Q := fX12_canBe_L48_c hS hm ih0 _ _ _ _ _ _ _ _ hl (fun  e => by cases e; exact k) (fun _ e => by cases e)
theorem fX12_canBe_L48_cr {S : xS} {kp : Option Nat} (hS : xSk kp 96 S) {Q : Option xV → xS → xM → Prop} {m : Nat} {rc : xM → Int → Int → Int → Int → Option (Bool)} (hm : 2 ≤ m) (ih0 : ∀ {M : xM} {v1 : Int} {v2 : Int} {v3 : Int} {v4 : Int} {E : Bool}, rc M v1 v2 v3 v4 = some E → V Y_X12_canBe m 0 0 0 (xarg 0 [vR (some 94), vI v1, vI v2, vI v3, vI v4]) [] S M (xqR S M (some (vI (b2i E))))) {n : Nat} {M : xM} {v1 : Int} {v2 : Int} {v3 : Int} {v4 : Int} {v5 : Int} {v6 : Int} {w : Bool} (hl : fX12_canBe_L48 rc n M v1 v2 v3 v4 v5 v6 = some (.inr w)) (k : Q (some (vI (b2i w))) S M) : V Y_X12_canBe (m + 1) 0 0 48 [(0, vR (some 94)), (1, vI v1), (2, vI v2), (3, vI v3), (4, vI v4), (5, vI v5), (6, vI v6)] [] S M Q := fX12_canBe_L48_c hS hm ih0 _ _ _ _ _ _ _ _ hl (fun  e => by cases e) (fun _ e => by cases e; exact k)
def fX12_canBe_L3 (rc : xM → Int → Int → Int → Int → Option (Bool)) (n : Nat) (M : xM) (v1 : Int) (v2 : Int) (v3 : Int) (v4 : Int) (v5 : Int) : Option ((Unit) ⊕ (Bool)) := match n with
  | 0 => none
  | n + 1 => (if wr v5 < wr (M 95 7) then (xrd M 95 5820 (370 + (5 * v5)) fun r1 => (if wr r1 = wr v1 then (if wr (xand (xshr v2 v5) 1) = wr 1 then fX12_canBe_L3 rc n M v1 v2 v3 v4 (v5 + 1) else (xs0 (fX12_canBe_L48 rc xfuel M v1 v2 v3 v4 v5 0) (fX12_canBe_L3 rc n M v1 v2 v3 v4 (v5 + 1)) (fun r => some (.inr r)))) else fX12_canBe_L3 rc n M v1 v2 v3 v4 (v5 + 1))) else some (.inl ()))
set_option maxRecDepth 20000 in
set_option maxHeartbeats 1000000 in
theorem fX12_canBe_L3_c {S : xS} {kp : Option Nat} (hS : xSk kp 96 S) {Q : Option xV → xS → xM → Prop} {m : Nat} {rc : xM → Int → Int → Int → Int → Option (Bool)} (hm : 2 ≤ m) (ih0 : ∀ {M : xM} {v1 : Int} {v2 : Int} {v3 : Int} {v4 : Int} {E : Bool}, rc M v1 v2 v3 v4 = some E → V Y_X12_canBe m 0 0 0 (xarg 0 [vR (some 94), vI v1, vI v2, vI v3, vI v4]) [] S M (xqR S M (some (vI (b2i E))))) :
    ∀ (n : Nat) (M : xM) (v1 : Int) (v2 : Int) (v3 : Int) (v4 : Int) (v5 : Int) {E : (Unit) ⊕ (Bool)}, fX12_canBe_L3 rc n M v1 v2 v3 v4 v5 = some E → (E = .inl () → V Y_X12_canBe (m + 1) 0 0 167 [] [] S M Q) → (∀ (w : Bool), E = .inr w → Q (some (vI (b2i w))) S M) → V Y_X12_canBe (m + 1) 0 0 3 [(0, vR (some 94)), (1, vI v1), (2, vI v2), (3, vI v3), (4, vI v4), (5, vI v5)] [] S M Q := by
  intro n
  induction n with
  | zero =>
    intro M v1 v2 v3 v4 v5 E h k kr
    cases h
  | succ n ih =>
    intro M v1 v2 v3 v4 v5 E h k kr
    rw [fX12_canBe_L3] at h
    refine V_iload dX12_canBe_3 (xm 5 rfl) ?_
    refine V_aload_n dX12_canBe_5 rfl (xm 0 rfl) ?_
    refine V_getR dX12_canBe_6 fl_X12_7 (sk_94 hS (by decide)) rfl ?_
    refine V_bipush dX12_canBe_9 (by decide) ?_
    refine V_ialdK (j := 7) dX12_canBe_11 (sk_95 hS (by decide)) (by decide) (by decide) ?_
    refine V_icmp_ge (tgt := 167) dX12_canBe_12 (by decide) h (fun _ h => ?_) (fun _ h => ?_)
    · refine V_aload_n dX12_canBe_15 rfl (xm 0 rfl) ?_
      refine V_getR dX12_canBe_16 fl_X12_7 (sk_94 hS (by decide)) rfl ?_
      refine V_sipush dX12_canBe_19 (by decide) ?_
      refine V_iconst dX12_canBe_22 ?_
      refine V_iload dX12_canBe_23 (xm 5 rfl) ?_
      refine V_imul dX12_canBe_25 ?_
      refine V_iadd dX12_canBe_26 ?_
      refine T_iald dX12_canBe_27 (sk_95 hS (by decide)) rfl h (fun r1 h => ?_)
      refine V_iload_n dX12_canBe_28 rfl (xm 1 rfl) ?_
      refine V_icmp_ne (tgt := 161) dX12_canBe_29 (by decide) h (fun _ h => ?_) (fun _ h => ?_)
      · refine V_iload_n dX12_canBe_32 rfl (xm 2 rfl) ?_
        refine V_iload dX12_canBe_33 (xm 5 rfl) ?_
        refine V_ishr dX12_canBe_35 ?_
        refine V_iconst dX12_canBe_36 ?_
        refine V_iand dX12_canBe_37 ?_
        refine V_iconst dX12_canBe_38 ?_
        refine V_icmp_ne (tgt := 45) dX12_canBe_39 (by decide) h (fun _ h => ?_) (fun _ h => ?_)
        · refine V_goto (tgt := 161) dX12_canBe_42 (by decide) ?_
          refine V_iinc (ls' := [(5, vI (v5 + 1)), (0, vR (some 94)), (1, vI v1), (2, vI v2), (3, vI v3), (4, vI v4)]) dX12_canBe_161 (xm 5 rfl) (by decide) rfl ?_
          refine V_goto (tgt := 3) dX12_canBe_164 (by decide) ?_
          refine V.pick [1, 2, 3, 4, 5, 0] rfl ?_
          exact ih M v1 v2 v3 v4 (v5 + 1) h k kr
        · refine V_iconst dX12_canBe_45 ?_
          refine V_istore (ls' := [(6, vI 0), (0, vR (some 94)), (1, vI v1), (2, vI v2), (3, vI v3), (4, vI v4), (5, vI v5)]) dX12_canBe_46 (by decide) rfl ?_
          refine xs0E h (fun  h9 h => ?_) (fun r h9 h => ?_)
          · refine V.pick [1, 2, 3, 4, 5, 6, 0] rfl ?_
            refine fX12_canBe_L48_ci (hS.le (by decide)) hm ih0 h9 ?_
            refine V_iinc (ls' := [(5, vI (v5 + 1)), (0, vR (some 94)), (1, vI v1), (2, vI v2), (3, vI v3), (4, vI v4)]) dX12_canBe_161 (xm 5 rfl) (by decide) rfl ?_
            refine V_goto (tgt := 3) dX12_canBe_164 (by decide) ?_
            refine V.pick [1, 2, 3, 4, 5, 0] rfl ?_
            exact ih M v1 v2 v3 v4 (v5 + 1) h k kr
          · refine V.pick [1, 2, 3, 4, 5, 6, 0] rfl ?_
            refine fX12_canBe_L48_cr (hS.le (by decide)) hm ih0 h9 ?_
            exact kr _ (Option.some.inj h).symm
      · refine V_iinc (ls' := [(5, vI (v5 + 1)), (0, vR (some 94)), (1, vI v1), (2, vI v2), (3, vI v3), (4, vI v4)]) dX12_canBe_161 (xm 5 rfl) (by decide) rfl ?_
        refine V_goto (tgt := 3) dX12_canBe_164 (by decide) ?_
        refine V.pick [1, 2, 3, 4, 5, 0] rfl ?_
        exact ih M v1 v2 v3 v4 (v5 + 1) h k kr
    · refine V.pick [] rfl ?_
      exact k  (Option.some.inj h).symm
theorem fX12_canBe_L3_ci {S : xS} {kp : Option Nat} (hS : xSk kp 96 S) {Q : Option xV → xS → xM → Prop} {m : Nat} {rc : xM → Int → Int → Int → Int → Option (Bool)} (hm : 2 ≤ m) (ih0 : ∀ {M : xM} {v1 : Int} {v2 : Int} {v3 : Int} {v4 : Int} {E : Bool}, rc M v1 v2 v3 v4 = some E → V Y_X12_canBe m 0 0 0 (xarg 0 [vR (some 94), vI v1, vI v2, vI v3, vI v4]) [] S M (xqR S M (some (vI (b2i E))))) {n : Nat} {M : xM} {v1 : Int} {v2 : Int} {v3 : Int} {v4 : Int} {v5 : Int} (hl : fX12_canBe_L3 rc n M v1 v2 v3 v4 v5 = some (.inl ())) (k : V Y_X12_canBe (m + 1) 0 0 167 [] [] S M Q) : V Y_X12_canBe (m + 1) 0 0 3 [(0, vR (some 94)), (1, vI v1), (2, vI v2), (3, vI v3), (4, vI v4), (5, vI v5)] [] S M Q := fX12_canBe_L3_c hS hm ih0 _ _ _ _ _ _ _ hl (fun  e => by cases e; exact k) (fun _ e => by cases e)
theorem fX12_canBe_L3_cr {S : xS} {kp : Option Nat} (hS : xSk kp 96 S) {Q : Option xV → xS → xM → Prop} {m : Nat} {rc : xM → Int → Int → Int → Int → Option (Bool)} (hm : 2 ≤ m) (ih0 : ∀ {M : xM} {v1 : Int} {v2 : Int} {v3 : Int} {v4 : Int} {E : Bool}, rc M v1 v2 v3 v4 = some E → V Y_X12_canBe m 0 0 0 (xarg 0 [vR (some 94), vI v1, vI v2, vI v3, vI v4]) [] S M (xqR S M (some (vI (b2i E))))) {n : Nat} {M : xM} {v1 : Int} {v2 : Int} {v3 : Int} {v4 : Int} {v5 : Int} {w : Bool} (hl : fX12_canBe_L3 rc n M v1 v2 v3 v4 v5 = some (.inr w)) (k : Q (some (vI (b2i w))) S M) : V Y_X12_canBe (m + 1) 0 0 3 [(0, vR (some 94)), (1, vI v1), (2, vI v2), (3, vI v3), (4, vI v4), (5, vI v5)] [] S M Q := fX12_canBe_L3_c hS hm ih0 _ _ _ _ _ _ _ hl (fun  e => by cases e) (fun _ e => by cases e; exact k)
def fX12_canBe (n : Nat) (M : xM) (v1 : Int) (v2 : Int) (v3 : Int) (v4 : Int) : Option (Bool) := match n with
  | 0 => none
  | n + 1 => xs0 (fX12_canBe_L3 (fX12_canBe n) xfuel M v1 v2 v3 v4 0) (some true) (fun r => some r)
set_option maxRecDepth 20000 in
set_option maxHeartbeats 1000000 in
theorem fX12_canBe_c {S : xS} {kp : Option Nat} (hS : xSk kp 96 S) : ∀ n : Nat, (∀ {M : xM} {v1 : Int} {v2 : Int} {v3 : Int} {v4 : Int} {E : Bool}, fX12_canBe n M v1 v2 v3 v4 = some E → V Y_X12_canBe (n + 2) 0 0 0 (xarg 0 [vR (some 94), vI v1, vI v2, vI v3, vI v4]) [] S M (xqR S M (some (vI (b2i E))))) := by
  intro n
  induction n with
  | zero => exact fun h => by cases h
  | succ n ih =>
    have ih0 := @ih
    have e9 : n + 1 + 2 = n + 2 + 1 := by omega
    rw [e9]
    intro M v1 v2 v3 v4 E h
    rw [fX12_canBe] at h
    show V Y_X12_canBe _ 0 0 0 [(0, vR (some 94)), (1, vI v1), (2, vI v2), (3, vI v3), (4, vI v4)] [] S M _
    refine V_iconst dX12_canBe_0 ?_
    refine V_istore (ls' := [(5, vI 0), (0, vR (some 94)), (1, vI v1), (2, vI v2), (3, vI v3), (4, vI v4)]) dX12_canBe_1 (by decide) rfl ?_
    refine xs0E h (fun  h10 h => ?_) (fun r h10 h => ?_)
    · refine V.pick [1, 2, 3, 4, 5, 0] rfl ?_
      refine fX12_canBe_L3_ci (hS.le (by decide)) (m := n + 2) (by omega) ih0 h10 ?_
      refine V_iconst dX12_canBe_167 ?_
      exact V_iretb (b := true) dX12_canBe_168 rfl (by decide) (q_pB h)
    · refine V.pick [1, 2, 3, 4, 5, 0] rfl ?_
      refine fX12_canBe_L3_cr (hS.le (by decide)) (m := n + 2) (by omega) ih0 h10 ?_
      exact q_pB h
def fX12_fewest_L12 (n : Nat) (M : xM) (v1 : Int) (v2 : Int) : Option (Int) := match n with
  | 0 => none
  | n + 1 => xb (fX12_canBe 40 M v1 0 0 v2) fun r2 => (if r2 = true then some v2 else fX12_fewest_L12 n M v1 (v2 + 1))
set_option maxRecDepth 20000 in
set_option maxHeartbeats 1000000 in
theorem fX12_fewest_L12_c {S : xS} {kp : Option Nat} (hS : xSk kp 96 S) {Q : Option xV → xS → xM → Prop} :
    ∀ (n : Nat) (M : xM) (v1 : Int) (v2 : Int) {x2 : Int}, fX12_fewest_L12 n M v1 v2 = some x2 → V Y_X12_fewest 43 0 0 29 [(0, vR (some 94)), (1, vI v1), (2, vI x2)] [] S M Q → V Y_X12_fewest 43 0 0 12 [(0, vR (some 94)), (1, vI v1), (2, vI v2)] [] S M Q := by
  intro n
  induction n with
  | zero =>
    intro M v1 v2 x2 h k
    cases h
  | succ n ih =>
    intro M v1 v2 x2 h k
    rw [fX12_fewest_L12] at h
    refine V_aload_n dX12_fewest_12 rfl (xm 0 rfl) ?_
    refine V_iload_n dX12_fewest_13 rfl (xm 1 rfl) ?_
    refine V_iconst dX12_fewest_14 ?_
    refine V_iconst dX12_fewest_15 ?_
    refine V_iload_n dX12_fewest_16 rfl (xm 2 rfl) ?_
    refine xbE h (fun r2 h1 h => ?_)
    refine T_callVI dX12_fewest_17 ok_X12_canBe (by exact ⟨by decide, rfl⟩) lk_X12_318.1 lk_X12_318.2 (sk_94 hS (by decide)) (hV := (((fX12_canBe_c (hS.le (by decide)) 40) h1).mono (by decide) (Nat.le_refl _) (Nat.le_refl _))) rfl (Nat.le_of_ble_eq_true rfl) rfl (Nat.le_of_ble_eq_true rfl) ?_
    refine V_if_neB (tgt := 29) dX12_fewest_20 (by decide) h (fun _ h => ?_) (fun _ h => ?_)
    · cases h
      refine V.pick [0, 1, 2] rfl ?_
      exact k
    · refine V_iinc (ls' := [(2, vI (v2 + 1)), (0, vR (some 94)), (1, vI v1)]) dX12_fewest_23 (xm 2 rfl) (by decide) rfl ?_
      refine V_goto (tgt := 12) dX12_fewest_26 (by decide) ?_
      refine V.pick [1, 2, 0] rfl ?_
      exact ih M v1 (v2 + 1) h k
theorem fX12_fewest_L12_ci {S : xS} {kp : Option Nat} (hS : xSk kp 96 S) {Q : Option xV → xS → xM → Prop} {n : Nat} {M : xM} {v1 : Int} {v2 : Int} {x2 : Int} (hl : fX12_fewest_L12 n M v1 v2 = some x2) (k : V Y_X12_fewest 43 0 0 29 [(0, vR (some 94)), (1, vI v1), (2, vI x2)] [] S M Q) : V Y_X12_fewest 43 0 0 12 [(0, vR (some 94)), (1, vI v1), (2, vI v2)] [] S M Q := fX12_fewest_L12_c hS _ _ _ _ hl k
def fX12_fewest_L45 (n : Nat) (M : xM) (v1 : Int) (v2 : Int) (v3 : Int) (v4 : Int) (v5 : Int) : Option (Int) := match n with
  | 0 => none
  | n + 1 => (if wr v5 < 0 then some v3 else (xb (fX12_count M v3) fun r6 => xb (fX12_canBe 40 M v1 v3 (xor_ v4 (xshl 1 v5)) (v2 - r6)) fun r8 => (if r8 = true then fX12_fewest_L45 n M v1 v2 v3 (xor_ v4 (xshl 1 v5)) (v5 + (-1)) else fX12_fewest_L45 n M v1 v2 (xor_ v3 (xshl 1 v5)) v4 (v5 + (-1)))))
set_option maxRecDepth 20000 in
set_option maxHeartbeats 1000000 in
theorem fX12_fewest_L45_c {S : xS} {kp : Option Nat} (hS : xSk kp 96 S) {Q : Option xV → xS → xM → Prop} :
    ∀ (n : Nat) (M : xM) (v1 : Int) (v2 : Int) (v3 : Int) (v4 : Int) (v5 : Int) {x3 : Int}, fX12_fewest_L45 n M v1 v2 v3 v4 v5 = some x3 → V Y_X12_fewest 43 0 0 97 [(3, vI x3)] [] S M Q → V Y_X12_fewest 43 0 0 45 [(0, vR (some 94)), (1, vI v1), (2, vI v2), (3, vI v3), (4, vI v4), (5, vI v5)] [] S M Q := by
  intro n
  induction n with
  | zero =>
    intro M v1 v2 v3 v4 v5 x3 h k
    cases h
  | succ n ih =>
    intro M v1 v2 v3 v4 v5 x3 h k
    rw [fX12_fewest_L45] at h
    refine V_iload dX12_fewest_45 (xm 5 rfl) ?_
    refine V_if_lt (tgt := 97) dX12_fewest_47 (by decide) h (fun _ h => ?_) (fun _ h => ?_)
    · cases h
      refine V.pick [3] rfl ?_
      exact k
    · refine V_aload_n dX12_fewest_50 rfl (xm 0 rfl) ?_
      refine V_iload_n dX12_fewest_51 rfl (xm 1 rfl) ?_
      refine V_iload_n dX12_fewest_52 rfl (xm 3 rfl) ?_
      refine V_iload dX12_fewest_53 (xm 4 rfl) ?_
      refine V_iconst dX12_fewest_55 ?_
      refine V_iload dX12_fewest_56 (xm 5 rfl) ?_
      refine V_ishl dX12_fewest_58 ?_
      refine V_ior dX12_fewest_59 ?_
      refine V_iload_n dX12_fewest_60 rfl (xm 2 rfl) ?_
      refine V_iload_n dX12_fewest_61 rfl (xm 3 rfl) ?_
      refine xbE h (fun r6 h5 h => ?_)
      refine T_callSI (host := "") dX12_fewest_62 ok_X12_count lk_X12_273.1 lk_X12_273.2 (hV := ((fX12_count_c (hS.le (by decide)) h5).mono (by decide) (Nat.le_refl _) (Nat.le_refl _))) rfl (Nat.le_of_ble_eq_true rfl) rfl (Nat.le_of_ble_eq_true rfl) ?_
      refine V_isub dX12_fewest_65 ?_
      refine xbE h (fun r8 h7 h => ?_)
      refine T_callVI dX12_fewest_66 ok_X12_canBe (by exact ⟨by decide, rfl⟩) lk_X12_318.1 lk_X12_318.2 (sk_94 hS (by decide)) (hV := (((fX12_canBe_c (hS.le (by decide)) 40) h7).mono (by decide) (Nat.le_refl _) (Nat.le_refl _))) rfl (Nat.le_of_ble_eq_true rfl) rfl (Nat.le_of_ble_eq_true rfl) ?_
      refine V_if_eqB (tgt := 84) dX12_fewest_69 (by decide) h (fun _ h => ?_) (fun _ h => ?_)
      · refine V_iload dX12_fewest_72 (xm 4 rfl) ?_
        refine V_iconst dX12_fewest_74 ?_
        refine V_iload dX12_fewest_75 (xm 5 rfl) ?_
        refine V_ishl dX12_fewest_77 ?_
        refine V_ior dX12_fewest_78 ?_
        refine V_istore (ls' := [(4, vI (xor_ v4 (xshl 1 v5))), (0, vR (some 94)), (1, vI v1), (2, vI v2), (3, vI v3), (5, vI v5)]) dX12_fewest_79 (by decide) rfl ?_
        refine V_goto (tgt := 91) dX12_fewest_81 (by decide) ?_
        refine V_iinc (ls' := [(5, vI (v5 + (-1))), (4, vI (xor_ v4 (xshl 1 v5))), (0, vR (some 94)), (1, vI v1), (2, vI v2), (3, vI v3)]) dX12_fewest_91 (xm 5 rfl) (by decide) rfl ?_
        refine V_goto (tgt := 45) dX12_fewest_94 (by decide) ?_
        refine V.pick [2, 3, 4, 5, 1, 0] rfl ?_
        exact ih M v1 v2 v3 (xor_ v4 (xshl 1 v5)) (v5 + (-1)) h k
      · refine V_iload_n dX12_fewest_84 rfl (xm 3 rfl) ?_
        refine V_iconst dX12_fewest_85 ?_
        refine V_iload dX12_fewest_86 (xm 5 rfl) ?_
        refine V_ishl dX12_fewest_88 ?_
        refine V_ior dX12_fewest_89 ?_
        refine V_istore_n (ls' := [(3, vI (xor_ v3 (xshl 1 v5))), (0, vR (some 94)), (1, vI v1), (2, vI v2), (4, vI v4), (5, vI v5)]) dX12_fewest_90 rfl (by decide) rfl ?_
        refine V_iinc (ls' := [(5, vI (v5 + (-1))), (3, vI (xor_ v3 (xshl 1 v5))), (0, vR (some 94)), (1, vI v1), (2, vI v2), (4, vI v4)]) dX12_fewest_91 (xm 5 rfl) (by decide) rfl ?_
        refine V_goto (tgt := 45) dX12_fewest_94 (by decide) ?_
        refine V.pick [2, 3, 4, 1, 5, 0] rfl ?_
        exact ih M v1 v2 (xor_ v3 (xshl 1 v5)) v4 (v5 + (-1)) h k
theorem fX12_fewest_L45_ci {S : xS} {kp : Option Nat} (hS : xSk kp 96 S) {Q : Option xV → xS → xM → Prop} {n : Nat} {M : xM} {v1 : Int} {v2 : Int} {v3 : Int} {v4 : Int} {v5 : Int} {x3 : Int} (hl : fX12_fewest_L45 n M v1 v2 v3 v4 v5 = some x3) (k : V Y_X12_fewest 43 0 0 97 [(3, vI x3)] [] S M Q) : V Y_X12_fewest 43 0 0 45 [(0, vR (some 94)), (1, vI v1), (2, vI v2), (3, vI v3), (4, vI v4), (5, vI v5)] [] S M Q := fX12_fewest_L45_c hS _ _ _ _ _ _ _ hl k
def fX12_fewest (M : xM) (v1 : Int) : Option Int := (if (fX12_isPlot M v1) = true then (xb (fX12_fewest_L12 xfuel M v1 0) fun y3 => xb (fX12_fewest_L45 xfuel M v1 y3 0 0 ((M 95 7) - 1)) fun y9 => some y9) else some ((-1)))
set_option maxRecDepth 20000 in
set_option maxHeartbeats 1000000 in
theorem fX12_fewest_c {S : xS} {kp : Option Nat} (hS : xSk kp 96 S) {M : xM} {v1 : Int} {E : Int} (h : fX12_fewest M v1 = some E) :
    V Y_X12_fewest 43 0 0 0 (xarg 0 [vR (some 94), vI v1]) [] S M (xqR S M (some (vI E))) := by
  unfold fX12_fewest at h
  show V Y_X12_fewest 43 0 0 0 [(0, vR (some 94)), (1, vI v1)] [] S M _
  refine V_aload_n dX12_fewest_0 rfl (xm 0 rfl) ?_
  refine V_iload_n dX12_fewest_1 rfl (xm 1 rfl) ?_
  refine T_callVI dX12_fewest_2 ok_X12_isPlot (by exact ⟨by decide, rfl⟩) lk_X12_226.1 lk_X12_226.2 (sk_94 hS (by decide)) (hV := ((fX12_isPlot_c (hS.le (by decide)) rfl).mono (by decide) (Nat.le_refl _) (Nat.le_refl _))) rfl (Nat.le_of_ble_eq_true rfl) rfl (Nat.le_of_ble_eq_true rfl) ?_
  refine V_if_neB (tgt := 10) dX12_fewest_5 (by decide) h (fun _ h => ?_) (fun _ h => ?_)
  · refine V_iconst dX12_fewest_10 ?_
    refine V_istore_n (ls' := [(2, vI 0), (0, vR (some 94)), (1, vI v1)]) dX12_fewest_11 rfl (by decide) rfl ?_
    refine xbE h (fun y3 h4 h => ?_)
    refine V.pick [1, 2, 0] rfl ?_
    refine fX12_fewest_L12_ci (hS.le (by decide)) h4 ?_
    refine V_iconst dX12_fewest_29 ?_
    refine V_istore_n (ls' := [(3, vI 0), (0, vR (some 94)), (1, vI v1), (2, vI y3)]) dX12_fewest_30 rfl (by decide) rfl ?_
    refine V_iconst dX12_fewest_31 ?_
    refine V_istore (ls' := [(4, vI 0), (3, vI 0), (0, vR (some 94)), (1, vI v1), (2, vI y3)]) dX12_fewest_32 (by decide) rfl ?_
    refine V_aload_n dX12_fewest_34 rfl (xm 2 rfl) ?_
    refine V_getR dX12_fewest_35 fl_X12_7 (sk_94 hS (by decide)) rfl ?_
    refine V_bipush dX12_fewest_38 (by decide) ?_
    refine V_ialdK (j := 7) dX12_fewest_40 (sk_95 hS (by decide)) (by decide) (by decide) ?_
    refine V_iconst dX12_fewest_41 ?_
    refine V_isub dX12_fewest_42 ?_
    refine V_istore (ls' := [(5, vI ((M 95 7) - 1)), (4, vI 0), (3, vI 0), (0, vR (some 94)), (1, vI v1), (2, vI y3)]) dX12_fewest_43 (by decide) rfl ?_
    refine xbE h (fun y9 h10 h => ?_)
    refine V.pick [3, 4, 5, 2, 1, 0] rfl ?_
    refine fX12_fewest_L45_ci (hS.le (by decide)) h10 ?_
    refine V_iload_n dX12_fewest_97 rfl (xm 0 rfl) ?_
    exact V_ireti dX12_fewest_98 rfl (q_pI h)
  · refine V_iconst dX12_fewest_8 ?_
    exact V_ireti dX12_fewest_9 rfl (q_pI h)
def fX12_plan (M : xM) (v1 : Int) (v2 : Int) : Option (Bool × xM) := (if (fX12_isIn v1 0 59) = true then (if (fX12_isIn v2 ((-1)) 1) = true then (xwt M 95 5820 (70 + v1) v2 fun M1 => some (true, M1)) else some (false, M)) else some (false, M))
set_option maxRecDepth 20000 in
set_option maxHeartbeats 1000000 in
theorem fX12_plan_c {S : xS} {kp : Option Nat} (hS : xSk kp 96 S) {M : xM} {v1 : Int} {v2 : Int} {E : Bool × xM} (h : fX12_plan M v1 v2 = some E) :
    V Y_X12_plan 1 0 0 0 (xarg 0 [vR (some 94), vI v1, vI v2]) [] S M (xqR S E.2 (some (vI (b2i E.1)))) := by
  unfold fX12_plan at h
  show V Y_X12_plan 1 0 0 0 [(0, vR (some 94)), (1, vI v1), (2, vI v2)] [] S M _
  refine V_iload_n dX12_plan_0 rfl (xm 1 rfl) ?_
  refine V_iconst dX12_plan_1 ?_
  refine V_bipush dX12_plan_2 (by decide) ?_
  refine T_callSI (host := "") dX12_plan_4 ok_X12_isIn lk_X12_70.1 lk_X12_70.2 (hV := ((fX12_isIn_c (hS.le (by decide)) rfl).mono (by decide) (Nat.le_refl _) (Nat.le_refl _))) rfl (Nat.le_of_ble_eq_true rfl) rfl (Nat.le_of_ble_eq_true rfl) ?_
  refine V_if_eqB (tgt := 19) dX12_plan_7 (by decide) h (fun _ h => ?_) (fun _ h => ?_)
  · refine V_iload_n dX12_plan_10 rfl (xm 2 rfl) ?_
    refine V_iconst dX12_plan_11 ?_
    refine V_iconst dX12_plan_12 ?_
    refine T_callSI (host := "") dX12_plan_13 ok_X12_isIn lk_X12_70.1 lk_X12_70.2 (hV := ((fX12_isIn_c (hS.le (by decide)) rfl).mono (by decide) (Nat.le_refl _) (Nat.le_refl _))) rfl (Nat.le_of_ble_eq_true rfl) rfl (Nat.le_of_ble_eq_true rfl) ?_
    refine V_if_neB (tgt := 21) dX12_plan_16 (by decide) h (fun _ h => ?_) (fun _ h => ?_)
    · refine V_aload_n dX12_plan_21 rfl (xm 0 rfl) ?_
      refine V_getR dX12_plan_22 fl_X12_7 (sk_94 hS (by decide)) rfl ?_
      refine V_bipush dX12_plan_25 (by decide) ?_
      refine V_iload_n dX12_plan_27 rfl (xm 1 rfl) ?_
      refine V_iadd dX12_plan_28 ?_
      refine V_iload_n dX12_plan_29 rfl (xm 2 rfl) ?_
      refine T_iast dX12_plan_30 (sk_95 hS (by decide)) rfl h (fun M1 h => ?_)
      refine V_iconst dX12_plan_31 ?_
      exact V_iretb (b := true) dX12_plan_32 rfl (by decide) (q_wB h)
    · refine V_iconst dX12_plan_19 ?_
      exact V_iretb (b := false) dX12_plan_20 rfl (by decide) (q_wB h)
  · refine V_iconst dX12_plan_19 ?_
    exact V_iretb (b := false) dX12_plan_20 rfl (by decide) (q_wB h)
def fX12_boat_L39 (n : Nat) (M : xM) (v1 : Int) (v2 : Int) (v3 : Int) (v4 : Int) (v5 : Int) : Option ((Unit) ⊕ (Int)) := match n with
  | 0 => none
  | n + 1 => (if wr v5 < wr 60 then (xrd M 95 5820 (70 + v5) fun r1 => (if wr v5 < wr v2 then fX12_boat_L39 n M v1 v2 v3 (v4 + r1) (v5 + 1) else (xb (fX12_of0 M v1 0) fun r3 => xb (fX12_modulo M (r3 + (v4 + r1))) fun r5 => (if wr r5 = wr v3 then some (.inr (v5 - v2)) else fX12_boat_L39 n M v1 v2 v3 (v4 + r1) (v5 + 1))))) else some (.inl ()))
set_option maxRecDepth 20000 in
set_option maxHeartbeats 1000000 in
theorem fX12_boat_L39_c {S : xS} {kp : Option Nat} (hS : xSk kp 96 S) {Q : Option xV → xS → xM → Prop} :
    ∀ (n : Nat) (M : xM) (v1 : Int) (v2 : Int) (v3 : Int) (v4 : Int) (v5 : Int) {E : (Unit) ⊕ (Int)}, fX12_boat_L39 n M v1 v2 v3 v4 v5 = some E → (E = .inl () → V Y_X12_boat 2 0 0 95 [] [] S M Q) → (∀ (w : Int), E = .inr w → Q (some (vI w)) S M) → V Y_X12_boat 2 0 0 39 [(0, vR (some 94)), (1, vI v1), (2, vI v2), (3, vI v3), (4, vI v4), (5, vI v5)] [] S M Q := by
  intro n
  induction n with
  | zero =>
    intro M v1 v2 v3 v4 v5 E h k kr
    cases h
  | succ n ih =>
    intro M v1 v2 v3 v4 v5 E h k kr
    rw [fX12_boat_L39] at h
    refine V_iload dX12_boat_39 (xm 5 rfl) ?_
    refine V_bipush dX12_boat_41 (by decide) ?_
    refine V_icmp_ge (tgt := 95) dX12_boat_43 (by decide) h (fun _ h => ?_) (fun _ h => ?_)
    · refine V_iload dX12_boat_46 (xm 4 rfl) ?_
      refine V_aload_n dX12_boat_48 rfl (xm 0 rfl) ?_
      refine V_getR dX12_boat_49 fl_X12_7 (sk_94 hS (by decide)) rfl ?_
      refine V_bipush dX12_boat_52 (by decide) ?_
      refine V_iload dX12_boat_54 (xm 5 rfl) ?_
      refine V_iadd dX12_boat_56 ?_
      refine T_iald dX12_boat_57 (sk_95 hS (by decide)) rfl h (fun r1 h => ?_)
      refine V_iadd dX12_boat_58 ?_
      refine V_istore (ls' := [(4, vI (v4 + r1)), (0, vR (some 94)), (1, vI v1), (2, vI v2), (3, vI v3), (5, vI v5)]) dX12_boat_59 (by decide) rfl ?_
      refine V_iload dX12_boat_61 (xm 5 rfl) ?_
      refine V_iload_n dX12_boat_63 rfl (xm 3 rfl) ?_
      refine V_icmp_lt (tgt := 89) dX12_boat_64 (by decide) h (fun _ h => ?_) (fun _ h => ?_)
      · refine V_iinc (ls' := [(5, vI (v5 + 1)), (4, vI (v4 + r1)), (0, vR (some 94)), (1, vI v1), (2, vI v2), (3, vI v3)]) dX12_boat_89 (xm 5 rfl) (by decide) rfl ?_
        refine V_goto (tgt := 39) dX12_boat_92 (by decide) ?_
        refine V.pick [2, 3, 4, 5, 1, 0] rfl ?_
        exact ih M v1 v2 v3 (v4 + r1) (v5 + 1) h k kr
      · refine V_aload_n dX12_boat_67 rfl (xm 1 rfl) ?_
        refine V_aload_n dX12_boat_68 rfl (xm 1 rfl) ?_
        refine V_iload_n dX12_boat_69 rfl (xm 2 rfl) ?_
        refine V_iconst dX12_boat_70 ?_
        refine xbE h (fun r3 h2 h => ?_)
        refine T_callVI dX12_boat_71 ok_X12_of0 (by exact ⟨by decide, rfl⟩) lk_X12_212.1 lk_X12_212.2 (sk_94 hS (by decide)) (hV := ((fX12_of0_c (hS.le (by decide)) h2).mono (by decide) (Nat.le_refl _) (Nat.le_refl _))) rfl (Nat.le_of_ble_eq_true rfl) rfl (Nat.le_of_ble_eq_true rfl) ?_
        refine V_iload dX12_boat_74 (xm 0 rfl) ?_
        refine V_iadd dX12_boat_76 ?_
        refine xbE h (fun r5 h4 h => ?_)
        refine T_callVI dX12_boat_77 ok_X12_modulo (by exact ⟨by decide, rfl⟩) lk_X12_216.1 lk_X12_216.2 (sk_94 hS (by decide)) (hV := ((fX12_modulo_c (hS.le (by decide)) h4).mono (by decide) (Nat.le_refl _) (Nat.le_refl _))) rfl (Nat.le_of_ble_eq_true rfl) rfl (Nat.le_of_ble_eq_true rfl) ?_
        refine V_iload_n dX12_boat_80 rfl (xm 4 rfl) ?_
        refine V_icmp_ne (tgt := 89) dX12_boat_81 (by decide) h (fun _ h => ?_) (fun _ h => ?_)
        · refine V_iload dX12_boat_84 (xm 5 rfl) ?_
          refine V_iload_n dX12_boat_86 rfl (xm 3 rfl) ?_
          refine V_isub dX12_boat_87 ?_
          exact V_ireti dX12_boat_88 rfl (kr (v5 - v2) (Option.some.inj h).symm)
        · refine V_iinc (ls' := [(5, vI (v5 + 1)), (4, vI (v4 + r1)), (0, vR (some 94)), (1, vI v1), (2, vI v2), (3, vI v3)]) dX12_boat_89 (xm 5 rfl) (by decide) rfl ?_
          refine V_goto (tgt := 39) dX12_boat_92 (by decide) ?_
          refine V.pick [2, 3, 4, 5, 1, 0] rfl ?_
          exact ih M v1 v2 v3 (v4 + r1) (v5 + 1) h k kr
    · refine V.pick [] rfl ?_
      exact k  (Option.some.inj h).symm
theorem fX12_boat_L39_ci {S : xS} {kp : Option Nat} (hS : xSk kp 96 S) {Q : Option xV → xS → xM → Prop} {n : Nat} {M : xM} {v1 : Int} {v2 : Int} {v3 : Int} {v4 : Int} {v5 : Int} (hl : fX12_boat_L39 n M v1 v2 v3 v4 v5 = some (.inl ())) (k : V Y_X12_boat 2 0 0 95 [] [] S M Q) : V Y_X12_boat 2 0 0 39 [(0, vR (some 94)), (1, vI v1), (2, vI v2), (3, vI v3), (4, vI v4), (5, vI v5)] [] S M Q := fX12_boat_L39_c hS _ _ _ _ _ _ _ hl (fun  e => by cases e; exact k) (fun _ e => by cases e)
theorem fX12_boat_L39_cr {S : xS} {kp : Option Nat} (hS : xSk kp 96 S) {Q : Option xV → xS → xM → Prop} {n : Nat} {M : xM} {v1 : Int} {v2 : Int} {v3 : Int} {v4 : Int} {v5 : Int} {w : Int} (hl : fX12_boat_L39 n M v1 v2 v3 v4 v5 = some (.inr w)) (k : Q (some (vI w)) S M) : V Y_X12_boat 2 0 0 39 [(0, vR (some 94)), (1, vI v1), (2, vI v2), (3, vI v3), (4, vI v4), (5, vI v5)] [] S M Q := fX12_boat_L39_c hS _ _ _ _ _ _ _ hl (fun  e => by cases e) (fun _ e => by cases e; exact k)
