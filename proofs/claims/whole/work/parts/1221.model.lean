def fX3_reckon_L49 (n : Nat) (M : xM) (v1 : Int) (v2 : Int) (v3 : Int) : Option (xM) := match n with
  | 0 => none
  | n + 1 => (if wr v2 < wr v3 then some M else (xb (fX3_withTurn M v2 v3 0) fun r5 => xb (fX3_withTurn M v2 v3 1) fun r7 => xb (fX3_withTurn M v2 v3 ((-1))) fun r9 => xj (fun (s10 : Int) => xwt M 63 1891 (fX3_aheadOf M v2 v3) s10 fun M12 => fX3_reckon_L49 n M12 v1 v2 (v3 + 1)) fun j11 => (if wr v1 = 0 then j11 (xmin r5 (xmin r7 r9)) else j11 (xmax r5 (xmax r7 r9)))))
set_option maxRecDepth 20000 in
set_option maxHeartbeats 1000000 in
theorem fX3_reckon_L49_c {S : xS} {kp : Option Nat} (hS : xSk kp 64 S) {Q : Option xV → xS → xM → Prop} :
    ∀ (n : Nat) (M : xM) (v1 : Int) (v2 : Int) (v3 : Int) {Mz : xM}, fX3_reckon_L49 n M v1 v2 v3 = some Mz → V Y_X3_reckon 2 0 0 129 [(0, vR (some 50)), (1, vI v1), (2, vI v2)] [] S Mz Q → V Y_X3_reckon 2 0 0 49 [(0, vR (some 50)), (1, vI v1), (2, vI v2), (3, vI v3)] [] S M Q := by
  intro n
  induction n with
  | zero =>
    intro M v1 v2 v3 Mz h k
    cases h
  | succ n ih =>
    intro M v1 v2 v3 Mz h k
    rw [fX3_reckon_L49] at h
    refine V_iload_n dX3_reckon_49 rfl (xm 3 rfl) ?_
    refine V_iload_n dX3_reckon_50 rfl (xm 2 rfl) ?_
    refine V_icmp_gt (tgt := 129) dX3_reckon_51 (by decide) h (fun _ h => ?_) (fun _ h => ?_)
    · cases h
      refine V.pick [0, 1, 2] rfl ?_
      exact k
    · refine V_aload_n dX3_reckon_54 rfl (xm 0 rfl) ?_
      refine V_iload_n dX3_reckon_55 rfl (xm 2 rfl) ?_
      refine V_iload_n dX3_reckon_56 rfl (xm 3 rfl) ?_
      refine V_iconst dX3_reckon_57 ?_
      refine xbE h (fun r5 h4 h => ?_)
      refine T_callVI dX3_reckon_58 ok_X3_withTurn (by exact ⟨by decide, rfl⟩) lk_X3_84.1 lk_X3_84.2 (sk_50 hS (by decide)) (hV := ((fX3_withTurn_c (hS.le (by decide)) h4).mono (by decide) (Nat.le_refl _) (Nat.le_refl _))) rfl (Nat.le_of_ble_eq_true rfl) rfl (Nat.le_of_ble_eq_true rfl) ?_
      refine V_istore (ls' := [(4, vI r5), (0, vR (some 50)), (1, vI v1), (2, vI v2), (3, vI v3)]) dX3_reckon_61 (by decide) rfl ?_
      refine V_aload_n dX3_reckon_63 rfl (xm 1 rfl) ?_
      refine V_iload_n dX3_reckon_64 rfl (xm 3 rfl) ?_
      refine V_iload_n dX3_reckon_65 rfl (xm 4 rfl) ?_
      refine V_iconst dX3_reckon_66 ?_
      refine xbE h (fun r7 h6 h => ?_)
      refine T_callVI dX3_reckon_67 ok_X3_withTurn (by exact ⟨by decide, rfl⟩) lk_X3_84.1 lk_X3_84.2 (sk_50 hS (by decide)) (hV := ((fX3_withTurn_c (hS.le (by decide)) h6).mono (by decide) (Nat.le_refl _) (Nat.le_refl _))) rfl (Nat.le_of_ble_eq_true rfl) rfl (Nat.le_of_ble_eq_true rfl) ?_
      refine V_istore (ls' := [(5, vI r7), (4, vI r5), (0, vR (some 50)), (1, vI v1), (2, vI v2), (3, vI v3)]) dX3_reckon_70 (by decide) rfl ?_
      refine V_aload_n dX3_reckon_72 rfl (xm 2 rfl) ?_
      refine V_iload_n dX3_reckon_73 rfl (xm 4 rfl) ?_
      refine V_iload_n dX3_reckon_74 rfl (xm 5 rfl) ?_
      refine V_iconst dX3_reckon_75 ?_
      refine xbE h (fun r9 h8 h => ?_)
      refine T_callVI dX3_reckon_76 ok_X3_withTurn (by exact ⟨by decide, rfl⟩) lk_X3_84.1 lk_X3_84.2 (sk_50 hS (by decide)) (hV := ((fX3_withTurn_c (hS.le (by decide)) h8).mono (by decide) (Nat.le_refl _) (Nat.le_refl _))) rfl (Nat.le_of_ble_eq_true rfl) rfl (Nat.le_of_ble_eq_true rfl) ?_
      refine V_istore (ls' := [(6, vI r9), (5, vI r7), (4, vI r5), (0, vR (some 50)), (1, vI v1), (2, vI v2), (3, vI v3)]) dX3_reckon_79 (by decide) rfl ?_
      refine V_aload_n dX3_reckon_81 rfl (xm 3 rfl) ?_
      refine V_getR dX3_reckon_82 fl_X3_20 (sk_50 hS (by decide)) rfl ?_
      refine V_aload_n dX3_reckon_85 rfl (xm 3 rfl) ?_
      refine V_iload_n dX3_reckon_86 rfl (xm 5 rfl) ?_
      refine V_iload_n dX3_reckon_87 rfl (xm 6 rfl) ?_
      refine T_callVI dX3_reckon_88 ok_X3_aheadOf (by exact ⟨by decide, rfl⟩) lk_X3_81.1 lk_X3_81.2 (sk_50 hS (by decide)) (hV := ((fX3_aheadOf_c (hS.le (by decide)) rfl).mono (by decide) (Nat.le_refl _) (Nat.le_refl _))) rfl (Nat.le_of_ble_eq_true rfl) rfl (Nat.le_of_ble_eq_true rfl) ?_
      refine V_iload_n dX3_reckon_91 rfl (xm 4 rfl) ?_
      refine xjE h (fun j11 hj11 h => ?_)
      have kj11 : ∀ (s10 : Int), j11 s10 = some Mz → V Y_X3_reckon 2 0 0 122 [(0, vR (some 50)), (1, vI v1), (2, vI v2), (3, vI v3)] [vI s10, vI (fX3_aheadOf M v2 v3), vR (some 63)] S M Q := by
        intro s10 h
        rw [hj11] at h
        refine T_iast dX3_reckon_122 (sk_63 hS (by decide)) rfl h (fun M12 h => ?_)
        refine V_iinc (ls' := [(3, vI (v3 + 1)), (0, vR (some 50)), (1, vI v1), (2, vI v2)]) dX3_reckon_123 (xm 3 rfl) (by decide) rfl ?_
        refine V_goto (tgt := 49) dX3_reckon_126 (by decide) ?_
        refine V.pick [1, 2, 3, 0] rfl ?_
        exact ih M12 v1 v2 (v3 + 1) h k
      refine V_if_eq (tgt := 110) dX3_reckon_92 (by decide) h (fun _ h => ?_) (fun _ h => ?_)
      · refine V_iload dX3_reckon_110 (xm 2 rfl) ?_
        refine V_iload dX3_reckon_112 (xm 1 rfl) ?_
        refine V_iload dX3_reckon_114 (xm 0 rfl) ?_
        refine V_mmin dX3_reckon_116 mt_X3_92 (by decide) (Nat.le_of_ble_eq_true rfl) ?_
        refine V_mmin dX3_reckon_119 mt_X3_92 (by decide) (Nat.le_of_ble_eq_true rfl) ?_
        refine V.pick [3, 4, 5, 6] rfl ?_
        exact kj11 (xmin r5 (xmin r7 r9)) h
      · refine V_iload dX3_reckon_95 (xm 2 rfl) ?_
        refine V_iload dX3_reckon_97 (xm 1 rfl) ?_
        refine V_iload dX3_reckon_99 (xm 0 rfl) ?_
        refine V_mmax dX3_reckon_101 mt_X3_87 (by decide) (Nat.le_of_ble_eq_true rfl) ?_
        refine V_mmax dX3_reckon_104 mt_X3_87 (by decide) (Nat.le_of_ble_eq_true rfl) ?_
        refine V_goto (tgt := 122) dX3_reckon_107 (by decide) ?_
        refine V.pick [3, 4, 5, 6] rfl ?_
        exact kj11 (xmax r5 (xmax r7 r9)) h
theorem fX3_reckon_L49_ci {S : xS} {kp : Option Nat} (hS : xSk kp 64 S) {Q : Option xV → xS → xM → Prop} {n : Nat} {M : xM} {v1 : Int} {v2 : Int} {v3 : Int} {Mz : xM} (hl : fX3_reckon_L49 n M v1 v2 v3 = some Mz) (k : V Y_X3_reckon 2 0 0 129 [(0, vR (some 50)), (1, vI v1), (2, vI v2)] [] S Mz Q) : V Y_X3_reckon 2 0 0 49 [(0, vR (some 50)), (1, vI v1), (2, vI v2), (3, vI v3)] [] S M Q := fX3_reckon_L49_c hS _ _ _ _ _ hl k
def fX3_reckon_L42 (n : Nat) (M : xM) (v1 : Int) (v2 : Int) : Option (xM) := match n with
  | 0 => none
  | n + 1 => (if wr v2 < 0 then some M else (xb (fX3_reckon_L49 xfuel M v1 v2 (-v2)) fun M13 => fX3_reckon_L42 n M13 v1 (v2 + (-1))))
set_option maxRecDepth 20000 in
set_option maxHeartbeats 1000000 in
theorem fX3_reckon_L42_c {S : xS} {kp : Option Nat} (hS : xSk kp 64 S) {Q : Option xV → xS → xM → Prop} :
    ∀ (n : Nat) (M : xM) (v1 : Int) (v2 : Int) {Mz : xM}, fX3_reckon_L42 n M v1 v2 = some Mz → V Y_X3_reckon 2 0 0 135 [(0, vR (some 50))] [] S Mz Q → V Y_X3_reckon 2 0 0 42 [(0, vR (some 50)), (1, vI v1), (2, vI v2)] [] S M Q := by
  intro n
  induction n with
  | zero =>
    intro M v1 v2 Mz h k
    cases h
  | succ n ih =>
    intro M v1 v2 Mz h k
    rw [fX3_reckon_L42] at h
    refine V_iload_n dX3_reckon_42 rfl (xm 2 rfl) ?_
    refine V_if_lt (tgt := 135) dX3_reckon_43 (by decide) h (fun _ h => ?_) (fun _ h => ?_)
    · cases h
      refine V.pick [0] rfl ?_
      exact k
    · refine V_iload_n dX3_reckon_46 rfl (xm 2 rfl) ?_
      refine V_ineg dX3_reckon_47 ?_
      refine V_istore_n (ls' := [(3, vI (-v2)), (0, vR (some 50)), (1, vI v1), (2, vI v2)]) dX3_reckon_48 rfl (by decide) rfl ?_
      refine xbE h (fun M13 h14 h => ?_)
      refine V.pick [1, 2, 3, 0] rfl ?_
      refine fX3_reckon_L49_ci (hS.le (by decide)) h14 ?_
      refine V_iinc (ls' := [(2, vI (v2 + (-1))), (0, vR (some 50)), (1, vI v1)]) dX3_reckon_129 (xm 2 rfl) (by decide) rfl ?_
      refine V_goto (tgt := 42) dX3_reckon_132 (by decide) ?_
      refine V.pick [1, 2, 0] rfl ?_
      exact ih M13 v1 (v2 + (-1)) h k
theorem fX3_reckon_L42_ci {S : xS} {kp : Option Nat} (hS : xSk kp 64 S) {Q : Option xV → xS → xM → Prop} {n : Nat} {M : xM} {v1 : Int} {v2 : Int} {Mz : xM} (hl : fX3_reckon_L42 n M v1 v2 = some Mz) (k : V Y_X3_reckon 2 0 0 135 [(0, vR (some 50))] [] S Mz Q) : V Y_X3_reckon 2 0 0 42 [(0, vR (some 50)), (1, vI v1), (2, vI v2)] [] S M Q := fX3_reckon_L42_c hS _ _ _ _ hl k
def fX3_reckon (M : xM) (v1 : Int) : Option (Int × xM) := xb (fX3_reckon_L6 xfuel M v1 (-(M 50 1))) fun M2 => xb (fX3_reckon_L42 xfuel M2 v1 ((M2 50 1) - 1)) fun M15 => xrd M15 63 1891 (fX3_aheadOf M15 0 0) fun r17 => some (r17, M15)
set_option maxRecDepth 20000 in
set_option maxHeartbeats 1000000 in
theorem fX3_reckon_c {S : xS} {kp : Option Nat} (hS : xSk kp 64 S) {M : xM} {v1 : Int} {E : Int × xM} (h : fX3_reckon M v1 = some E) :
    V Y_X3_reckon 2 0 0 0 (xarg 0 [vR (some 50), vI v1]) [] S M (xqR S E.2 (some (vI E.1))) := by
  unfold fX3_reckon at h
  show V Y_X3_reckon 2 0 0 0 [(0, vR (some 50)), (1, vI v1)] [] S M _
  refine V_aload_n dX3_reckon_0 rfl (xm 0 rfl) ?_
  refine V_getI (kI := 1) dX3_reckon_1 fl_X3_39 (sk_50 hS (by decide)) rfl rfl ?_
  refine V_ineg dX3_reckon_4 ?_
  refine V_istore_n (ls' := [(2, vI (-(M 50 1))), (0, vR (some 50)), (1, vI v1)]) dX3_reckon_5 rfl (by decide) rfl ?_
  refine xbE h (fun M2 h3 h => ?_)
  refine V.pick [1, 2, 0] rfl ?_
  refine fX3_reckon_L6_ci (hS.le (by decide)) h3 ?_
  refine V_aload_n dX3_reckon_35 rfl (xm 0 rfl) ?_
  refine V_getI (kI := 1) dX3_reckon_36 fl_X3_39 (sk_50 hS (by decide)) rfl rfl ?_
  refine V_iconst dX3_reckon_39 ?_
  refine V_isub dX3_reckon_40 ?_
  refine V_istore_n (ls' := [(2, vI ((M2 50 1) - 1)), (0, vR (some 50)), (1, vI v1)]) dX3_reckon_41 rfl (by decide) rfl ?_
  refine xbE h (fun M15 h16 h => ?_)
  refine V.pick [1, 2, 0] rfl ?_
  refine fX3_reckon_L42_ci (hS.le (by decide)) h16 ?_
  refine V_aload_n dX3_reckon_135 rfl (xm 0 rfl) ?_
  refine V_getR dX3_reckon_136 fl_X3_20 (sk_50 hS (by decide)) rfl ?_
  refine V_aload_n dX3_reckon_139 rfl (xm 0 rfl) ?_
  refine V_iconst dX3_reckon_140 ?_
  refine V_iconst dX3_reckon_141 ?_
  refine T_callVI dX3_reckon_142 ok_X3_aheadOf (by exact ⟨by decide, rfl⟩) lk_X3_81.1 lk_X3_81.2 (sk_50 hS (by decide)) (hV := ((fX3_aheadOf_c (hS.le (by decide)) rfl).mono (by decide) (Nat.le_refl _) (Nat.le_refl _))) rfl (Nat.le_of_ble_eq_true rfl) rfl (Nat.le_of_ble_eq_true rfl) ?_
  refine T_iald dX3_reckon_145 (sk_63 hS (by decide)) rfl h (fun r17 h => ?_)
  exact V_ireti dX3_reckon_146 rfl (q_wI h)
def fX3_firstTurn_L2 (n : Nat) (M : xM) (v1 : Int) (v2 : Int) (v3 : Int) : Option ((Unit) ⊕ (Int)) := match n with
  | 0 => none
  | n + 1 => (if wr v3 < wr 3 then (xtb [0, 1, -1] 3 v3 fun r1 => xb (fX3_withTurn M v1 v2 r1) fun r3 => xrd M 63 1891 (fX3_aheadOf M v1 v2) fun r4 => (if wr r3 = wr r4 then (xtb [0, 1, -1] 3 v3 fun r5 => some (.inr r5)) else fX3_firstTurn_L2 n M v1 v2 (v3 + 1))) else some (.inl ()))
set_option maxRecDepth 20000 in
set_option maxHeartbeats 1000000 in
theorem fX3_firstTurn_L2_c {S : xS} {kp : Option Nat} (hS : xSk kp 64 S) {Q : Option xV → xS → xM → Prop} :
    ∀ (n : Nat) (M : xM) (v1 : Int) (v2 : Int) (v3 : Int) {E : (Unit) ⊕ (Int)}, fX3_firstTurn_L2 n M v1 v2 v3 = some E → (E = .inl () → V Y_X3_firstTurn 2 0 0 47 [] [] S M Q) → (∀ (w : Int), E = .inr w → Q (some (vI w)) S M) → V Y_X3_firstTurn 2 0 0 2 [(0, vR (some 50)), (1, vI v1), (2, vI v2), (3, vI v3)] [] S M Q := by
  intro n
  induction n with
  | zero =>
    intro M v1 v2 v3 E h k kr
    cases h
  | succ n ih =>
    intro M v1 v2 v3 E h k kr
    rw [fX3_firstTurn_L2] at h
    refine V_iload_n dX3_firstTurn_2 rfl (xm 3 rfl) ?_
    refine V_getsN (host := "TurnedIsland") dX3_firstTurn_3 (by decide +kernel : ("TurnedIsland", "ORDER", "[I", 1) ∈ xZR) (by decide +kernel) ?_
    refine V_tlen (tb := [0, 1, -1]) dX3_firstTurn_6 (by decide +kernel) rfl ?_
    refine V_icmp_ge (tgt := 47) dX3_firstTurn_7 (by decide) h (fun _ h => ?_) (fun _ h => ?_)
    · refine V_aload_n dX3_firstTurn_10 rfl (xm 0 rfl) ?_
      refine V_iload_n dX3_firstTurn_11 rfl (xm 1 rfl) ?_
      refine V_iload_n dX3_firstTurn_12 rfl (xm 2 rfl) ?_
      refine V_getsN (host := "TurnedIsland") dX3_firstTurn_13 (by decide +kernel : ("TurnedIsland", "ORDER", "[I", 1) ∈ xZR) (by decide +kernel) ?_
      refine V_iload_n dX3_firstTurn_16 rfl (xm 3 rfl) ?_
      refine T_tald (tb := [0, 1, -1]) dX3_firstTurn_17 (by decide +kernel) rfl h (fun r1 h => ?_)
      refine xbE h (fun r3 h2 h => ?_)
      refine T_callVI dX3_firstTurn_18 ok_X3_withTurn (by exact ⟨by decide, rfl⟩) lk_X3_84.1 lk_X3_84.2 (sk_50 hS (by decide)) (hV := ((fX3_withTurn_c (hS.le (by decide)) h2).mono (by decide) (Nat.le_refl _) (Nat.le_refl _))) rfl (Nat.le_of_ble_eq_true rfl) rfl (Nat.le_of_ble_eq_true rfl) ?_
      refine V_aload_n dX3_firstTurn_21 rfl (xm 0 rfl) ?_
      refine V_getR dX3_firstTurn_22 fl_X3_20 (sk_50 hS (by decide)) rfl ?_
      refine V_aload_n dX3_firstTurn_25 rfl (xm 0 rfl) ?_
      refine V_iload_n dX3_firstTurn_26 rfl (xm 1 rfl) ?_
      refine V_iload_n dX3_firstTurn_27 rfl (xm 2 rfl) ?_
      refine T_callVI dX3_firstTurn_28 ok_X3_aheadOf (by exact ⟨by decide, rfl⟩) lk_X3_81.1 lk_X3_81.2 (sk_50 hS (by decide)) (hV := ((fX3_aheadOf_c (hS.le (by decide)) rfl).mono (by decide) (Nat.le_refl _) (Nat.le_refl _))) rfl (Nat.le_of_ble_eq_true rfl) rfl (Nat.le_of_ble_eq_true rfl) ?_
      refine T_iald dX3_firstTurn_31 (sk_63 hS (by decide)) rfl h (fun r4 h => ?_)
      refine V_icmp_ne (tgt := 41) dX3_firstTurn_32 (by decide) h (fun _ h => ?_) (fun _ h => ?_)
      · refine V_getsN (host := "TurnedIsland") dX3_firstTurn_35 (by decide +kernel : ("TurnedIsland", "ORDER", "[I", 1) ∈ xZR) (by decide +kernel) ?_
        refine V_iload_n dX3_firstTurn_38 rfl (xm 3 rfl) ?_
        refine T_tald (tb := [0, 1, -1]) dX3_firstTurn_39 (by decide +kernel) rfl h (fun r5 h => ?_)
        exact V_ireti dX3_firstTurn_40 rfl (kr r5 (Option.some.inj h).symm)
      · refine V_iinc (ls' := [(3, vI (v3 + 1)), (0, vR (some 50)), (1, vI v1), (2, vI v2)]) dX3_firstTurn_41 (xm 3 rfl) (by decide) rfl ?_
        refine V_goto (tgt := 2) dX3_firstTurn_44 (by decide) ?_
        refine V.pick [1, 2, 3, 0] rfl ?_
        exact ih M v1 v2 (v3 + 1) h k kr
    · refine V.pick [] rfl ?_
      exact k  (Option.some.inj h).symm
theorem fX3_firstTurn_L2_ci {S : xS} {kp : Option Nat} (hS : xSk kp 64 S) {Q : Option xV → xS → xM → Prop} {n : Nat} {M : xM} {v1 : Int} {v2 : Int} {v3 : Int} (hl : fX3_firstTurn_L2 n M v1 v2 v3 = some (.inl ())) (k : V Y_X3_firstTurn 2 0 0 47 [] [] S M Q) : V Y_X3_firstTurn 2 0 0 2 [(0, vR (some 50)), (1, vI v1), (2, vI v2), (3, vI v3)] [] S M Q := fX3_firstTurn_L2_c hS _ _ _ _ _ hl (fun  e => by cases e; exact k) (fun _ e => by cases e)
theorem fX3_firstTurn_L2_cr {S : xS} {kp : Option Nat} (hS : xSk kp 64 S) {Q : Option xV → xS → xM → Prop} {n : Nat} {M : xM} {v1 : Int} {v2 : Int} {v3 : Int} {w : Int} (hl : fX3_firstTurn_L2 n M v1 v2 v3 = some (.inr w)) (k : Q (some (vI w)) S M) : V Y_X3_firstTurn 2 0 0 2 [(0, vR (some 50)), (1, vI v1), (2, vI v2), (3, vI v3)] [] S M Q := fX3_firstTurn_L2_c hS _ _ _ _ _ hl (fun  e => by cases e) (fun _ e => by cases e; exact k)
def fX3_firstTurn (M : xM) (v1 : Int) (v2 : Int) : Option Int := xs0 (fX3_firstTurn_L2 xfuel M v1 v2 0) (some 0) (fun r => some r)
set_option maxRecDepth 20000 in
set_option maxHeartbeats 1000000 in
theorem fX3_firstTurn_c {S : xS} {kp : Option Nat} (hS : xSk kp 64 S) {M : xM} {v1 : Int} {v2 : Int} {E : Int} (h : fX3_firstTurn M v1 v2 = some E) :
    V Y_X3_firstTurn 2 0 0 0 (xarg 0 [vR (some 50), vI v1, vI v2]) [] S M (xqR S M (some (vI E))) := by
  unfold fX3_firstTurn at h
  show V Y_X3_firstTurn 2 0 0 0 [(0, vR (some 50)), (1, vI v1), (2, vI v2)] [] S M _
  refine V_iconst dX3_firstTurn_0 ?_
  refine V_istore_n (ls' := [(3, vI 0), (0, vR (some 50)), (1, vI v1), (2, vI v2)]) dX3_firstTurn_1 rfl (by decide) rfl ?_
  refine xs0E h (fun  h6 h => ?_) (fun r h6 h => ?_)
  · refine V.pick [1, 2, 3, 0] rfl ?_
    refine fX3_firstTurn_L2_ci (hS.le (by decide)) h6 ?_
    refine V_iconst dX3_firstTurn_47 ?_
    exact V_ireti dX3_firstTurn_48 rfl (q_pI h)
  · refine V.pick [1, 2, 3, 0] rfl ?_
    refine fX3_firstTurn_L2_cr (hS.le (by decide)) h6 ?_
    exact q_pI h
def fX3_findBest_L33 (n : Nat) (M : xM) (v3 : Int) (v4 : Int) (v5 : Int) : Option (xM) := match n with
  | 0 => none
  | n + 1 => (if wr v5 < wr (M 50 1) then (xb (fX3_firstTurn M v5 v4) fun r8 => xwt M 64 30 v5 r8 fun M9 => xrd M9 64 30 v5 fun r10 => fX3_findBest_L33 n M9 v3 (v4 + r10) (v5 + 1)) else some M)
set_option maxRecDepth 20000 in
set_option maxHeartbeats 1000000 in
theorem fX3_findBest_L33_c {S : xS} {kp : Option Nat} (hS : xSk kp 65 S) {Q : Option xV → xS → xM → Prop} :
    ∀ (n : Nat) (M : xM) (v3 : Int) (v4 : Int) (v5 : Int) {Mz : xM}, fX3_findBest_L33 n M v3 v4 v5 = some Mz → V Y_X3_findBest 5 0 0 75 [(3, vI v3)] [] S Mz Q → V Y_X3_findBest 5 0 0 33 [(0, vR (some 50)), (3, vI v3), (4, vI v4), (5, vI v5)] [] S M Q := by
  intro n
  induction n with
  | zero =>
    intro M v3 v4 v5 Mz h k
    cases h
  | succ n ih =>
    intro M v3 v4 v5 Mz h k
    rw [fX3_findBest_L33] at h
    refine V_iload dX3_findBest_33 (xm 3 rfl) ?_
    refine V_aload_n dX3_findBest_35 rfl (xm 0 rfl) ?_
    refine V_getI (kI := 1) dX3_findBest_36 fl_X3_39 (sk_50 hS (by decide)) rfl rfl ?_
    refine V_icmp_ge (tgt := 75) dX3_findBest_39 (by decide) h (fun _ h => ?_) (fun _ h => ?_)
    · refine V_aload_n dX3_findBest_42 rfl (xm 0 rfl) ?_
      refine V_getR dX3_findBest_43 fl_X3_23 (sk_50 hS (by decide)) rfl ?_
      refine V_iload dX3_findBest_46 (xm 3 rfl) ?_
      refine V_aload_n dX3_findBest_48 rfl (xm 0 rfl) ?_
      refine V_iload dX3_findBest_49 (xm 3 rfl) ?_
      refine V_iload dX3_findBest_51 (xm 2 rfl) ?_
      refine xbE h (fun r8 h7 h => ?_)
      refine T_callVI dX3_findBest_53 ok_X3_firstTurn (by exact ⟨by decide, rfl⟩) lk_X3_103.1 lk_X3_103.2 (sk_50 hS (by decide)) (hV := ((fX3_firstTurn_c (hS.le (by decide)) h7).mono (by decide) (Nat.le_refl _) (Nat.le_refl _))) rfl (Nat.le_of_ble_eq_true rfl) rfl (Nat.le_of_ble_eq_true rfl) ?_
      refine T_iast dX3_findBest_56 (sk_64 hS (by decide)) rfl h (fun M9 h => ?_)
      refine V_iload dX3_findBest_57 (xm 2 rfl) ?_
      refine V_aload_n dX3_findBest_59 rfl (xm 0 rfl) ?_
      refine V_getR dX3_findBest_60 fl_X3_23 (sk_50 hS (by decide)) rfl ?_
      refine V_iload dX3_findBest_63 (xm 3 rfl) ?_
      refine T_iald dX3_findBest_65 (sk_64 hS (by decide)) rfl h (fun r10 h => ?_)
      refine V_iadd dX3_findBest_66 ?_
      refine V_istore (ls' := [(4, vI (v4 + r10)), (0, vR (some 50)), (3, vI v3), (5, vI v5)]) dX3_findBest_67 (by decide) rfl ?_
      refine V_iinc (ls' := [(5, vI (v5 + 1)), (4, vI (v4 + r10)), (0, vR (some 50)), (3, vI v3)]) dX3_findBest_69 (xm 3 rfl) (by decide) rfl ?_
      refine V_goto (tgt := 33) dX3_findBest_72 (by decide) ?_
      refine V.pick [2, 3, 1, 0] rfl ?_
      exact ih M9 v3 (v4 + r10) (v5 + 1) h k
    · cases h
      refine V.pick [1] rfl ?_
      exact k
theorem fX3_findBest_L33_ci {S : xS} {kp : Option Nat} (hS : xSk kp 65 S) {Q : Option xV → xS → xM → Prop} {n : Nat} {M : xM} {v3 : Int} {v4 : Int} {v5 : Int} {Mz : xM} (hl : fX3_findBest_L33 n M v3 v4 v5 = some Mz) (k : V Y_X3_findBest 5 0 0 75 [(3, vI v3)] [] S Mz Q) : V Y_X3_findBest 5 0 0 33 [(0, vR (some 50)), (3, vI v3), (4, vI v4), (5, vI v5)] [] S M Q := fX3_findBest_L33_c hS _ _ _ _ _ hl k
def fX3_findBest (M : xM) (v2 : Int) : Option (Int × xM) := xlet (xup M 50 1 v2) fun M1 => xb (fX3_gather M1 (fX4_all M1)) fun M3 => xb2 (fX3_reckon M3 1) fun r5 M6 => xb (fX3_findBest_L33 xfuel M6 r5 0 0) fun M11 => some (r5, M11)
set_option maxRecDepth 20000 in
set_option maxHeartbeats 1000000 in
theorem fX3_findBest_c {S : xS} {kp : Option Nat} (hS : xSk kp 65 S) {M : xM} {v2 : Int} {E : Int × xM} (h : fX3_findBest M v2 = some E) :
    V Y_X3_findBest 5 0 0 0 (xarg 0 [vR (some 50), vR (some 1), vI v2]) [] S M (xqR S E.2 (some (vI E.1))) := by
  unfold fX3_findBest at h
  show V Y_X3_findBest 5 0 0 0 [(0, vR (some 50)), (1, vR (some 1)), (2, vI v2)] [] S M _
  refine V_aload_n dX3_findBest_0 rfl (xm 0 rfl) ?_
  refine V_iload_n dX3_findBest_1 rfl (xm 2 rfl) ?_
  refine T_putI (kI := 1) dX3_findBest_2 fp_X3_39 (sk_50 hS (by decide)) rfl rfl h (fun M1 h => ?_)
  refine V_aload_n dX3_findBest_5 rfl (xm 0 rfl) ?_
  refine V_aload_n dX3_findBest_6 rfl (xm 1 rfl) ?_
  refine V_aload_n dX3_findBest_7 rfl (xm 1 rfl) ?_
  refine V_getR dX3_findBest_8 fl_X3_55 (sk_1 hS (by decide)) rfl ?_
  refine T_callVI dX3_findBest_11 ok_X4_all (by exact ⟨by decide, rfl⟩) lk_X3_95.1 lk_X3_95.2 (sk_5 hS (by decide)) (hV := ((fX4_all_c (hS.le (by decide)) rfl).mono (by decide) (Nat.le_refl _) (Nat.le_refl _))) rfl (Nat.le_of_ble_eq_true rfl) rfl (Nat.le_of_ble_eq_true rfl) ?_
  refine V_aload_n dX3_findBest_14 rfl (xm 0 rfl) ?_
  refine V_getR dX3_findBest_15 fl_X3_11 (sk_50 hS (by decide)) rfl ?_
  refine xbE h (fun M3 h2 h => ?_)
  refine T_callVv dX3_findBest_18 ok_X3_gather (by exact ⟨by decide, rfl⟩) lk_X3_77.1 lk_X3_77.2 (sk_50 hS (by decide)) (hV := ((fX3_gather_c (hS.le (by decide)) h2).mono (by decide) (Nat.le_refl _) (Nat.le_refl _))) rfl (Nat.le_of_ble_eq_true rfl) rfl (Nat.le_of_ble_eq_true rfl) ?_
  refine V_aload_n dX3_findBest_21 rfl (xm 0 rfl) ?_
  refine V_iconst dX3_findBest_22 ?_
  refine xb2E h (fun r5 M6 h4 h => ?_)
  refine T_callVI dX3_findBest_23 ok_X3_reckon (by exact ⟨by decide, rfl⟩) lk_X3_99.1 lk_X3_99.2 (sk_50 hS (by decide)) (hV := ((fX3_reckon_c (hS.le (by decide)) h4).mono (by decide) (Nat.le_refl _) (Nat.le_refl _))) rfl (Nat.le_of_ble_eq_true rfl) rfl (Nat.le_of_ble_eq_true rfl) ?_
  refine V_istore_n (ls' := [(3, vI r5), (0, vR (some 50)), (1, vR (some 1)), (2, vI v2)]) dX3_findBest_26 rfl (by decide) rfl ?_
  refine V_iconst dX3_findBest_27 ?_
  refine V_istore (ls' := [(4, vI 0), (3, vI r5), (0, vR (some 50)), (1, vR (some 1)), (2, vI v2)]) dX3_findBest_28 (by decide) rfl ?_
  refine V_iconst dX3_findBest_30 ?_
  refine V_istore (ls' := [(5, vI 0), (4, vI 0), (3, vI r5), (0, vR (some 50)), (1, vR (some 1)), (2, vI v2)]) dX3_findBest_31 (by decide) rfl ?_
  refine xbE h (fun M11 h12 h => ?_)
  refine V.pick [3, 2, 1, 0] rfl ?_
  refine fX3_findBest_L33_ci (hS.le (by decide)) h12 ?_
  refine V_iload_n dX3_findBest_75 rfl (xm 0 rfl) ?_
  exact V_ireti dX3_findBest_76 rfl (q_wI h)
def fX11_isTurnOf (v0 : Int) (v1 : Int) : Bool := (fX11_within v0 10 ((10 + v1) - 1))
set_option maxRecDepth 20000 in
set_option maxHeartbeats 1000000 in
theorem fX11_isTurnOf_c {S : xS} {kp : Option Nat} (hS : xSk kp 0 S) {M : xM} {v0 : Int} {v1 : Int} {E : Bool} (h : fX11_isTurnOf v0 v1 = E) :
    V Y_X11_isTurnOf 1 0 0 0 (xarg 0 [vI v0, vI v1]) [] S M (xqR S M (some (vI (b2i E)))) := by
  unfold fX11_isTurnOf at h
  show V Y_X11_isTurnOf 1 0 0 0 [(0, vI v0), (1, vI v1)] [] S M _
  refine V_iload_n dX11_isTurnOf_0 rfl (xm 0 rfl) ?_
  refine V_bipush dX11_isTurnOf_1 (by decide) ?_
  refine V_bipush dX11_isTurnOf_3 (by decide) ?_
  refine V_iload_n dX11_isTurnOf_5 rfl (xm 1 rfl) ?_
  refine V_iadd dX11_isTurnOf_6 ?_
  refine V_iconst dX11_isTurnOf_7 ?_
  refine V_isub dX11_isTurnOf_8 ?_
  refine T_callSI (host := "") dX11_isTurnOf_9 ok_X11_within lk_X11_60.1 lk_X11_60.2 (hV := ((fX11_within_c (hS.le (by decide)) rfl).mono (by decide) (Nat.le_refl _) (Nat.le_refl _))) rfl (Nat.le_of_ble_eq_true rfl) rfl (Nat.le_of_ble_eq_true rfl) ?_
  exact V_iretb (b := (fX11_within v0 10 ((10 + v1) - 1))) dX11_isTurnOf_12 rfl rfl (q_tB h)
def fX11_best (M : xM) (v1 : Int) (v2 : Int) : Option (Int × xM) := (if (fX11_within v1 1 30) = true then (xj (fun (_ : Unit) => xb2 (fX3_findBest M v1) fun r3 M4 => (if wr v2 = 0 then some (r3, M4) else (xrd M4 64 30 (v2 - 10) fun r5 => some (r5 + 2, M4)))) fun j1 => (if wr v2 = 0 then j1 () else (if (fX11_isTurnOf v2 v1) = true then j1 () else some ((-1000000), M)))) else some ((-1000000), M))
set_option maxRecDepth 20000 in
set_option maxHeartbeats 1000000 in
theorem fX11_best_c {S : xS} {kp : Option Nat} (hS : xSk kp 94 S) {M : xM} {v1 : Int} {v2 : Int} {E : Int × xM} (h : fX11_best M v1 v2 = some E) :
    V Y_X11_best 6 0 0 0 (xarg 0 [vR (some 0), vI v1, vI v2]) [] S M (xqR S E.2 (some (vI E.1))) := by
  unfold fX11_best at h
  show V Y_X11_best 6 0 0 0 [(0, vR (some 0)), (1, vI v1), (2, vI v2)] [] S M _
  refine V_iload_n dX11_best_0 rfl (xm 1 rfl) ?_
  refine V_iconst dX11_best_1 ?_
  refine V_bipush dX11_best_2 (by decide) ?_
  refine T_callSI (host := "") dX11_best_4 ok_X11_within lk_X11_60.1 lk_X11_60.2 (hV := ((fX11_within_c (hS.le (by decide)) rfl).mono (by decide) (Nat.le_refl _) (Nat.le_refl _))) rfl (Nat.le_of_ble_eq_true rfl) rfl (Nat.le_of_ble_eq_true rfl) ?_
  refine V_if_eqB (tgt := 22) dX11_best_7 (by decide) h (fun _ h => ?_) (fun _ h => ?_)
  · refine V_iload_n dX11_best_10 rfl (xm 2 rfl) ?_
    refine xjE h (fun j1 hj1 h => ?_)
    have kj1 : ∀ (u : Unit), j1 u = some E → V Y_X11_best 6 0 0 26 [(0, vR (some 0)), (1, vI v1), (2, vI v2)] [] S M (xqR S E.2 (some (vI E.1))) := by
      intro u h
      rw [hj1] at h
      refine V_aload_n dX11_best_26 rfl (xm 0 rfl) ?_
      refine V_getR dX11_best_27 fl_X11_39 (sk_0 hS (by decide)) rfl ?_
      refine V_aload_n dX11_best_30 rfl (xm 0 rfl) ?_
      refine V_getR dX11_best_31 fl_X11_12 (sk_0 hS (by decide)) rfl ?_
      refine V_iload_n dX11_best_34 rfl (xm 1 rfl) ?_
      refine xb2E h (fun r3 M4 h2 h => ?_)
      refine T_callVI dX11_best_35 ok_X3_findBest (by exact ⟨by decide, rfl⟩) lk_X11_260.1 lk_X11_260.2 (sk_50 hS (by decide)) (hV := ((fX3_findBest_c (hS.le (by decide)) h2).mono (by decide) (Nat.le_refl _) (Nat.le_refl _))) rfl (Nat.le_of_ble_eq_true rfl) rfl (Nat.le_of_ble_eq_true rfl) ?_
      refine V_istore_n (ls' := [(3, vI r3), (0, vR (some 0)), (1, vI v1), (2, vI v2)]) dX11_best_38 rfl (by decide) rfl ?_
      refine V_iload_n dX11_best_39 rfl (xm 3 rfl) ?_
      refine V_if_ne (tgt := 47) dX11_best_40 (by decide) h (fun _ h => ?_) (fun _ h => ?_)
      · refine V_iload_n dX11_best_43 rfl (xm 0 rfl) ?_
        refine V_goto (tgt := 61) dX11_best_44 (by decide) ?_
        exact V_ireti dX11_best_61 rfl (q_wI h)
      · refine V_aload_n dX11_best_47 rfl (xm 1 rfl) ?_
        refine V_getR dX11_best_48 fl_X11_39 (sk_0 hS (by decide)) rfl ?_
        refine V_getR dX11_best_51 fl_X11_264 (sk_50 hS (by decide)) rfl ?_
        refine V_iload_n dX11_best_54 rfl (xm 3 rfl) ?_
        refine V_bipush dX11_best_55 (by decide) ?_
        refine V_isub dX11_best_57 ?_
        refine T_iald dX11_best_58 (sk_64 hS (by decide)) rfl h (fun r5 h => ?_)
        refine V_iconst dX11_best_59 ?_
        refine V_iadd dX11_best_60 ?_
        exact V_ireti dX11_best_61 rfl (q_wI h)
    refine V_if_eq (tgt := 26) dX11_best_11 (by decide) h (fun _ h => ?_) (fun _ h => ?_)
    · refine V.pick [0, 1, 2] rfl ?_
      exact kj1 () h
    · refine V_iload_n dX11_best_14 rfl (xm 2 rfl) ?_
      refine V_iload_n dX11_best_15 rfl (xm 1 rfl) ?_
      refine T_callSI (host := "") dX11_best_16 ok_X11_isTurnOf lk_X11_256.1 lk_X11_256.2 (hV := ((fX11_isTurnOf_c (hS.le (by decide)) rfl).mono (by decide) (Nat.le_refl _) (Nat.le_refl _))) rfl (Nat.le_of_ble_eq_true rfl) rfl (Nat.le_of_ble_eq_true rfl) ?_
      refine V_if_neB (tgt := 26) dX11_best_19 (by decide) h (fun _ h => ?_) (fun _ h => ?_)
      · refine V.pick [0, 1, 2] rfl ?_
        exact kj1 () h
      · refine V_ldcw (n := (-1000000)) dX11_best_22 (xsg4 201 rfl rfl : Cond.constant RX11 259 (-1000000) ∈ xT) (by decide) ?_
        exact V_ireti dX11_best_25 rfl (q_wI h)
  · refine V_ldcw (n := (-1000000)) dX11_best_22 (xsg4 201 rfl rfl : Cond.constant RX11 259 (-1000000) ∈ xT) (by decide) ?_
    exact V_ireti dX11_best_25 rfl (q_wI h)
def fX3_gather_i2_L61 (n : Nat) (M : xM) (v2 : Int) (o3 : Nat) (v4 : Int) (v5 : Int) (v6 : Int) (v7 : Int) (v8 : Int) (v9 : Int) : Option (Int × xM) := match n with
  | 0 => none
  | n + 1 => (if wr v9 < wr (M 5 0) then (if wr (xand (xshr v2 v9) 1) = 0 then fX3_gather_i2_L61 n M v2 o3 v4 v5 v6 v7 v8 (v9 + 1) else (xb2 (fX10_worthTo M v9 ((M 1 2) + v4) v7 v5) fun r4 M5 => fX3_gather_i2_L61 n M5 v2 o3 v4 v5 v6 v7 (v8 + r4) (v9 + 1))) else some (v8, M))
set_option maxRecDepth 20000 in
set_option maxHeartbeats 1000000 in
theorem fX3_gather_i2_L61_c {S : xS} {kp : Option Nat} (hS : xSk kp 51 S) {Q : Option xV → xS → xM → Prop} :
    ∀ (n : Nat) (M : xM) (v2 : Int) (o3 : Nat) (v4 : Int) (v5 : Int) (v6 : Int) (v7 : Int) (v8 : Int) (v9 : Int) {x8 : Int} {Mz : xM}, S[o3]? = some (100, 156, []) → fX3_gather_i2_L61 n M v2 o3 v4 v5 v6 v7 v8 v9 = some (x8, Mz) → V Y_X3_gather 4 0 0 114 [(0, vR (some 50)), (1, vR (some 1)), (2, vI v2), (3, vR (some o3)), (4, vI v4), (5, vI v5), (6, vI v6), (8, vI x8)] [] S Mz Q → V Y_X3_gather 4 0 0 61 [(0, vR (some 50)), (1, vR (some 1)), (2, vI v2), (3, vR (some o3)), (4, vI v4), (5, vI v5), (6, vI v6), (7, vI v7), (8, vI v8), (9, vI v9)] [] S M Q := by
  intro n
  induction n with
  | zero =>
    intro M v2 o3 v4 v5 v6 v7 v8 v9 x8 Mz ho3 h k
    cases h
  | succ n ih =>
    intro M v2 o3 v4 v5 v6 v7 v8 v9 x8 Mz ho3 h k
    rw [fX3_gather_i2_L61] at h
    refine V_iload dX3_gather_61 (xm 9 rfl) ?_
    refine V_aload_n dX3_gather_63 rfl (xm 1 rfl) ?_
    refine V_getR dX3_gather_64 fl_X3_55 (sk_1 hS (by decide)) rfl ?_
    refine V_getI (kI := 0) dX3_gather_67 fl_X3_59 (sk_5 hS (by decide)) rfl rfl ?_
    refine V_icmp_ge (tgt := 114) dX3_gather_70 (by decide) h (fun _ h => ?_) (fun _ h => ?_)
    · refine V_iload_n dX3_gather_73 rfl (xm 2 rfl) ?_
      refine V_iload dX3_gather_74 (xm 9 rfl) ?_
      refine V_ishr dX3_gather_76 ?_
      refine V_iconst dX3_gather_77 ?_
      refine V_iand dX3_gather_78 ?_
      refine V_if_eq (tgt := 108) dX3_gather_79 (by decide) h (fun _ h => ?_) (fun _ h => ?_)
      · refine V_iinc (ls' := [(9, vI (v9 + 1)), (0, vR (some 50)), (1, vR (some 1)), (2, vI v2), (3, vR (some o3)), (4, vI v4), (5, vI v5), (6, vI v6), (7, vI v7), (8, vI v8)]) dX3_gather_108 (xm 9 rfl) (by decide) rfl ?_
        refine V_goto (tgt := 61) dX3_gather_111 (by decide) ?_
        refine V.pick [1, 2, 3, 4, 5, 6, 7, 8, 9, 0] rfl ?_
        exact ih M v2 o3 v4 v5 v6 v7 v8 (v9 + 1) ho3 h k
      · refine V_iload dX3_gather_82 (xm 8 rfl) ?_
        refine V_aload_n dX3_gather_84 rfl (xm 0 rfl) ?_
        refine V_getR dX3_gather_85 fl_X3_35 (sk_50 hS (by decide)) rfl ?_
        refine V_aload_n dX3_gather_88 rfl (xm 1 rfl) ?_
        refine V_iload dX3_gather_89 (xm 9 rfl) ?_
        refine V_aload_n dX3_gather_91 rfl (xm 1 rfl) ?_
        refine V_getI (kI := 2) dX3_gather_92 fl_X3_64 (sk_1 hS (by decide)) rfl rfl ?_
        refine V_iload dX3_gather_95 (xm 4 rfl) ?_
        refine V_iadd dX3_gather_97 ?_
        refine V_iload dX3_gather_98 (xm 7 rfl) ?_
        refine V_iload dX3_gather_100 (xm 5 rfl) ?_
        refine xb2E h (fun r4 M5 h3 h => ?_)
        refine T_callVI dX3_gather_102 ok_X10_worthTo (by exact ⟨by decide, rfl⟩) lk_X3_67.1 lk_X3_67.2 (sk_43 hS (by decide)) (hV := ((fX10_worthTo_c (hS.le (by decide)) h3).mono (by decide) (Nat.le_refl _) (Nat.le_refl _))) rfl (Nat.le_of_ble_eq_true rfl) rfl (Nat.le_of_ble_eq_true rfl) ?_
        refine V_iadd dX3_gather_105 ?_
        refine V_istore (ls' := [(8, vI (v8 + r4)), (0, vR (some 50)), (1, vR (some 1)), (2, vI v2), (3, vR (some o3)), (4, vI v4), (5, vI v5), (6, vI v6), (7, vI v7), (9, vI v9)]) dX3_gather_106 (by decide) rfl ?_
        refine V_iinc (ls' := [(9, vI (v9 + 1)), (8, vI (v8 + r4)), (0, vR (some 50)), (1, vR (some 1)), (2, vI v2), (3, vR (some o3)), (4, vI v4), (5, vI v5), (6, vI v6), (7, vI v7)]) dX3_gather_108 (xm 9 rfl) (by decide) rfl ?_
        refine V_goto (tgt := 61) dX3_gather_111 (by decide) ?_
        refine V.pick [2, 3, 4, 5, 6, 7, 8, 9, 1, 0] rfl ?_
        exact ih M5 v2 o3 v4 v5 v6 v7 (v8 + r4) (v9 + 1) ho3 h k
    · cases h
      refine V.pick [0, 1, 2, 3, 4, 5, 6, 8] rfl ?_
      exact k
theorem fX3_gather_i2_L61_ci {S : xS} {kp : Option Nat} (hS : xSk kp 51 S) {Q : Option xV → xS → xM → Prop} {n : Nat} {M : xM} {v2 : Int} {o3 : Nat} {v4 : Int} {v5 : Int} {v6 : Int} {v7 : Int} {v8 : Int} {v9 : Int} {x8 : Int} {Mz : xM} (ho3 : S[o3]? = some (100, 156, [])) (hl : fX3_gather_i2_L61 n M v2 o3 v4 v5 v6 v7 v8 v9 = some (x8, Mz)) (k : V Y_X3_gather 4 0 0 114 [(0, vR (some 50)), (1, vR (some 1)), (2, vI v2), (3, vR (some o3)), (4, vI v4), (5, vI v5), (6, vI v6), (8, vI x8)] [] S Mz Q) : V Y_X3_gather 4 0 0 61 [(0, vR (some 50)), (1, vR (some 1)), (2, vI v2), (3, vR (some o3)), (4, vI v4), (5, vI v5), (6, vI v6), (7, vI v7), (8, vI v8), (9, vI v9)] [] S M Q := fX3_gather_i2_L61_c hS _ _ _ _ _ _ _ _ _ _ ho3 hl k
def fX3_gather_i2_L29 (n : Nat) (M : xM) (v2 : Int) (o3 : Nat) (v4 : Int) (v5 : Int) (v6 : Int) : Option (xM) := match n with
  | 0 => none
  | n + 1 => (if wr (v4 + v5) < wr v6 then some M else (xb (fX11_wrap ((M 1 1) + v6) (M 1 0)) fun r2 => xb2 (fX3_gather_i2_L61 xfuel M v2 o3 v4 v5 v6 r2 0 0) fun y6 M7 => xwt M7 o3 156 (fX3_cellOf M7 v4 v6 v5) y6 fun M9 => fX3_gather_i2_L29 n M9 v2 o3 v4 v5 (v6 + 1)))
set_option maxRecDepth 20000 in
set_option maxHeartbeats 1000000 in
theorem fX3_gather_i2_L29_c {S : xS} {kp : Option Nat} (hS : xSk kp 51 S) {Q : Option xV → xS → xM → Prop} :
    ∀ (n : Nat) (M : xM) (v2 : Int) (o3 : Nat) (v4 : Int) (v5 : Int) (v6 : Int) {Mz : xM}, S[o3]? = some (100, 156, []) → fX3_gather_i2_L29 n M v2 o3 v4 v5 v6 = some Mz → V Y_X3_gather 4 0 0 134 [(0, vR (some 50)), (1, vR (some 1)), (2, vI v2), (3, vR (some o3)), (4, vI v4), (5, vI v5)] [] S Mz Q → V Y_X3_gather 4 0 0 29 [(0, vR (some 50)), (1, vR (some 1)), (2, vI v2), (3, vR (some o3)), (4, vI v4), (5, vI v5), (6, vI v6)] [] S M Q := by
  intro n
  induction n with
  | zero =>
    intro M v2 o3 v4 v5 v6 Mz ho3 h k
    cases h
  | succ n ih =>
    intro M v2 o3 v4 v5 v6 Mz ho3 h k
    rw [fX3_gather_i2_L29] at h
    refine V_iload dX3_gather_29 (xm 6 rfl) ?_
    refine V_iload dX3_gather_31 (xm 4 rfl) ?_
    refine V_iload dX3_gather_33 (xm 5 rfl) ?_
    refine V_iadd dX3_gather_35 ?_
    refine V_icmp_gt (tgt := 134) dX3_gather_36 (by decide) h (fun _ h => ?_) (fun _ h => ?_)
    · cases h
      refine V.pick [0, 1, 2, 3, 4, 5] rfl ?_
      exact k
    · refine V_aload_n dX3_gather_39 rfl (xm 1 rfl) ?_
      refine V_getI (kI := 1) dX3_gather_40 fl_X3_43 (sk_1 hS (by decide)) rfl rfl ?_
      refine V_iload dX3_gather_43 (xm 6 rfl) ?_
      refine V_iadd dX3_gather_45 ?_
      refine V_aload_n dX3_gather_46 rfl (xm 1 rfl) ?_
      refine V_getI (kI := 0) dX3_gather_47 fl_X3_48 (sk_1 hS (by decide)) rfl rfl ?_
      refine xbE h (fun r2 h1 h => ?_)
      refine T_callSNI (host := "TurnedIsland") dX3_gather_50 ok_X11_wrap lk_X3_51.1 lk_X3_51.2 (hV := ((fX11_wrap_c (hS.le (by decide)) h1).mono (by decide) (Nat.le_refl _) (Nat.le_refl _))) rfl (Nat.le_of_ble_eq_true rfl) rfl (Nat.le_of_ble_eq_true rfl) ?_
      refine V_istore (ls' := [(7, vI r2), (0, vR (some 50)), (1, vR (some 1)), (2, vI v2), (3, vR (some o3)), (4, vI v4), (5, vI v5), (6, vI v6)]) dX3_gather_53 (by decide) rfl ?_
      refine V_iconst dX3_gather_55 ?_
      refine V_istore (ls' := [(8, vI 0), (7, vI r2), (0, vR (some 50)), (1, vR (some 1)), (2, vI v2), (3, vR (some o3)), (4, vI v4), (5, vI v5), (6, vI v6)]) dX3_gather_56 (by decide) rfl ?_
      refine V_iconst dX3_gather_58 ?_
      refine V_istore (ls' := [(9, vI 0), (8, vI 0), (7, vI r2), (0, vR (some 50)), (1, vR (some 1)), (2, vI v2), (3, vR (some o3)), (4, vI v4), (5, vI v5), (6, vI v6)]) dX3_gather_59 (by decide) rfl ?_
      refine xb2E h (fun y6 M7 h8 h => ?_)
      refine V.pick [3, 4, 5, 6, 7, 8, 9, 2, 1, 0] rfl ?_
      refine fX3_gather_i2_L61_ci (hS.le (by decide)) ho3 h8 ?_
      refine V_aload_n dX3_gather_114 rfl (xm 3 rfl) ?_
      refine V_aload_n dX3_gather_115 rfl (xm 0 rfl) ?_
      refine V_iload dX3_gather_116 (xm 4 rfl) ?_
      refine V_iload dX3_gather_118 (xm 6 rfl) ?_
      refine V_iload dX3_gather_120 (xm 5 rfl) ?_
      refine T_callVI dX3_gather_122 ok_X3_cellOf (by exact ⟨by decide, rfl⟩) lk_X3_73.1 lk_X3_73.2 (sk_50 hS (by decide)) (hV := ((fX3_cellOf_c (hS.le (by decide)) rfl).mono (by decide) (Nat.le_refl _) (Nat.le_refl _))) rfl (Nat.le_of_ble_eq_true rfl) rfl (Nat.le_of_ble_eq_true rfl) ?_
      refine V_iload dX3_gather_125 (xm 7 rfl) ?_
      refine T_iast dX3_gather_127 ho3 rfl h (fun M9 h => ?_)
      refine V_iinc (ls' := [(6, vI (v6 + 1)), (0, vR (some 50)), (1, vR (some 1)), (2, vI v2), (3, vR (some o3)), (4, vI v4), (5, vI v5), (8, vI y6)]) dX3_gather_128 (xm 6 rfl) (by decide) rfl ?_
      refine V_goto (tgt := 29) dX3_gather_131 (by decide) ?_
      refine V.pick [1, 2, 3, 4, 5, 6, 0] rfl ?_
      exact ih M9 v2 o3 v4 v5 (v6 + 1) ho3 h k
theorem fX3_gather_i2_L29_ci {S : xS} {kp : Option Nat} (hS : xSk kp 51 S) {Q : Option xV → xS → xM → Prop} {n : Nat} {M : xM} {v2 : Int} {o3 : Nat} {v4 : Int} {v5 : Int} {v6 : Int} {Mz : xM} (ho3 : S[o3]? = some (100, 156, [])) (hl : fX3_gather_i2_L29 n M v2 o3 v4 v5 v6 = some Mz) (k : V Y_X3_gather 4 0 0 134 [(0, vR (some 50)), (1, vR (some 1)), (2, vI v2), (3, vR (some o3)), (4, vI v4), (5, vI v5)] [] S Mz Q) : V Y_X3_gather 4 0 0 29 [(0, vR (some 50)), (1, vR (some 1)), (2, vI v2), (3, vR (some o3)), (4, vI v4), (5, vI v5), (6, vI v6)] [] S M Q := fX3_gather_i2_L29_c hS _ _ _ _ _ _ _ ho3 hl k
def fX3_gather_i2_L15 (n : Nat) (M : xM) (v2 : Int) (o3 : Nat) (v4 : Int) (v5 : Int) : Option (xM) := match n with
  | 0 => none
  | n + 1 => (if wr 1 < wr v5 then some M else (xb (fX3_gather_i2_L29 xfuel M v2 o3 v4 v5 ((-v4) - v5)) fun M10 => fX3_gather_i2_L15 n M10 v2 o3 v4 (v5 + 1)))
set_option maxRecDepth 20000 in
set_option maxHeartbeats 1000000 in
theorem fX3_gather_i2_L15_c {S : xS} {kp : Option Nat} (hS : xSk kp 51 S) {Q : Option xV → xS → xM → Prop} :
    ∀ (n : Nat) (M : xM) (v2 : Int) (o3 : Nat) (v4 : Int) (v5 : Int) {Mz : xM}, S[o3]? = some (100, 156, []) → fX3_gather_i2_L15 n M v2 o3 v4 v5 = some Mz → V Y_X3_gather 4 0 0 140 [(0, vR (some 50)), (1, vR (some 1)), (2, vI v2), (3, vR (some o3)), (4, vI v4)] [] S Mz Q → V Y_X3_gather 4 0 0 15 [(0, vR (some 50)), (1, vR (some 1)), (2, vI v2), (3, vR (some o3)), (4, vI v4), (5, vI v5)] [] S M Q := by
  intro n
  induction n with
  | zero =>
    intro M v2 o3 v4 v5 Mz ho3 h k
    cases h
  | succ n ih =>
    intro M v2 o3 v4 v5 Mz ho3 h k
    rw [fX3_gather_i2_L15] at h
    refine V_iload dX3_gather_15 (xm 5 rfl) ?_
    refine V_iconst dX3_gather_17 ?_
    refine V_icmp_gt (tgt := 140) dX3_gather_18 (by decide) h (fun _ h => ?_) (fun _ h => ?_)
    · cases h
      refine V.pick [0, 1, 2, 3, 4] rfl ?_
      exact k
    · refine V_iload dX3_gather_21 (xm 4 rfl) ?_
      refine V_ineg dX3_gather_23 ?_
      refine V_iload dX3_gather_24 (xm 5 rfl) ?_
      refine V_isub dX3_gather_26 ?_
      refine V_istore (ls' := [(6, vI ((-v4) - v5)), (0, vR (some 50)), (1, vR (some 1)), (2, vI v2), (3, vR (some o3)), (4, vI v4), (5, vI v5)]) dX3_gather_27 (by decide) rfl ?_
      refine xbE h (fun M10 h11 h => ?_)
      refine V.pick [1, 2, 3, 4, 5, 6, 0] rfl ?_
      refine fX3_gather_i2_L29_ci (hS.le (by decide)) ho3 h11 ?_
      refine V_iinc (ls' := [(5, vI (v5 + 1)), (0, vR (some 50)), (1, vR (some 1)), (2, vI v2), (3, vR (some o3)), (4, vI v4)]) dX3_gather_134 (xm 5 rfl) (by decide) rfl ?_
      refine V_goto (tgt := 15) dX3_gather_137 (by decide) ?_
      refine V.pick [1, 2, 3, 4, 5, 0] rfl ?_
      exact ih M10 v2 o3 v4 (v5 + 1) ho3 h k
theorem fX3_gather_i2_L15_ci {S : xS} {kp : Option Nat} (hS : xSk kp 51 S) {Q : Option xV → xS → xM → Prop} {n : Nat} {M : xM} {v2 : Int} {o3 : Nat} {v4 : Int} {v5 : Int} {Mz : xM} (ho3 : S[o3]? = some (100, 156, [])) (hl : fX3_gather_i2_L15 n M v2 o3 v4 v5 = some Mz) (k : V Y_X3_gather 4 0 0 140 [(0, vR (some 50)), (1, vR (some 1)), (2, vI v2), (3, vR (some o3)), (4, vI v4)] [] S Mz Q) : V Y_X3_gather 4 0 0 15 [(0, vR (some 50)), (1, vR (some 1)), (2, vI v2), (3, vR (some o3)), (4, vI v4), (5, vI v5)] [] S M Q := fX3_gather_i2_L15_c hS _ _ _ _ _ _ ho3 hl k
def fX3_gather_i2_L3 (n : Nat) (M : xM) (v2 : Int) (o3 : Nat) (v4 : Int) : Option (xM) := match n with
  | 0 => none
  | n + 1 => (if wr v4 < wr (M 50 1) then (xb (fX3_gather_i2_L15 xfuel M v2 o3 v4 0) fun M12 => fX3_gather_i2_L3 n M12 v2 o3 (v4 + 1)) else some M)
set_option maxRecDepth 20000 in
set_option maxHeartbeats 1000000 in
theorem fX3_gather_i2_L3_c {S : xS} {kp : Option Nat} (hS : xSk kp 51 S) {Q : Option xV → xS → xM → Prop} :
    ∀ (n : Nat) (M : xM) (v2 : Int) (o3 : Nat) (v4 : Int) {Mz : xM}, S[o3]? = some (100, 156, []) → fX3_gather_i2_L3 n M v2 o3 v4 = some Mz → V Y_X3_gather 4 0 0 146 [] [] S Mz Q → V Y_X3_gather 4 0 0 3 [(0, vR (some 50)), (1, vR (some 1)), (2, vI v2), (3, vR (some o3)), (4, vI v4)] [] S M Q := by
  intro n
  induction n with
  | zero =>
    intro M v2 o3 v4 Mz ho3 h k
    cases h
  | succ n ih =>
    intro M v2 o3 v4 Mz ho3 h k
    rw [fX3_gather_i2_L3] at h
    refine V_iload dX3_gather_3 (xm 4 rfl) ?_
    refine V_aload_n dX3_gather_5 rfl (xm 0 rfl) ?_
    refine V_getI (kI := 1) dX3_gather_6 fl_X3_39 (sk_50 hS (by decide)) rfl rfl ?_
    refine V_icmp_ge (tgt := 146) dX3_gather_9 (by decide) h (fun _ h => ?_) (fun _ h => ?_)
    · refine V_iconst dX3_gather_12 ?_
      refine V_istore (ls' := [(5, vI 0), (0, vR (some 50)), (1, vR (some 1)), (2, vI v2), (3, vR (some o3)), (4, vI v4)]) dX3_gather_13 (by decide) rfl ?_
      refine xbE h (fun M12 h13 h => ?_)
      refine V.pick [1, 2, 3, 4, 5, 0] rfl ?_
      refine fX3_gather_i2_L15_ci (hS.le (by decide)) ho3 h13 ?_
      refine V_iinc (ls' := [(4, vI (v4 + 1)), (0, vR (some 50)), (1, vR (some 1)), (2, vI v2), (3, vR (some o3))]) dX3_gather_140 (xm 4 rfl) (by decide) rfl ?_
      refine V_goto (tgt := 3) dX3_gather_143 (by decide) ?_
      refine V.pick [1, 2, 3, 4, 0] rfl ?_
      exact ih M12 v2 o3 (v4 + 1) ho3 h k
    · cases h
      refine V.pick [] rfl ?_
      exact k
theorem fX3_gather_i2_L3_ci {S : xS} {kp : Option Nat} (hS : xSk kp 51 S) {Q : Option xV → xS → xM → Prop} {n : Nat} {M : xM} {v2 : Int} {o3 : Nat} {v4 : Int} {Mz : xM} (ho3 : S[o3]? = some (100, 156, [])) (hl : fX3_gather_i2_L3 n M v2 o3 v4 = some Mz) (k : V Y_X3_gather 4 0 0 146 [] [] S Mz Q) : V Y_X3_gather 4 0 0 3 [(0, vR (some 50)), (1, vR (some 1)), (2, vI v2), (3, vR (some o3)), (4, vI v4)] [] S M Q := fX3_gather_i2_L3_c hS _ _ _ _ _ ho3 hl k
def fX3_gather_i2 (M : xM) (v2 : Int) (o3 : Nat) : Option xM := xb (fX3_gather_i2_L3 xfuel M v2 o3 0) fun M14 => some M14
set_option maxRecDepth 20000 in
set_option maxHeartbeats 1000000 in
theorem fX3_gather_i2_c {S : xS} {kp : Option Nat} (hS : xSk kp 51 S) {M : xM} {v2 : Int} {o3 : Nat} (ho3 : S[o3]? = some (100, 156, [])) {E : xM} (h : fX3_gather_i2 M v2 o3 = some E) :
    V Y_X3_gather 4 0 0 0 (xarg 0 [vR (some 50), vR (some 1), vI v2, vR (some o3)]) [] S M (xqR S E none) := by
  unfold fX3_gather_i2 at h
  show V Y_X3_gather 4 0 0 0 [(0, vR (some 50)), (1, vR (some 1)), (2, vI v2), (3, vR (some o3))] [] S M _
  refine V_iconst dX3_gather_0 ?_
  refine V_istore (ls' := [(4, vI 0), (0, vR (some 50)), (1, vR (some 1)), (2, vI v2), (3, vR (some o3))]) dX3_gather_1 (by decide) rfl ?_
  refine xbE h (fun M14 h15 h => ?_)
  refine V.pick [1, 2, 3, 4, 0] rfl ?_
  refine fX3_gather_i2_L3_ci (hS.le (by decide)) ho3 h15 ?_
  exact V_ret dX3_gather_146 rfl (q_v h)
def fX3_gatherEach_L2 (n : Nat) (M : xM) (v2 : Int) : Option (xM) := match n with
  | 0 => none
  | n + 1 => (if wr v2 < wr (M 5 0) then (xix 10 v2 (xb (fX3_gather_i2 M (xshl 1 v2) (53 + (wr v2).toNat)) fun M3 => fX3_gatherEach_L2 n M3 (v2 + 1))) else some M)
set_option maxRecDepth 20000 in
set_option maxHeartbeats 1000000 in
theorem fX3_gatherEach_L2_c {S : xS} {kp : Option Nat} (hS : xSk kp 64 S) {Q : Option xV → xS → xM → Prop} :
    ∀ (n : Nat) (M : xM) (v2 : Int) {Mz : xM}, fX3_gatherEach_L2 n M v2 = some Mz → V Y_X3_gatherEach 5 0 0 33 [] [] S Mz Q → V Y_X3_gatherEach 5 0 0 2 [(0, vR (some 50)), (1, vR (some 1)), (2, vI v2)] [] S M Q := by
  intro n
  induction n with
  | zero =>
    intro M v2 Mz h k
    cases h
  | succ n ih =>
    intro M v2 Mz h k
    rw [fX3_gatherEach_L2] at h
    refine V_iload_n dX3_gatherEach_2 rfl (xm 2 rfl) ?_
    refine V_aload_n dX3_gatherEach_3 rfl (xm 1 rfl) ?_
    refine V_getR dX3_gatherEach_4 fl_X3_55 (sk_1 hS (by decide)) rfl ?_
    refine V_getI (kI := 0) dX3_gatherEach_7 fl_X3_59 (sk_5 hS (by decide)) rfl rfl ?_
    refine V_icmp_ge (tgt := 33) dX3_gatherEach_10 (by decide) h (fun _ h => ?_) (fun _ h => ?_)
    · refine V_aload_n dX3_gatherEach_13 rfl (xm 0 rfl) ?_
      refine V_aload_n dX3_gatherEach_14 rfl (xm 1 rfl) ?_
      refine V_iconst dX3_gatherEach_15 ?_
      refine V_iload_n dX3_gatherEach_16 rfl (xm 2 rfl) ?_
      refine V_ishl dX3_gatherEach_17 ?_
      refine V_aload_n dX3_gatherEach_18 rfl (xm 0 rfl) ?_
      refine V_getR dX3_gatherEach_19 fl_X3_17 (sk_50 hS (by decide)) rfl ?_
      refine V_iload_n dX3_gatherEach_22 rfl (xm 2 rfl) ?_
      obtain ⟨c1, h⟩ := xixE h
      refine V_aald (r := 53 + (wr v2).toNat) dX3_gatherEach_23 (sk_52 hS (by decide)) (by decide) c1 (rw_52 c1) ?_
      refine xbE h (fun M3 h2 h => ?_)
      refine T_callVv dX3_gatherEach_24 ok_X3_gather (by exact ⟨by decide, rfl⟩) lk_X3_77.1 lk_X3_77.2 (sk_50 hS (by decide)) (hV := ((fX3_gather_i2_c (hS.le (by decide)) (rs_52 hS (by decide) c1) h2).mono (by decide) (Nat.le_refl _) (Nat.le_refl _))) rfl (Nat.le_of_ble_eq_true rfl) rfl (Nat.le_of_ble_eq_true rfl) ?_
      refine V_iinc (ls' := [(2, vI (v2 + 1)), (0, vR (some 50)), (1, vR (some 1))]) dX3_gatherEach_27 (xm 2 rfl) (by decide) rfl ?_
      refine V_goto (tgt := 2) dX3_gatherEach_30 (by decide) ?_
      refine V.pick [1, 2, 0] rfl ?_
      exact ih M3 (v2 + 1) h k
    · cases h
      refine V.pick [] rfl ?_
      exact k
theorem fX3_gatherEach_L2_ci {S : xS} {kp : Option Nat} (hS : xSk kp 64 S) {Q : Option xV → xS → xM → Prop} {n : Nat} {M : xM} {v2 : Int} {Mz : xM} (hl : fX3_gatherEach_L2 n M v2 = some Mz) (k : V Y_X3_gatherEach 5 0 0 33 [] [] S Mz Q) : V Y_X3_gatherEach 5 0 0 2 [(0, vR (some 50)), (1, vR (some 1)), (2, vI v2)] [] S M Q := fX3_gatherEach_L2_c hS _ _ _ hl k
