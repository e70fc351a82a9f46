def fX3_gatherEach (M : xM)  : Option xM := xb (fX3_gatherEach_L2 xfuel M 0) fun M4 => some M4
set_option maxRecDepth 20000 in
set_option maxHeartbeats 1000000 in
theorem fX3_gatherEach_c {S : xS} {kp : Option Nat} (hS : xSk kp 64 S) {M : xM} {E : xM} (h : fX3_gatherEach M = some E) :
    V Y_X3_gatherEach 5 0 0 0 (xarg 0 [vR (some 50), vR (some 1)]) [] S M (xqR S E none) := by
  unfold fX3_gatherEach at h
  show V Y_X3_gatherEach 5 0 0 0 [(0, vR (some 50)), (1, vR (some 1))] [] S M _
  refine V_iconst dX3_gatherEach_0 ?_
  refine V_istore_n (ls' := [(2, vI 0), (0, vR (some 50)), (1, vR (some 1))]) dX3_gatherEach_1 rfl (by decide) rfl ?_
  refine xbE h (fun M4 h5 h => ?_)
  refine V.pick [1, 2, 0] rfl ?_
  refine fX3_gatherEach_L2_ci (hS.le (by decide)) h5 ?_
  exact V_ret dX3_gatherEach_33 rfl (q_v h)
def fJ7_fill_53178_i4_L5 (n : Nat) (M : xM) (o0 : Nat) (v1 : Int) (v2 : Int) (v3 : Int) : Option (xM) := match n with
  | 0 => none
  | n + 1 => (if wr v2 < wr v3 then (xwt M o0 10 v2 v1 fun M1 => fJ7_fill_53178_i4_L5 n M1 o0 v1 (v2 + 1) v3) else some M)
set_option maxRecDepth 20000 in
set_option maxHeartbeats 1000000 in
theorem fJ7_fill_53178_i4_L5_c {S : xS} {kp : Option Nat} (hS : xSk kp 0 S) {Q : Option xV → xS → xM → Prop} :
    ∀ (n : Nat) (M : xM) (o0 : Nat) (v1 : Int) (v2 : Int) (v3 : Int) {Mz : xM}, S[o0]? = some (100, 10, []) → fJ7_fill_53178_i4_L5 n M o0 v1 v2 v3 = some Mz → V Y_J7_fill_53178 0 0 0 20 [] [] S Mz Q → V Y_J7_fill_53178 0 0 0 5 [(0, vR (some o0)), (1, vI v1), (2, vI v2), (3, vI v3)] [] S M Q := by
  intro n
  induction n with
  | zero =>
    intro M o0 v1 v2 v3 Mz ho0 h k
    cases h
  | succ n ih =>
    intro M o0 v1 v2 v3 Mz ho0 h k
    rw [fJ7_fill_53178_i4_L5] at h
    refine V_iload_n dJ7_fill_53178_5 rfl (xm 2 rfl) ?_
    refine V_iload_n dJ7_fill_53178_6 rfl (xm 3 rfl) ?_
    refine V_icmp_ge (tgt := 20) dJ7_fill_53178_7 (by decide) h (fun _ h => ?_) (fun _ h => ?_)
    · refine V_aload_n dJ7_fill_53178_10 rfl (xm 0 rfl) ?_
      refine V_iload_n dJ7_fill_53178_11 rfl (xm 2 rfl) ?_
      refine V_iload_n dJ7_fill_53178_12 rfl (xm 1 rfl) ?_
      refine T_iast dJ7_fill_53178_13 ho0 rfl h (fun M1 h => ?_)
      refine V_iinc (ls' := [(2, vI (v2 + 1)), (0, vR (some o0)), (1, vI v1), (3, vI v3)]) dJ7_fill_53178_14 (xm 2 rfl) (by decide) rfl ?_
      refine V_goto (tgt := 5) dJ7_fill_53178_17 (by decide) ?_
      refine V.pick [1, 2, 0, 3] rfl ?_
      exact ih M1 o0 v1 (v2 + 1) v3 ho0 h k
    · cases h
      refine V.pick [] rfl ?_
      exact k
theorem fJ7_fill_53178_i4_L5_ci {S : xS} {kp : Option Nat} (hS : xSk kp 0 S) {Q : Option xV → xS → xM → Prop} {n : Nat} {M : xM} {o0 : Nat} {v1 : Int} {v2 : Int} {v3 : Int} {Mz : xM} (ho0 : S[o0]? = some (100, 10, [])) (hl : fJ7_fill_53178_i4_L5 n M o0 v1 v2 v3 = some Mz) (k : V Y_J7_fill_53178 0 0 0 20 [] [] S Mz Q) : V Y_J7_fill_53178 0 0 0 5 [(0, vR (some o0)), (1, vI v1), (2, vI v2), (3, vI v3)] [] S M Q := fJ7_fill_53178_i4_L5_c hS _ _ _ _ _ _ ho0 hl k
def fJ7_fill_53178_i4 (M : xM) (o0 : Nat) (v1 : Int) : Option xM := xb (fJ7_fill_53178_i4_L5 xfuel M o0 v1 0 10) fun M2 => some M2
set_option maxRecDepth 20000 in
set_option maxHeartbeats 1000000 in
theorem fJ7_fill_53178_i4_c {S : xS} {kp : Option Nat} (hS : xSk kp 0 S) {M : xM} {o0 : Nat} {v1 : Int} (ho0 : S[o0]? = some (100, 10, [])) {E : xM} (h : fJ7_fill_53178_i4 M o0 v1 = some E) :
    V Y_J7_fill_53178 0 0 0 0 (xarg 0 [vR (some o0), vI v1]) [] S M (xqR S E none) := by
  unfold fJ7_fill_53178_i4 at h
  show V Y_J7_fill_53178 0 0 0 0 [(0, vR (some o0)), (1, vI v1)] [] S M _
  refine V_iconst dJ7_fill_53178_0 ?_
  refine V_istore_n (ls' := [(2, vI 0), (0, vR (some o0)), (1, vI v1)]) dJ7_fill_53178_1 rfl (by decide) rfl ?_
  refine V_aload_n dJ7_fill_53178_2 rfl (xm 1 rfl) ?_
  refine V_alen (x := 10) dJ7_fill_53178_3 ho0 (by decide) rfl ?_
  refine V_istore_n (ls' := [(3, vI 10), (2, vI 0), (0, vR (some o0)), (1, vI v1)]) dJ7_fill_53178_4 rfl (by decide) rfl ?_
  refine xbE h (fun M2 h3 h => ?_)
  refine V.pick [2, 3, 1, 0] rfl ?_
  refine fJ7_fill_53178_i4_L5_ci (hS.le (by decide)) ho0 h3 ?_
  exact V_ret dJ7_fill_53178_20 rfl (q_v h)
def fX3_weighTried_L28 (n : Nat) (M : xM) (v1 : Int) (o2 : Nat) (v3 : Int) (v4 : Int) (v5 : Int) : Option (Int × Int) := match n with
  | 0 => none
  | n + 1 => (if wr v5 < wr v1 then (xrd M o2 10 v5 fun r4 => xrd M o2 10 v5 fun r5 => fX3_weighTried_L28 n M v1 o2 (xmin v3 r4) (v4 + r5) (v5 + 1)) else some (v3, v4))
set_option maxRecDepth 20000 in
set_option maxHeartbeats 1000000 in
theorem fX3_weighTried_L28_c {S : xS} {kp : Option Nat} (hS : xSk kp 0 S) {Q : Option xV → xS → xM → Prop} :
    ∀ (n : Nat) (M : xM) (v1 : Int) (o2 : Nat) (v3 : Int) (v4 : Int) (v5 : Int) {x3 : Int} {x4 : Int}, S[o2]? = some (100, 10, []) → fX3_weighTried_L28 n M v1 o2 v3 v4 v5 = some (x3, x4) → V Y_X3_weighTried 1 0 0 58 [(0, vR (some 50)), (3, vI x3), (4, vI x4)] [] S M Q → V Y_X3_weighTried 1 0 0 28 [(0, vR (some 50)), (1, vI v1), (2, vR (some o2)), (3, vI v3), (4, vI v4), (5, vI v5)] [] S M Q := by
  intro n
  induction n with
  | zero =>
    intro M v1 o2 v3 v4 v5 x3 x4 ho2 h k
    cases h
  | succ n ih =>
    intro M v1 o2 v3 v4 v5 x3 x4 ho2 h k
    rw [fX3_weighTried_L28] at h
    refine V_iload dX3_weighTried_28 (xm 5 rfl) ?_
    refine V_iload_n dX3_weighTried_30 rfl (xm 1 rfl) ?_
    refine V_icmp_ge (tgt := 58) dX3_weighTried_31 (by decide) h (fun _ h => ?_) (fun _ h => ?_)
    · refine V_iload_n dX3_weighTried_34 rfl (xm 3 rfl) ?_
      refine V_aload_n dX3_weighTried_35 rfl (xm 2 rfl) ?_
      refine V_iload dX3_weighTried_36 (xm 5 rfl) ?_
      refine T_iald dX3_weighTried_38 ho2 rfl h (fun r4 h => ?_)
      refine V_mmin dX3_weighTried_39 mt_X3_92 (by decide) (Nat.le_of_ble_eq_true rfl) ?_
      refine V_istore_n (ls' := [(3, vI (xmin v3 r4)), (0, vR (some 50)), (1, vI v1), (2, vR (some o2)), (4, vI v4), (5, vI v5)]) dX3_weighTried_42 rfl (by decide) rfl ?_
      refine V_iload dX3_weighTried_43 (xm 4 rfl) ?_
      refine V_aload_n dX3_weighTried_45 rfl (xm 3 rfl) ?_
      refine V_iload dX3_weighTried_46 (xm 5 rfl) ?_
      refine T_iald dX3_weighTried_48 ho2 rfl h (fun r5 h => ?_)
      refine V_iadd dX3_weighTried_49 ?_
      refine V_istore (ls' := [(4, vI (v4 + r5)), (3, vI (xmin v3 r4)), (0, vR (some 50)), (1, vI v1), (2, vR (some o2)), (5, vI v5)]) dX3_weighTried_50 (by decide) rfl ?_
      refine V_iinc (ls' := [(5, vI (v5 + 1)), (4, vI (v4 + r5)), (3, vI (xmin v3 r4)), (0, vR (some 50)), (1, vI v1), (2, vR (some o2))]) dX3_weighTried_52 (xm 5 rfl) (by decide) rfl ?_
      refine V_goto (tgt := 28) dX3_weighTried_55 (by decide) ?_
      refine V.pick [3, 4, 5, 2, 1, 0] rfl ?_
      exact ih M v1 o2 (xmin v3 r4) (v4 + r5) (v5 + 1) ho2 h k
    · cases h
      refine V.pick [0, 3, 4] rfl ?_
      exact k
theorem fX3_weighTried_L28_ci {S : xS} {kp : Option Nat} (hS : xSk kp 0 S) {Q : Option xV → xS → xM → Prop} {n : Nat} {M : xM} {v1 : Int} {o2 : Nat} {v3 : Int} {v4 : Int} {v5 : Int} {x3 : Int} {x4 : Int} (ho2 : S[o2]? = some (100, 10, [])) (hl : fX3_weighTried_L28 n M v1 o2 v3 v4 v5 = some (x3, x4)) (k : V Y_X3_weighTried 1 0 0 58 [(0, vR (some 50)), (3, vI x3), (4, vI x4)] [] S M Q) : V Y_X3_weighTried 1 0 0 28 [(0, vR (some 50)), (1, vI v1), (2, vR (some o2)), (3, vI v3), (4, vI v4), (5, vI v5)] [] S M Q := fX3_weighTried_L28_c hS _ _ _ _ _ _ _ ho2 hl k
def fX3_weighTried (M : xM) (v1 : Int) : Option xM := xix 7 (M 50 1) (xj (fun (s2 : Int) => xb2 (fX3_weighTried_L28 xfuel M v1 (67 + (wr (M 50 1)).toNat) s2 0 0) fun y6 y7 => xj (fun (_ : Unit) => xlet (xup M 50 11 1) fun M10 => xlet (xup M10 50 9 y6) fun M11 => xlet (xup M11 50 10 y7) fun M12 => xcp M12 65 6 0 64 30 0 (M12 50 1) fun M13 => some M13) fun j9 => (if wr (M 50 11) = 0 then j9 () else (if wr (M 50 9) < wr y6 then j9 () else (if wr y6 = wr (M 50 9) then (if wr (M 50 10) < wr y7 then j9 () else some M) else some M)))) fun j3 => (if 0 < wr v1 then j3 (M (67 + (wr (M 50 1)).toNat) 0) else j3 0))
set_option maxRecDepth 20000 in
set_option maxHeartbeats 1000000 in
theorem fX3_weighTried_c {S : xS} {kp : Option Nat} (hS : xSk kp 75 S) {M : xM} {v1 : Int} {E : xM} (h : fX3_weighTried M v1 = some E) :
    V Y_X3_weighTried 1 0 0 0 (xarg 0 [vR (some 50), vI v1]) [] S M (xqR S E none) := by
  unfold fX3_weighTried at h
  show V Y_X3_weighTried 1 0 0 0 [(0, vR (some 50)), (1, vI v1)] [] S M _
  refine V_aload_n dX3_weighTried_0 rfl (xm 0 rfl) ?_
  refine V_getR dX3_weighTried_1 fl_X3_29 (sk_50 hS (by decide)) rfl ?_
  refine V_aload_n dX3_weighTried_4 rfl (xm 0 rfl) ?_
  refine V_getI (kI := 1) dX3_weighTried_5 fl_X3_39 (sk_50 hS (by decide)) rfl rfl ?_
  obtain ⟨c1, h⟩ := xixE h
  refine V_aald (r := 67 + (wr (M 50 1)).toNat) dX3_weighTried_8 (sk_66 hS (by decide)) (by decide) c1 (rw_66 c1) ?_
  refine V_astore_n (ls' := [(2, vR (some (67 + (wr (M 50 1)).toNat))), (0, vR (some 50)), (1, vI v1)]) dX3_weighTried_9 rfl (by decide) rfl ?_
  refine V_iload_n dX3_weighTried_10 rfl (xm 2 rfl) ?_
  refine xjE h (fun j3 hj3 h => ?_)
  have kj3 : ∀ (s2 : Int), j3 s2 = some E → V Y_X3_weighTried 1 0 0 21 [(0, vR (some 50)), (1, vI v1), (2, vR (some (67 + (wr (M 50 1)).toNat)))] [vI s2] S M (xqR S E none) := by
    intro s2 h
    rw [hj3] at h
    refine V_istore_n (ls' := [(3, vI s2), (0, vR (some 50)), (1, vI v1), (2, vR (some (67 + (wr (M 50 1)).toNat)))]) dX3_weighTried_21 rfl (by decide) rfl ?_
    refine V_iconst dX3_weighTried_22 ?_
    refine V_istore (ls' := [(4, vI 0), (3, vI s2), (0, vR (some 50)), (1, vI v1), (2, vR (some (67 + (wr (M 50 1)).toNat)))]) dX3_weighTried_23 (by decide) rfl ?_
    refine V_iconst dX3_weighTried_25 ?_
    refine V_istore (ls' := [(5, vI 0), (4, vI 0), (3, vI s2), (0, vR (some 50)), (1, vI v1), (2, vR (some (67 + (wr (M 50 1)).toNat)))]) dX3_weighTried_26 (by decide) rfl ?_
    refine xb2E h (fun y6 y7 h8 h => ?_)
    refine V.pick [3, 4, 5, 2, 1, 0] rfl ?_
    refine fX3_weighTried_L28_ci (hS.le (by decide)) (rs_66 hS (by decide) c1) h8 ?_
    refine V_aload_n dX3_weighTried_58 rfl (xm 0 rfl) ?_
    refine V_getI (kI := 11) dX3_weighTried_59 fl_X3_121 (sk_50 hS (by decide)) rfl rfl ?_
    refine xjE h (fun j9 hj9 h => ?_)
    have kj9 : ∀ (u : Unit), j9 u = some E → V Y_X3_weighTried 1 0 0 90 [(0, vR (some 50)), (3, vI y6), (4, vI y7)] [] S M (xqR S E none) := by
      intro u h
      rw [hj9] at h
      refine V_aload_n dX3_weighTried_90 rfl (xm 0 rfl) ?_
      refine V_iconst dX3_weighTried_91 ?_
      refine T_putZ (kI := 11) (b := true) dX3_weighTried_92 fp_X3_121 (sk_50 hS (by decide)) rfl rfl (by decide) h (fun M10 h => ?_)
      refine V_aload_n dX3_weighTried_95 rfl (xm 0 rfl) ?_
      refine V_iload_n dX3_weighTried_96 rfl (xm 1 rfl) ?_
      refine T_putI (kI := 9) dX3_weighTried_97 fp_X3_139 (sk_50 hS (by decide)) rfl rfl h (fun M11 h => ?_)
      refine V_aload_n dX3_weighTried_100 rfl (xm 0 rfl) ?_
      refine V_iload dX3_weighTried_101 (xm 2 rfl) ?_
      refine T_putI (kI := 10) dX3_weighTried_103 fp_X3_142 (sk_50 hS (by decide)) rfl rfl h (fun M12 h => ?_)
      refine V_aload_n dX3_weighTried_106 rfl (xm 0 rfl) ?_
      refine V_getR dX3_weighTried_107 fl_X3_26 (sk_50 hS (by decide)) rfl ?_
      refine V_iconst dX3_weighTried_110 ?_
      refine V_aload_n dX3_weighTried_111 rfl (xm 0 rfl) ?_
      refine V_getR dX3_weighTried_112 fl_X3_23 (sk_50 hS (by decide)) rfl ?_
      refine V_iconst dX3_weighTried_115 ?_
      refine V_aload_n dX3_weighTried_116 rfl (xm 0 rfl) ?_
      refine V_getI (kI := 1) dX3_weighTried_117 fl_X3_39 (sk_50 hS (by decide)) rfl rfl ?_
      refine T_copy dX3_weighTried_120 cp_X3_145 (sk_65 hS (by decide)) (sk_64 hS (by decide)) rfl rfl (by decide) (Nat.le_of_ble_eq_true rfl) h (fun M13 h => ?_)
      exact V_ret dX3_weighTried_123 rfl (q_v h)
    refine V_if_eq (tgt := 90) dX3_weighTried_62 (by decide) h (fun _ h => ?_) (fun _ h => ?_)
    · refine V.pick [0, 1, 2] rfl ?_
      exact kj9 () h
    · refine V_iload_n dX3_weighTried_65 rfl (xm 1 rfl) ?_
      refine V_aload_n dX3_weighTried_66 rfl (xm 0 rfl) ?_
      refine V_getI (kI := 9) dX3_weighTried_67 fl_X3_139 (sk_50 hS (by decide)) rfl rfl ?_
      refine V_icmp_gt (tgt := 90) dX3_weighTried_70 (by decide) h (fun _ h => ?_) (fun _ h => ?_)
      · refine V.pick [0, 1, 2] rfl ?_
        exact kj9 () h
      · refine V_iload_n dX3_weighTried_73 rfl (xm 1 rfl) ?_
        refine V_aload_n dX3_weighTried_74 rfl (xm 0 rfl) ?_
        refine V_getI (kI := 9) dX3_weighTried_75 fl_X3_139 (sk_50 hS (by decide)) rfl rfl ?_
        refine V_icmp_ne (tgt := 123) dX3_weighTried_78 (by decide) h (fun _ h => ?_) (fun _ h => ?_)
        · refine V_iload dX3_weighTried_81 (xm 2 rfl) ?_
          refine V_aload_n dX3_weighTried_83 rfl (xm 0 rfl) ?_
          refine V_getI (kI := 10) dX3_weighTried_84 fl_X3_142 (sk_50 hS (by decide)) rfl rfl ?_
          refine V_icmp_le (tgt := 123) dX3_weighTried_87 (by decide) h (fun _ h => ?_) (fun _ h => ?_)
          · refine V.pick [0, 1, 2] rfl ?_
            exact kj9 () h
          · exact V_ret dX3_weighTried_123 rfl (q_v h)
        · exact V_ret dX3_weighTried_123 rfl (q_v h)
  refine V_if_le (tgt := 20) dX3_weighTried_11 (by decide) h (fun _ h => ?_) (fun _ h => ?_)
  · refine V_aload_n dX3_weighTried_14 rfl (xm 0 rfl) ?_
    refine V_iconst dX3_weighTried_15 ?_
    refine V_ialdK (j := 0) dX3_weighTried_16 (rs_66 hS (by decide) c1) (by decide) (by decide) ?_
    refine V_goto (tgt := 21) dX3_weighTried_17 (by decide) ?_
    refine V.pick [1, 2, 0] rfl ?_
    exact kj3 (M (67 + (wr (M 50 1)).toNat) 0) h
  · refine V_iconst dX3_weighTried_20 ?_
    refine V.pick [1, 2, 0] rfl ?_
    exact kj3 0 h
def fX3_tryTurns_L56 (rc : xM → Int → Int → Int → Option (xM)) (n : Nat) (M : xM) (v1 : Int) (v2 : Int) (v3 : Int) (v4 : Int) (v5 : Int) (v6 : Int) (v7 : Int) : Option (xM) := match n with
  | 0 => none
  | n + 1 => (if wr v7 < wr v1 then (xix 7 (v2 + 1) (xix 7 v2 (xrd M (67 + (wr v2).toNat) 10 v7 fun r7 => xix 10 v7 (xrd M (53 + (wr v7).toNat) 156 v6 fun r9 => xwt M (67 + (wr (v2 + 1)).toNat) 10 v7 (r7 + r9) fun M10 => fX3_tryTurns_L56 rc n M10 v1 v2 v3 v4 v5 v6 (v7 + 1))))) else some M)
set_option maxRecDepth 20000 in
set_option maxHeartbeats 1000000 in
theorem fX3_tryTurns_L56_c {S : xS} {kp : Option Nat} (hS : xSk kp 75 S) {Q : Option xV → xS → xM → Prop} {m : Nat} {rc : xM → Int → Int → Int → Option (xM)} (hm : 2 ≤ m) (ih0 : ∀ {M : xM} {v1 : Int} {v2 : Int} {v3 : Int} {E : xM}, rc M v1 v2 v3 = some E → V Y_X3_tryTurns m 0 0 0 (xarg 0 [vR (some 50), vI v1, vI v2, vI v3]) [] S M (xqR S E none)) :
    ∀ (n : Nat) (M : xM) (v1 : Int) (v2 : Int) (v3 : Int) (v4 : Int) (v5 : Int) (v6 : Int) (v7 : Int) {Mz : xM}, fX3_tryTurns_L56 rc n M v1 v2 v3 v4 v5 v6 v7 = some Mz → V Y_X3_tryTurns (m + 1) 0 0 99 [(0, vR (some 50)), (1, vI v1), (2, vI v2), (3, vI v3), (4, vI v4), (5, vI v5)] [] S Mz Q → V Y_X3_tryTurns (m + 1) 0 0 56 [(0, vR (some 50)), (1, vI v1), (2, vI v2), (3, vI v3), (4, vI v4), (5, vI v5), (6, vI v6), (7, vI v7)] [] S M Q := by
  intro n
  induction n with
  | zero =>
    intro M v1 v2 v3 v4 v5 v6 v7 Mz h k
    cases h
  | succ n ih =>
    intro M v1 v2 v3 v4 v5 v6 v7 Mz h k
    rw [fX3_tryTurns_L56] at h
    refine V_iload dX3_tryTurns_56 (xm 7 rfl) ?_
    refine V_iload_n dX3_tryTurns_58 rfl (xm 1 rfl) ?_
    refine V_icmp_ge (tgt := 99) dX3_tryTurns_59 (by decide) h (fun _ h => ?_) (fun _ h => ?_)
    · refine V_aload_n dX3_tryTurns_62 rfl (xm 0 rfl) ?_
      refine V_getR dX3_tryTurns_63 fl_X3_29 (sk_50 hS (by decide)) rfl ?_
      refine V_iload_n dX3_tryTurns_66 rfl (xm 2 rfl) ?_
      refine V_iconst dX3_tryTurns_67 ?_
      refine V_iadd dX3_tryTurns_68 ?_
      obtain ⟨c5, h⟩ := xixE h
      refine V_aald (r := 67 + (wr (v2 + 1)).toNat) dX3_tryTurns_69 (sk_66 hS (by decide)) (by decide) c5 (rw_66 c5) ?_
      refine V_iload dX3_tryTurns_70 (xm 7 rfl) ?_
      refine V_aload_n dX3_tryTurns_72 rfl (xm 0 rfl) ?_
      refine V_getR dX3_tryTurns_73 fl_X3_29 (sk_50 hS (by decide)) rfl ?_
      refine V_iload_n dX3_tryTurns_76 rfl (xm 2 rfl) ?_
      obtain ⟨c6, h⟩ := xixE h
      refine V_aald (r := 67 + (wr v2).toNat) dX3_tryTurns_77 (sk_66 hS (by decide)) (by decide) c6 (rw_66 c6) ?_
      refine V_iload dX3_tryTurns_78 (xm 7 rfl) ?_
      refine T_iald dX3_tryTurns_80 (rs_66 hS (by decide) c6) rfl h (fun r7 h => ?_)
      refine V_aload_n dX3_tryTurns_81 rfl (xm 0 rfl) ?_
      refine V_getR dX3_tryTurns_82 fl_X3_17 (sk_50 hS (by decide)) rfl ?_
      refine V_iload dX3_tryTurns_85 (xm 7 rfl) ?_
      obtain ⟨c8, h⟩ := xixE h
      refine V_aald (r := 53 + (wr v7).toNat) dX3_tryTurns_87 (sk_52 hS (by decide)) (by decide) c8 (rw_52 c8) ?_
      refine V_iload dX3_tryTurns_88 (xm 6 rfl) ?_
      refine T_iald dX3_tryTurns_90 (rs_52 hS (by decide) c8) rfl h (fun r9 h => ?_)
      refine V_iadd dX3_tryTurns_91 ?_
      refine T_iast dX3_tryTurns_92 (rs_66 hS (by decide) c5) rfl h (fun M10 h => ?_)
      refine V_iinc (ls' := [(7, vI (v7 + 1)), (0, vR (some 50)), (1, vI v1), (2, vI v2), (3, vI v3), (4, vI v4), (5, vI v5), (6, vI v6)]) dX3_tryTurns_93 (xm 7 rfl) (by decide) rfl ?_
      refine V_goto (tgt := 56) dX3_tryTurns_96 (by decide) ?_
      refine V.pick [1, 2, 3, 4, 5, 6, 7, 0] rfl ?_
      exact ih M10 v1 v2 v3 v4 v5 v6 (v7 + 1) h k
    · cases h
      refine V.pick [0, 1, 2, 3, 4, 5] rfl ?_
      exact k
theorem fX3_tryTurns_L56_ci {S : xS} {kp : Option Nat} (hS : xSk kp 75 S) {Q : Option xV → xS → xM → Prop} {m : Nat} {rc : xM → Int → Int → Int → Option (xM)} (hm : 2 ≤ m) (ih0 : ∀ {M : xM} {v1 : Int} {v2 : Int} {v3 : Int} {E : xM}, rc M v1 v2 v3 = some E → V Y_X3_tryTurns m 0 0 0 (xarg 0 [vR (some 50), vI v1, vI v2, vI v3]) [] S M (xqR S E none)) {n : Nat} {M : xM} {v1 : Int} {v2 : Int} {v3 : Int} {v4 : Int} {v5 : Int} {v6 : Int} {v7 : Int} {Mz : xM} (hl : fX3_tryTurns_L56 rc n M v1 v2 v3 v4 v5 v6 v7 = some Mz) (k : V Y_X3_tryTurns (m + 1) 0 0 99 [(0, vR (some 50)), (1, vI v1), (2, vI v2), (3, vI v3), (4, vI v4), (5, vI v5)] [] S Mz Q) : V Y_X3_tryTurns (m + 1) 0 0 56 [(0, vR (some 50)), (1, vI v1), (2, vI v2), (3, vI v3), (4, vI v4), (5, vI v5), (6, vI v6), (7, vI v7)] [] S M Q := fX3_tryTurns_L56_c hS hm ih0 _ _ _ _ _ _ _ _ _ hl k
def fX3_tryTurns_L23 (rc : xM → Int → Int → Int → Option (xM)) (n : Nat) (M : xM) (v1 : Int) (v2 : Int) (v3 : Int) (v4 : Int) : Option (xM) := match n with
  | 0 => none
  | n + 1 => (if wr v4 < wr 3 then (xtb [0, 1, -1] 3 v4 fun r4 => xb (fX3_tryTurns_L56 rc xfuel M v1 v2 v3 v4 r4 (fX3_cellOf M v2 (v3 + r4) r4) 0) fun M11 => xwt M11 65 6 v2 r4 fun M13 => xb (rc M13 v1 (v2 + 1) (v3 + r4)) fun M15 => fX3_tryTurns_L23 rc n M15 v1 v2 v3 (v4 + 1)) else some M)
set_option maxRecDepth 20000 in
set_option maxHeartbeats 1000000 in
theorem fX3_tryTurns_L23_c {S : xS} {kp : Option Nat} (hS : xSk kp 75 S) {Q : Option xV → xS → xM → Prop} {m : Nat} {rc : xM → Int → Int → Int → Option (xM)} (hm : 2 ≤ m) (ih0 : ∀ {M : xM} {v1 : Int} {v2 : Int} {v3 : Int} {E : xM}, rc M v1 v2 v3 = some E → V Y_X3_tryTurns m 0 0 0 (xarg 0 [vR (some 50), vI v1, vI v2, vI v3]) [] S M (xqR S E none)) :
    ∀ (n : Nat) (M : xM) (v1 : Int) (v2 : Int) (v3 : Int) (v4 : Int) {Mz : xM}, fX3_tryTurns_L23 rc n M v1 v2 v3 v4 = some Mz → V Y_X3_tryTurns (m + 1) 0 0 125 [] [] S Mz Q → V Y_X3_tryTurns (m + 1) 0 0 23 [(0, vR (some 50)), (1, vI v1), (2, vI v2), (3, vI v3), (4, vI v4)] [] S M Q := by
  intro n
  induction n with
  | zero =>
    intro M v1 v2 v3 v4 Mz h k
    cases h
  | succ n ih =>
    intro M v1 v2 v3 v4 Mz h k
    rw [fX3_tryTurns_L23] at h
    refine V_iload dX3_tryTurns_23 (xm 4 rfl) ?_
    refine V_getsN (host := "TurnedIsland") dX3_tryTurns_25 (by decide +kernel : ("TurnedIsland", "ORDER", "[I", 1) ∈ xZR) (by decide +kernel) ?_
    refine V_tlen (tb := [0, 1, -1]) dX3_tryTurns_28 (by decide +kernel) rfl ?_
    refine V_icmp_ge (tgt := 125) dX3_tryTurns_29 (by decide) h (fun _ h => ?_) (fun _ h => ?_)
    · refine V_getsN (host := "TurnedIsland") dX3_tryTurns_32 (by decide +kernel : ("TurnedIsland", "ORDER", "[I", 1) ∈ xZR) (by decide +kernel) ?_
      refine V_iload dX3_tryTurns_35 (xm 4 rfl) ?_
      refine T_tald (tb := [0, 1, -1]) dX3_tryTurns_37 (by decide +kernel) rfl h (fun r4 h => ?_)
      refine V_istore (ls' := [(5, vI r4), (0, vR (some 50)), (1, vI v1), (2, vI v2), (3, vI v3), (4, vI v4)]) dX3_tryTurns_38 (by decide) rfl ?_
      refine V_aload_n dX3_tryTurns_40 rfl (xm 1 rfl) ?_
      refine V_iload_n dX3_tryTurns_41 rfl (xm 3 rfl) ?_
      refine V_iload_n dX3_tryTurns_42 rfl (xm 4 rfl) ?_
      refine V_iload dX3_tryTurns_43 (xm 0 rfl) ?_
      refine V_iadd dX3_tryTurns_45 ?_
      refine V_iload dX3_tryTurns_46 (xm 0 rfl) ?_
      refine T_callVI dX3_tryTurns_48 ok_X3_cellOf (by exact ⟨by decide, rfl⟩) lk_X3_73.1 lk_X3_73.2 (sk_50 hS (by decide)) (hV := ((fX3_cellOf_c (hS.le (by decide)) rfl).mono (by omega) (Nat.le_refl _) (Nat.le_refl _))) rfl (Nat.le_of_ble_eq_true rfl) rfl (Nat.le_of_ble_eq_true rfl) ?_
      refine V_istore (ls' := [(6, vI (fX3_cellOf M v2 (v3 + r4) r4)), (5, vI r4), (0, vR (some 50)), (1, vI v1), (2, vI v2), (3, vI v3), (4, vI v4)]) dX3_tryTurns_51 (by decide) rfl ?_
      refine V_iconst dX3_tryTurns_53 ?_
      refine V_istore (ls' := [(7, vI 0), (6, vI (fX3_cellOf M v2 (v3 + r4) r4)), (5, vI r4), (0, vR (some 50)), (1, vI v1), (2, vI v2), (3, vI v3), (4, vI v4)]) dX3_tryTurns_54 (by decide) rfl ?_
      refine xbE h (fun M11 h12 h => ?_)
      refine V.pick [3, 4, 5, 6, 7, 2, 1, 0] rfl ?_
      refine fX3_tryTurns_L56_ci (hS.le (by decide)) hm ih0 h12 ?_
      refine V_aload_n dX3_tryTurns_99 rfl (xm 0 rfl) ?_
      refine V_getR dX3_tryTurns_100 fl_X3_26 (sk_50 hS (by decide)) rfl ?_
      refine V_iload_n dX3_tryTurns_103 rfl (xm 2 rfl) ?_
      refine V_iload dX3_tryTurns_104 (xm 5 rfl) ?_
      refine T_iast dX3_tryTurns_106 (sk_65 hS (by decide)) rfl h (fun M13 h => ?_)
      refine V_aload_n dX3_tryTurns_107 rfl (xm 0 rfl) ?_
      refine V_iload_n dX3_tryTurns_108 rfl (xm 1 rfl) ?_
      refine V_iload_n dX3_tryTurns_109 rfl (xm 2 rfl) ?_
      refine V_iconst dX3_tryTurns_110 ?_
      refine V_iadd dX3_tryTurns_111 ?_
      refine V_iload_n dX3_tryTurns_112 rfl (xm 3 rfl) ?_
      refine V_iload dX3_tryTurns_113 (xm 5 rfl) ?_
      refine V_iadd dX3_tryTurns_115 ?_
      refine xbE h (fun M15 h14 h => ?_)
      refine T_callVv dX3_tryTurns_116 ok_X3_tryTurns (by exact ⟨by decide, rfl⟩) lk_X3_131.1 lk_X3_131.2 (sk_50 hS (by decide)) (hV := (ih0 h14)) rfl (Nat.le_of_ble_eq_true rfl) rfl (Nat.le_of_ble_eq_true rfl) ?_
      refine V_iinc (ls' := [(4, vI (v4 + 1)), (0, vR (some 50)), (1, vI v1), (2, vI v2), (3, vI v3), (5, vI r4)]) dX3_tryTurns_119 (xm 4 rfl) (by decide) rfl ?_
      refine V_goto (tgt := 23) dX3_tryTurns_122 (by decide) ?_
      refine V.pick [1, 2, 3, 4, 0] rfl ?_
      exact ih M15 v1 v2 v3 (v4 + 1) h k
    · cases h
      refine V.pick [] rfl ?_
      exact k
theorem fX3_tryTurns_L23_ci {S : xS} {kp : Option Nat} (hS : xSk kp 75 S) {Q : Option xV → xS → xM → Prop} {m : Nat} {rc : xM → Int → Int → Int → Option (xM)} (hm : 2 ≤ m) (ih0 : ∀ {M : xM} {v1 : Int} {v2 : Int} {v3 : Int} {E : xM}, rc M v1 v2 v3 = some E → V Y_X3_tryTurns m 0 0 0 (xarg 0 [vR (some 50), vI v1, vI v2, vI v3]) [] S M (xqR S E none)) {n : Nat} {M : xM} {v1 : Int} {v2 : Int} {v3 : Int} {v4 : Int} {Mz : xM} (hl : fX3_tryTurns_L23 rc n M v1 v2 v3 v4 = some Mz) (k : V Y_X3_tryTurns (m + 1) 0 0 125 [] [] S Mz Q) : V Y_X3_tryTurns (m + 1) 0 0 23 [(0, vR (some 50)), (1, vI v1), (2, vI v2), (3, vI v3), (4, vI v4)] [] S M Q := fX3_tryTurns_L23_c hS hm ih0 _ _ _ _ _ _ hl k
def fX3_tryTurns (n : Nat) (M : xM) (v1 : Int) (v2 : Int) (v3 : Int) : Option (xM) := match n with
  | 0 => none
  | n + 1 => xj (fun (_ : Unit) => xb (fX3_weighTried M v1) fun M3 => some M3) fun j1 => (if wr v2 < wr (M 50 1) then (if wr v2 < wr 6 then (xb (fX3_tryTurns_L23 (fX3_tryTurns n) xfuel M v1 v2 v3 0) fun M16 => some M16) else j1 ()) else j1 ())
set_option maxRecDepth 20000 in
set_option maxHeartbeats 1000000 in
theorem fX3_tryTurns_c {S : xS} {kp : Option Nat} (hS : xSk kp 75 S) : ∀ n : Nat, (∀ {M : xM} {v1 : Int} {v2 : Int} {v3 : Int} {E : xM}, fX3_tryTurns n M v1 v2 v3 = some E → V Y_X3_tryTurns (n + 2) 0 0 0 (xarg 0 [vR (some 50), vI v1, vI v2, vI v3]) [] S M (xqR S E none)) := by
  intro n
  induction n with
  | zero => exact fun h => by cases h
  | succ n ih =>
    have ih0 := @ih
    have e9 : n + 1 + 2 = n + 2 + 1 := by omega
    rw [e9]
    intro M v1 v2 v3 E h
    rw [fX3_tryTurns] at h
    show V Y_X3_tryTurns _ 0 0 0 [(0, vR (some 50)), (1, vI v1), (2, vI v2), (3, vI v3)] [] S M _
    refine V_iload_n dX3_tryTurns_0 rfl (xm 2 rfl) ?_
    refine V_aload_n dX3_tryTurns_1 rfl (xm 0 rfl) ?_
    refine V_getI (kI := 1) dX3_tryTurns_2 fl_X3_39 (sk_50 hS (by decide)) rfl rfl ?_
    refine xjE h (fun j1 hj1 h => ?_)
    have kj1 : ∀ (u : Unit), j1 u = some E → V Y_X3_tryTurns (n + 2 + 1) 0 0 14 [(0, vR (some 50)), (1, vI v1)] [] S M (xqR S E none) := by
      intro u h
      rw [hj1] at h
      refine V_aload_n dX3_tryTurns_14 rfl (xm 0 rfl) ?_
      refine V_iload_n dX3_tryTurns_15 rfl (xm 1 rfl) ?_
      refine xbE h (fun M3 h2 h => ?_)
      refine T_callVv dX3_tryTurns_16 ok_X3_weighTried (by exact ⟨by decide, rfl⟩) lk_X3_135.1 lk_X3_135.2 (sk_50 hS (by decide)) (hV := ((fX3_weighTried_c (hS.le (by decide)) h2).mono (by omega) (Nat.le_refl _) (Nat.le_refl _))) rfl (Nat.le_of_ble_eq_true rfl) rfl (Nat.le_of_ble_eq_true rfl) ?_
      exact V_ret dX3_tryTurns_19 rfl (q_v h)
    refine V_icmp_ge (tgt := 14) dX3_tryTurns_5 (by decide) h (fun _ h => ?_) (fun _ h => ?_)
    · refine V_iload_n dX3_tryTurns_8 rfl (xm 2 rfl) ?_
      refine V_bipush dX3_tryTurns_9 (by decide) ?_
      refine V_icmp_lt (tgt := 20) dX3_tryTurns_11 (by decide) h (fun _ h => ?_) (fun _ h => ?_)
      · refine V_iconst dX3_tryTurns_20 ?_
        refine V_istore (ls' := [(4, vI 0), (0, vR (some 50)), (1, vI v1), (2, vI v2), (3, vI v3)]) dX3_tryTurns_21 (by decide) rfl ?_
        refine xbE h (fun M16 h17 h => ?_)
        refine V.pick [1, 2, 3, 4, 0] rfl ?_
        refine fX3_tryTurns_L23_ci (hS.le (by decide)) (m := n + 2) (by omega) ih0 h17 ?_
        exact V_ret dX3_tryTurns_125 rfl (q_v h)
      · refine V.pick [0, 1] rfl ?_
        exact kj1 () h
    · refine V.pick [0, 1] rfl ?_
      exact kj1 () h
def fX3_findFair (M : xM) (v2 : Int) : Option xM := xlet (xup M 50 1 v2) fun M1 => xb (fX3_gatherEach M1) fun M3 => xlet (xup M3 50 11 0) fun M4 => xix 7 0 (xb (fJ7_fill_53178_i4 M4 (67 + (wr 0).toNat) 0) fun M7 => xb (fX3_tryTurns 40 M7 (M7 5 0) 0 0) fun M9 => some M9)
set_option maxRecDepth 20000 in
set_option maxHeartbeats 1000000 in
theorem fX3_findFair_c {S : xS} {kp : Option Nat} (hS : xSk kp 75 S) {M : xM} {v2 : Int} {E : xM} (h : fX3_findFair M v2 = some E) :
    V Y_X3_findFair 43 0 0 0 (xarg 0 [vR (some 50), vR (some 1), vI v2]) [] S M (xqR S E none) := by
  unfold fX3_findFair at h
  show V Y_X3_findFair 43 0 0 0 [(0, vR (some 50)), (1, vR (some 1)), (2, vI v2)] [] S M _
  refine V_aload_n dX3_findFair_0 rfl (xm 0 rfl) ?_
  refine V_iload_n dX3_findFair_1 rfl (xm 2 rfl) ?_
  refine T_putI (kI := 1) dX3_findFair_2 fp_X3_39 (sk_50 hS (by decide)) rfl rfl h (fun M1 h => ?_)
  refine V_aload_n dX3_findFair_5 rfl (xm 0 rfl) ?_
  refine V_aload_n dX3_findFair_6 rfl (xm 1 rfl) ?_
  refine xbE h (fun M3 h2 h => ?_)
  refine T_callVv dX3_findFair_7 ok_X3_gatherEach (by exact ⟨by decide, rfl⟩) lk_X3_117.1 lk_X3_117.2 (sk_50 hS (by decide)) (hV := ((fX3_gatherEach_c (hS.le (by decide)) h2).mono (by decide) (Nat.le_refl _) (Nat.le_refl _))) rfl (Nat.le_of_ble_eq_true rfl) rfl (Nat.le_of_ble_eq_true rfl) ?_
  refine V_aload_n dX3_findFair_10 rfl (xm 0 rfl) ?_
  refine V_iconst dX3_findFair_11 ?_
  refine T_putZ (kI := 11) (b := false) dX3_findFair_12 fp_X3_121 (sk_50 hS (by decide)) rfl rfl (by decide) h (fun M4 h => ?_)
  refine V_aload_n dX3_findFair_15 rfl (xm 0 rfl) ?_
  refine V_getR dX3_findFair_16 fl_X3_29 (sk_50 hS (by decide)) rfl ?_
  refine V_iconst dX3_findFair_19 ?_
  obtain ⟨c5, h⟩ := xixE h
  refine V_aald (r := 67 + (wr 0).toNat) dX3_findFair_20 (sk_66 hS (by decide)) (by decide) c5 (rw_66 c5) ?_
  refine V_iconst dX3_findFair_21 ?_
  refine xbE h (fun M7 h6 h => ?_)
  refine T_callSv (host := "") dX3_findFair_22 ok_J7_fill_53178 lk_X3_125.1 lk_X3_125.2 (hV := ((fJ7_fill_53178_i4_c (hS.le (by decide)) (rs_66 hS (by decide) c5) h6).mono (by decide) (Nat.le_refl _) (Nat.le_refl _))) rfl (Nat.le_of_ble_eq_true rfl) rfl (Nat.le_of_ble_eq_true rfl) ?_
  refine V_aload_n dX3_findFair_25 rfl (xm 0 rfl) ?_
  refine V_aload_n dX3_findFair_26 rfl (xm 1 rfl) ?_
  refine V_getR dX3_findFair_27 fl_X3_55 (sk_1 hS (by decide)) rfl ?_
  refine V_getI (kI := 0) dX3_findFair_30 fl_X3_59 (sk_5 hS (by decide)) rfl rfl ?_
  refine V_iconst dX3_findFair_33 ?_
  refine V_iconst dX3_findFair_34 ?_
  refine xbE h (fun M9 h8 h => ?_)
  refine T_callVv dX3_findFair_35 ok_X3_tryTurns (by exact ⟨by decide, rfl⟩) lk_X3_131.1 lk_X3_131.2 (sk_50 hS (by decide)) (hV := (((fX3_tryTurns_c (hS.le (by decide)) 40) h8).mono (by decide) (Nat.le_refl _) (Nat.le_refl _))) rfl (Nat.le_of_ble_eq_true rfl) rfl (Nat.le_of_ble_eq_true rfl) ?_
  exact V_ret dX3_findFair_38 rfl (q_v h)
def fX11_fair (M : xM) (v1 : Int) (v2 : Int) : Option (Int × xM) := (if (fX11_within v1 1 6) = true then (xj (fun (_ : Unit) => xb (fX3_findFair M v1) fun M3 => (if wr v2 = 0 then some (M3 50 9, M3) else (if wr v2 = wr 1 then some (M3 50 10, M3) else (xrd M3 64 30 (v2 - 10) fun r4 => some (r4 + 2, M3))))) fun j1 => (if wr v2 = 0 then j1 () else (if wr v2 = wr 1 then j1 () else (if (fX11_isTurnOf v2 v1) = true then j1 () else some ((-1000000), M))))) else some ((-1000000), M))
set_option maxRecDepth 20000 in
set_option maxHeartbeats 1000000 in
theorem fX11_fair_c {S : xS} {kp : Option Nat} (hS : xSk kp 94 S) {M : xM} {v1 : Int} {v2 : Int} {E : Int × xM} (h : fX11_fair M v1 v2 = some E) :
    V Y_X11_fair 44 0 0 0 (xarg 0 [vR (some 0), vI v1, vI v2]) [] S M (xqR S E.2 (some (vI E.1))) := by
  unfold fX11_fair at h
  show V Y_X11_fair 44 0 0 0 [(0, vR (some 0)), (1, vI v1), (2, vI v2)] [] S M _
  refine V_iload_n dX11_fair_0 rfl (xm 1 rfl) ?_
  refine V_iconst dX11_fair_1 ?_
  refine V_bipush dX11_fair_2 (by decide) ?_
  refine T_callSI (host := "") dX11_fair_4 ok_X11_within lk_X11_60.1 lk_X11_60.2 (hV := ((fX11_within_c (hS.le (by decide)) rfl).mono (by decide) (Nat.le_refl _) (Nat.le_refl _))) rfl (Nat.le_of_ble_eq_true rfl) rfl (Nat.le_of_ble_eq_true rfl) ?_
  refine V_if_eqB (tgt := 27) dX11_fair_7 (by decide) h (fun _ h => ?_) (fun _ h => ?_)
  · refine V_iload_n dX11_fair_10 rfl (xm 2 rfl) ?_
    refine xjE h (fun j1 hj1 h => ?_)
    have kj1 : ∀ (u : Unit), j1 u = some E → V Y_X11_fair 44 0 0 31 [(0, vR (some 0)), (1, vI v1), (2, vI v2)] [] S M (xqR S E.2 (some (vI E.1))) := by
      intro u h
      rw [hj1] at h
      refine V_aload_n dX11_fair_31 rfl (xm 0 rfl) ?_
      refine V_getR dX11_fair_32 fl_X11_39 (sk_0 hS (by decide)) rfl ?_
      refine V_aload_n dX11_fair_35 rfl (xm 0 rfl) ?_
      refine V_getR dX11_fair_36 fl_X11_12 (sk_0 hS (by decide)) rfl ?_
      refine V_iload_n dX11_fair_39 rfl (xm 1 rfl) ?_
      refine xbE h (fun M3 h2 h => ?_)
      refine T_callVv dX11_fair_40 ok_X3_findFair (by exact ⟨by decide, rfl⟩) lk_X11_267.1 lk_X11_267.2 (sk_50 hS (by decide)) (hV := ((fX3_findFair_c (hS.le (by decide)) h2).mono (by decide) (Nat.le_refl _) (Nat.le_refl _))) rfl (Nat.le_of_ble_eq_true rfl) rfl (Nat.le_of_ble_eq_true rfl) ?_
      refine V_iload_n dX11_fair_43 rfl (xm 2 rfl) ?_
      refine V_if_ne (tgt := 55) dX11_fair_44 (by decide) h (fun _ h => ?_) (fun _ h => ?_)
      · refine V_aload_n dX11_fair_47 rfl (xm 0 rfl) ?_
        refine V_getR dX11_fair_48 fl_X11_39 (sk_0 hS (by decide)) rfl ?_
        refine V_getI (kI := 9) dX11_fair_51 fl_X11_271 (sk_50 hS (by decide)) rfl rfl ?_
        exact V_ireti dX11_fair_54 rfl (q_wI h)
      · refine V_iload_n dX11_fair_55 rfl (xm 2 rfl) ?_
        refine V_iconst dX11_fair_56 ?_
        refine V_icmp_ne (tgt := 70) dX11_fair_57 (by decide) h (fun _ h => ?_) (fun _ h => ?_)
        · refine V_aload_n dX11_fair_60 rfl (xm 0 rfl) ?_
          refine V_getR dX11_fair_61 fl_X11_39 (sk_0 hS (by decide)) rfl ?_
          refine V_getI (kI := 10) dX11_fair_64 fl_X11_274 (sk_50 hS (by decide)) rfl rfl ?_
          refine V_goto (tgt := 84) dX11_fair_67 (by decide) ?_
          exact V_ireti dX11_fair_84 rfl (q_wI h)
        · refine V_aload_n dX11_fair_70 rfl (xm 0 rfl) ?_
          refine V_getR dX11_fair_71 fl_X11_39 (sk_0 hS (by decide)) rfl ?_
          refine V_getR dX11_fair_74 fl_X11_264 (sk_50 hS (by decide)) rfl ?_
          refine V_iload_n dX11_fair_77 rfl (xm 2 rfl) ?_
          refine V_bipush dX11_fair_78 (by decide) ?_
          refine V_isub dX11_fair_80 ?_
          refine T_iald dX11_fair_81 (sk_64 hS (by decide)) rfl h (fun r4 h => ?_)
          refine V_iconst dX11_fair_82 ?_
          refine V_iadd dX11_fair_83 ?_
          exact V_ireti dX11_fair_84 rfl (q_wI h)
    refine V_if_eq (tgt := 31) dX11_fair_11 (by decide) h (fun _ h => ?_) (fun _ h => ?_)
    · refine V.pick [0, 1, 2] rfl ?_
      exact kj1 () h
    · refine V_iload_n dX11_fair_14 rfl (xm 2 rfl) ?_
      refine V_iconst dX11_fair_15 ?_
      refine V_icmp_eq (tgt := 31) dX11_fair_16 (by decide) h (fun _ h => ?_) (fun _ h => ?_)
      · refine V.pick [0, 1, 2] rfl ?_
        exact kj1 () h
      · refine V_iload_n dX11_fair_19 rfl (xm 2 rfl) ?_
        refine V_iload_n dX11_fair_20 rfl (xm 1 rfl) ?_
        refine T_callSI (host := "") dX11_fair_21 ok_X11_isTurnOf lk_X11_256.1 lk_X11_256.2 (hV := ((fX11_isTurnOf_c (hS.le (by decide)) rfl).mono (by decide) (Nat.le_refl _) (Nat.le_refl _))) rfl (Nat.le_of_ble_eq_true rfl) rfl (Nat.le_of_ble_eq_true rfl) ?_
        refine V_if_neB (tgt := 31) dX11_fair_24 (by decide) h (fun _ h => ?_) (fun _ h => ?_)
        · refine V.pick [0, 1, 2] rfl ?_
          exact kj1 () h
        · refine V_ldcw (n := (-1000000)) dX11_fair_27 (xsg4 201 rfl rfl : Cond.constant RX11 259 (-1000000) ∈ xT) (by decide) ?_
          exact V_ireti dX11_fair_30 rfl (q_wI h)
  · refine V_ldcw (n := (-1000000)) dX11_fair_27 (xsg4 201 rfl rfl : Cond.constant RX11 259 (-1000000) ∈ xT) (by decide) ?_
    exact V_ireti dX11_fair_30 rfl (q_wI h)
def fX3_findAlone (M : xM) (v2 : Int) (v3 : Int) : Option (Int × xM) := xlet (xup M 50 1 v3) fun M1 => xb (fX3_gather M1 v2) fun M3 => xb (fX4_weightOf M3 v2) fun r5 => xb (fX4_isEnough M3 r5) fun r7 => xb2 (fX3_reckon M3 (b2i r7)) fun r9 M10 => some (r9, M10)
set_option maxRecDepth 20000 in
set_option maxHeartbeats 1000000 in
theorem fX3_findAlone_c {S : xS} {kp : Option Nat} (hS : xSk kp 64 S) {M : xM} {v2 : Int} {v3 : Int} {E : Int × xM} (h : fX3_findAlone M v2 v3 = some E) :
    V Y_X3_findAlone 5 0 0 0 (xarg 0 [vR (some 50), vR (some 1), vI v2, vI v3]) [] S M (xqR S E.2 (some (vI E.1))) := by
  unfold fX3_findAlone at h
  show V Y_X3_findAlone 5 0 0 0 [(0, vR (some 50)), (1, vR (some 1)), (2, vI v2), (3, vI v3)] [] S M _
  refine V_aload_n dX3_findAlone_0 rfl (xm 0 rfl) ?_
  refine V_iload_n dX3_findAlone_1 rfl (xm 3 rfl) ?_
  refine T_putI (kI := 1) dX3_findAlone_2 fp_X3_39 (sk_50 hS (by decide)) rfl rfl h (fun M1 h => ?_)
  refine V_aload_n dX3_findAlone_5 rfl (xm 0 rfl) ?_
  refine V_aload_n dX3_findAlone_6 rfl (xm 1 rfl) ?_
  refine V_iload_n dX3_findAlone_7 rfl (xm 2 rfl) ?_
  refine V_aload_n dX3_findAlone_8 rfl (xm 0 rfl) ?_
  refine V_getR dX3_findAlone_9 fl_X3_11 (sk_50 hS (by decide)) rfl ?_
  refine xbE h (fun M3 h2 h => ?_)
  refine T_callVv dX3_findAlone_12 ok_X3_gather (by exact ⟨by decide, rfl⟩) lk_X3_77.1 lk_X3_77.2 (sk_50 hS (by decide)) (hV := ((fX3_gather_c (hS.le (by decide)) h2).mono (by decide) (Nat.le_refl _) (Nat.le_refl _))) rfl (Nat.le_of_ble_eq_true rfl) rfl (Nat.le_of_ble_eq_true rfl) ?_
  refine V_aload_n dX3_findAlone_15 rfl (xm 0 rfl) ?_
  refine V_aload_n dX3_findAlone_16 rfl (xm 1 rfl) ?_
  refine V_getR dX3_findAlone_17 fl_X3_55 (sk_1 hS (by decide)) rfl ?_
  refine V_aload_n dX3_findAlone_20 rfl (xm 1 rfl) ?_
  refine V_getR dX3_findAlone_21 fl_X3_55 (sk_1 hS (by decide)) rfl ?_
  refine V_iload_n dX3_findAlone_24 rfl (xm 2 rfl) ?_
  refine xbE h (fun r5 h4 h => ?_)
  refine T_callVI dX3_findAlone_25 ok_X4_weightOf (by exact ⟨by decide, rfl⟩) lk_X3_109.1 lk_X3_109.2 (sk_5 hS (by decide)) (hV := ((fX4_weightOf_c (hS.le (by decide)) h4).mono (by decide) (Nat.le_refl _) (Nat.le_refl _))) rfl (Nat.le_of_ble_eq_true rfl) rfl (Nat.le_of_ble_eq_true rfl) ?_
  refine xbE h (fun r7 h6 h => ?_)
  refine T_callVI dX3_findAlone_28 ok_X4_isEnough (by exact ⟨by decide, rfl⟩) lk_X3_113.1 lk_X3_113.2 (sk_5 hS (by decide)) (hV := ((fX4_isEnough_c (hS.le (by decide)) h6).mono (by decide) (Nat.le_refl _) (Nat.le_refl _))) rfl (Nat.le_of_ble_eq_true rfl) rfl (Nat.le_of_ble_eq_true rfl) ?_
  refine xb2E h (fun r9 M10 h8 h => ?_)
  refine T_callVI dX3_findAlone_31 ok_X3_reckon (by exact ⟨by decide, rfl⟩) lk_X3_99.1 lk_X3_99.2 (sk_50 hS (by decide)) (hV := ((fX3_reckon_c (hS.le (by decide)) h8).mono (by decide) (Nat.le_refl _) (Nat.le_refl _))) rfl (Nat.le_of_ble_eq_true rfl) rfl (Nat.le_of_ble_eq_true rfl) ?_
  exact V_ireti dX3_findAlone_34 rfl (q_wI h)
def fX11_alone (M : xM) (v1 : Int) (v2 : Int) : Option (Int × xM) := (if (fX11_within v1 1 (fX4_all M)) = true then (if (fX11_within v2 1 6) = true then (xb2 (fX3_findAlone M v1 v2) fun r2 M3 => some (r2, M3)) else some ((-1000000), M)) else some ((-1000000), M))
set_option maxRecDepth 20000 in
set_option maxHeartbeats 1000000 in
theorem fX11_alone_c {S : xS} {kp : Option Nat} (hS : xSk kp 94 S) {M : xM} {v1 : Int} {v2 : Int} {E : Int × xM} (h : fX11_alone M v1 v2 = some E) :
    V Y_X11_alone 6 0 0 0 (xarg 0 [vR (some 0), vI v1, vI v2]) [] S M (xqR S E.2 (some (vI E.1))) := by
  unfold fX11_alone at h
  show V Y_X11_alone 6 0 0 0 [(0, vR (some 0)), (1, vI v1), (2, vI v2)] [] S M _
  refine V_iload_n dX11_alone_0 rfl (xm 1 rfl) ?_
  refine V_iconst dX11_alone_1 ?_
  refine V_aload_n dX11_alone_2 rfl (xm 0 rfl) ?_
  refine V_getR dX11_alone_3 fl_X11_12 (sk_0 hS (by decide)) rfl ?_
  refine V_getR dX11_alone_6 fl_X11_82 (sk_1 hS (by decide)) rfl ?_
  refine T_callVI dX11_alone_9 ok_X4_all (by exact ⟨by decide, rfl⟩) lk_X11_277.1 lk_X11_277.2 (sk_5 hS (by decide)) (hV := ((fX4_all_c (hS.le (by decide)) rfl).mono (by decide) (Nat.le_refl _) (Nat.le_refl _))) rfl (Nat.le_of_ble_eq_true rfl) rfl (Nat.le_of_ble_eq_true rfl) ?_
  refine T_callSI (host := "") dX11_alone_12 ok_X11_within lk_X11_60.1 lk_X11_60.2 (hV := ((fX11_within_c (hS.le (by decide)) rfl).mono (by decide) (Nat.le_refl _) (Nat.le_refl _))) rfl (Nat.le_of_ble_eq_true rfl) rfl (Nat.le_of_ble_eq_true rfl) ?_
  refine V_if_eqB (tgt := 28) dX11_alone_15 (by decide) h (fun _ h => ?_) (fun _ h => ?_)
  · refine V_iload_n dX11_alone_18 rfl (xm 2 rfl) ?_
    refine V_iconst dX11_alone_19 ?_
    refine V_bipush dX11_alone_20 (by decide) ?_
    refine T_callSI (host := "") dX11_alone_22 ok_X11_within lk_X11_60.1 lk_X11_60.2 (hV := ((fX11_within_c (hS.le (by decide)) rfl).mono (by decide) (Nat.le_refl _) (Nat.le_refl _))) rfl (Nat.le_of_ble_eq_true rfl) rfl (Nat.le_of_ble_eq_true rfl) ?_
    refine V_if_neB (tgt := 32) dX11_alone_25 (by decide) h (fun _ h => ?_) (fun _ h => ?_)
    · refine V_aload_n dX11_alone_32 rfl (xm 0 rfl) ?_
      refine V_getR dX11_alone_33 fl_X11_39 (sk_0 hS (by decide)) rfl ?_
      refine V_aload_n dX11_alone_36 rfl (xm 0 rfl) ?_
      refine V_getR dX11_alone_37 fl_X11_12 (sk_0 hS (by decide)) rfl ?_
      refine V_iload_n dX11_alone_40 rfl (xm 1 rfl) ?_
      refine V_iload_n dX11_alone_41 rfl (xm 2 rfl) ?_
      refine xb2E h (fun r2 M3 h1 h => ?_)
      refine T_callVI dX11_alone_42 ok_X3_findAlone (by exact ⟨by decide, rfl⟩) lk_X11_280.1 lk_X11_280.2 (sk_50 hS (by decide)) (hV := ((fX3_findAlone_c (hS.le (by decide)) h1).mono (by decide) (Nat.le_refl _) (Nat.le_refl _))) rfl (Nat.le_of_ble_eq_true rfl) rfl (Nat.le_of_ble_eq_true rfl) ?_
      exact V_ireti dX11_alone_45 rfl (q_wI h)
    · refine V_ldcw (n := (-1000000)) dX11_alone_28 (xsg4 201 rfl rfl : Cond.constant RX11 259 (-1000000) ∈ xT) (by decide) ?_
      exact V_ireti dX11_alone_31 rfl (q_wI h)
  · refine V_ldcw (n := (-1000000)) dX11_alone_28 (xsg4 201 rfl rfl : Cond.constant RX11 259 (-1000000) ∈ xT) (by decide) ?_
    exact V_ireti dX11_alone_31 rfl (q_wI h)
def fX11_pay (M : xM) (v1 : Int) (v2 : Int) : Option (Bool × xM) := (if (fX4_has M v1) = true then (if (fX11_within v2 ((-99999)) 99999) = true then (xwt M 10 10 v1 v2 fun M1 => some (true, M1)) else some (false, M)) else some (false, M))
set_option maxRecDepth 20000 in
set_option maxHeartbeats 1000000 in
theorem fX11_pay_c {S : xS} {kp : Option Nat} (hS : xSk kp 94 S) {M : xM} {v1 : Int} {v2 : Int} {E : Bool × xM} (h : fX11_pay M v1 v2 = some E) :
    V Y_X11_pay 2 0 0 0 (xarg 0 [vR (some 0), vI v1, vI v2]) [] S M (xqR S E.2 (some (vI (b2i E.1)))) := by
  unfold fX11_pay at h
  show V Y_X11_pay 2 0 0 0 [(0, vR (some 0)), (1, vI v1), (2, vI v2)] [] S M _
  refine V_aload_n dX11_pay_0 rfl (xm 0 rfl) ?_
  refine V_getR dX11_pay_1 fl_X11_12 (sk_0 hS (by decide)) rfl ?_
  refine V_getR dX11_pay_4 fl_X11_82 (sk_1 hS (by decide)) rfl ?_
  refine V_iload_n dX11_pay_7 rfl (xm 1 rfl) ?_
  refine T_callVI dX11_pay_8 ok_X4_has (by exact ⟨by decide, rfl⟩) lk_X11_145.1 lk_X11_145.2 (sk_5 hS (by decide)) (hV := ((fX4_has_c (hS.le (by decide)) rfl).mono (by decide) (Nat.le_refl _) (Nat.le_refl _))) rfl (Nat.le_of_ble_eq_true rfl) rfl (Nat.le_of_ble_eq_true rfl) ?_
  refine V_if_eqB (tgt := 25) dX11_pay_11 (by decide) h (fun _ h => ?_) (fun _ h => ?_)
  · refine V_iload_n dX11_pay_14 rfl (xm 2 rfl) ?_
    refine V_ldc (n := (-99999)) dX11_pay_15 (xsg3 14 rfl rfl : Cond.constant RX11 80 (-99999) ∈ xT) (by decide) ?_
    refine V_ldc (n := 99999) dX11_pay_17 (xsg3 15 rfl rfl : Cond.constant RX11 81 99999 ∈ xT) (by decide) ?_
    refine T_callSI (host := "") dX11_pay_19 ok_X11_within lk_X11_60.1 lk_X11_60.2 (hV := ((fX11_within_c (hS.le (by decide)) rfl).mono (by decide) (Nat.le_refl _) (Nat.le_refl _))) rfl (Nat.le_of_ble_eq_true rfl) rfl (Nat.le_of_ble_eq_true rfl) ?_
    refine V_if_neB (tgt := 27) dX11_pay_22 (by decide) h (fun _ h => ?_) (fun _ h => ?_)
    · refine V_aload_n dX11_pay_27 rfl (xm 0 rfl) ?_
      refine V_getR dX11_pay_28 fl_X11_12 (sk_0 hS (by decide)) rfl ?_
      refine V_getR dX11_pay_31 fl_X11_82 (sk_1 hS (by decide)) rfl ?_
      refine V_getR dX11_pay_34 fl_X11_284 (sk_5 hS (by decide)) rfl ?_
      refine V_iload_n dX11_pay_37 rfl (xm 1 rfl) ?_
      refine V_iload_n dX11_pay_38 rfl (xm 2 rfl) ?_
      refine T_iast dX11_pay_39 (sk_10 hS (by decide)) rfl h (fun M1 h => ?_)
      refine V_iconst dX11_pay_40 ?_
      exact V_iretb (b := true) dX11_pay_41 rfl (by decide) (q_wB h)
    · refine V_iconst dX11_pay_25 ?_
      exact V_iretb (b := false) dX11_pay_26 rfl (by decide) (q_wB h)
  · refine V_iconst dX11_pay_25 ?_
    exact V_iretb (b := false) dX11_pay_26 rfl (by decide) (q_wB h)
def fX3_shareOut_L27 (n : Nat) (M : xM) (v2 : Int) (v3 : Int) (v4 : Int) : Option (xM) := match n with
  | 0 => none
  | n + 1 => (if wr v4 < wr (M 50 1) then (xrd M 64 30 v4 fun r3 => xrd M 74 10 v2 fun r4 => xix 10 v2 (xrd M 64 30 v4 fun r6 => xrd M (53 + (wr v2).toNat) 156 (fX3_cellOf M v4 (v3 + r3) r6) fun r7 => xwt M 74 10 v2 (r4 + r7) fun M8 => fX3_shareOut_L27 n M8 v2 (v3 + r3) (v4 + 1))) else some M)
set_option maxRecDepth 20000 in
set_option maxHeartbeats 1000000 in
theorem fX3_shareOut_L27_c {S : xS} {kp : Option Nat} (hS : xSk kp 75 S) {Q : Option xV → xS → xM → Prop} :
    ∀ (n : Nat) (M : xM) (v2 : Int) (v3 : Int) (v4 : Int) {Mz : xM}, fX3_shareOut_L27 n M v2 v3 v4 = some Mz → V Y_X3_shareOut 1 0 0 82 [(0, vR (some 50)), (1, vR (some 5)), (2, vI v2)] [] S Mz Q → V Y_X3_shareOut 1 0 0 27 [(0, vR (some 50)), (1, vR (some 5)), (2, vI v2), (3, vI v3), (4, vI v4)] [] S M Q := by
  intro n
  induction n with
  | zero =>
    intro M v2 v3 v4 Mz h k
    cases h
  | succ n ih =>
    intro M v2 v3 v4 Mz h k
    rw [fX3_shareOut_L27] at h
    refine V_iload dX3_shareOut_27 (xm 4 rfl) ?_
    refine V_aload_n dX3_shareOut_29 rfl (xm 0 rfl) ?_
    refine V_getI (kI := 1) dX3_shareOut_30 fl_X3_39 (sk_50 hS (by decide)) rfl rfl ?_
    refine V_icmp_ge (tgt := 82) dX3_shareOut_33 (by decide) h (fun _ h => ?_) (fun _ h => ?_)
    · refine V_iload_n dX3_shareOut_36 rfl (xm 3 rfl) ?_
      refine V_aload_n dX3_shareOut_37 rfl (xm 0 rfl) ?_
      refine V_getR dX3_shareOut_38 fl_X3_23 (sk_50 hS (by decide)) rfl ?_
      refine V_iload dX3_shareOut_41 (xm 4 rfl) ?_
      refine T_iald dX3_shareOut_43 (sk_64 hS (by decide)) rfl h (fun r3 h => ?_)
      refine V_iadd dX3_shareOut_44 ?_
      refine V_istore_n (ls' := [(3, vI (v3 + r3)), (0, vR (some 50)), (1, vR (some 5)), (2, vI v2), (4, vI v4)]) dX3_shareOut_45 rfl (by decide) rfl ?_
      refine V_aload_n dX3_shareOut_46 rfl (xm 1 rfl) ?_
      refine V_getR dX3_shareOut_47 fl_X3_32 (sk_50 hS (by decide)) rfl ?_
      refine V_iload_n dX3_shareOut_50 rfl (xm 3 rfl) ?_
      refine V_dup2 dX3_shareOut_51 rfl rfl ?_
      refine T_iald dX3_shareOut_52 (sk_74 hS (by decide)) rfl h (fun r4 h => ?_)
      refine V_aload_n dX3_shareOut_53 rfl (xm 1 rfl) ?_
      refine V_getR dX3_shareOut_54 fl_X3_17 (sk_50 hS (by decide)) rfl ?_
      refine V_iload_n dX3_shareOut_57 rfl (xm 3 rfl) ?_
      obtain ⟨c5, h⟩ := xixE h
      refine V_aald (r := 53 + (wr v2).toNat) dX3_shareOut_58 (sk_52 hS (by decide)) (by decide) c5 (rw_52 c5) ?_
      refine V_aload_n dX3_shareOut_59 rfl (xm 1 rfl) ?_
      refine V_iload dX3_shareOut_60 (xm 4 rfl) ?_
      refine V_iload_n dX3_shareOut_62 rfl (xm 0 rfl) ?_
      refine V_aload_n dX3_shareOut_63 rfl (xm 1 rfl) ?_
      refine V_getR dX3_shareOut_64 fl_X3_23 (sk_50 hS (by decide)) rfl ?_
      refine V_iload dX3_shareOut_67 (xm 4 rfl) ?_
      refine T_iald dX3_shareOut_69 (sk_64 hS (by decide)) rfl h (fun r6 h => ?_)
      refine T_callVI dX3_shareOut_70 ok_X3_cellOf (by exact ⟨by decide, rfl⟩) lk_X3_73.1 lk_X3_73.2 (sk_50 hS (by decide)) (hV := ((fX3_cellOf_c (hS.le (by decide)) rfl).mono (by decide) (Nat.le_refl _) (Nat.le_refl _))) rfl (Nat.le_of_ble_eq_true rfl) rfl (Nat.le_of_ble_eq_true rfl) ?_
      refine T_iald dX3_shareOut_73 (rs_52 hS (by decide) c5) rfl h (fun r7 h => ?_)
      refine V_iadd dX3_shareOut_74 ?_
      refine T_iast dX3_shareOut_75 (sk_74 hS (by decide)) rfl h (fun M8 h => ?_)
      refine V_iinc (ls' := [(4, vI (v4 + 1)), (3, vI (v3 + r3)), (0, vR (some 50)), (1, vR (some 5)), (2, vI v2)]) dX3_shareOut_76 (xm 4 rfl) (by decide) rfl ?_
      refine V_goto (tgt := 27) dX3_shareOut_79 (by decide) ?_
      refine V.pick [2, 3, 4, 1, 0] rfl ?_
      exact ih M8 v2 (v3 + r3) (v4 + 1) h k
    · cases h
      refine V.pick [0, 1, 2] rfl ?_
      exact k
theorem fX3_shareOut_L27_ci {S : xS} {kp : Option Nat} (hS : xSk kp 75 S) {Q : Option xV → xS → xM → Prop} {n : Nat} {M : xM} {v2 : Int} {v3 : Int} {v4 : Int} {Mz : xM} (hl : fX3_shareOut_L27 n M v2 v3 v4 = some Mz) (k : V Y_X3_shareOut 1 0 0 82 [(0, vR (some 50)), (1, vR (some 5)), (2, vI v2)] [] S Mz Q) : V Y_X3_shareOut 1 0 0 27 [(0, vR (some 50)), (1, vR (some 5)), (2, vI v2), (3, vI v3), (4, vI v4)] [] S M Q := fX3_shareOut_L27_c hS _ _ _ _ _ hl k
