def fX1_copyFrom (M : xM)  : Option xM := xlet (xup M 1 0 (M 111 0)) fun M1 => xlet (xup M1 1 1 (M1 111 1)) fun M2 => xlet (xup M2 1 2 (M2 111 2)) fun M3 => xlet (xup M3 1 3 (M3 111 3)) fun M4 => xlet (xup M4 1 4 (M4 111 4)) fun M5 => xlet (xup M5 1 5 (M5 111 5)) fun M6 => xcp M6 112 864 0 2 864 0 864 fun M7 => xcp M7 113 410 0 3 410 0 410 fun M8 => xcp M8 114 60 0 4 60 0 60 fun M9 => xb (fX4_copyFrom M9) fun M11 => xb (fX6_copyFrom M11) fun M13 => xb (fX5_copyFrom M13) fun M15 => xb (fX2_copyFrom M15) fun M17 => xb (fX1_copyFrom_L148 xfuel M17 0) fun M22 => some M22
set_option maxRecDepth 20000 in
set_option maxHeartbeats 1000000 in
theorem fX1_copyFrom_c {S : xS} (hS : xSk (some 111) 146 S) {M : xM} {E : xM} (h : fX1_copyFrom M = some E) :
    V Y_X1_copyFrom 2 0 0 0 (xarg 0 [vR (some 1), vR (some 111)]) [] S M (xqR S E none) := by
  unfold fX1_copyFrom at h
  show V Y_X1_copyFrom 2 0 0 0 [(0, vR (some 1)), (1, vR (some 111))] [] S M _
  refine V_aload_n dX1_copyFrom_0 rfl (xm 0 rfl) ?_
  refine V_aload_n dX1_copyFrom_1 rfl (xm 1 rfl) ?_
  refine V_getI (kI := 0) dX1_copyFrom_2 fl_X1_64 (sk_111 hS (by decide)) rfl rfl ?_
  refine T_putI (kI := 0) dX1_copyFrom_5 fp_X1_64 (sk_1 hS (by decide)) rfl rfl h (fun M1 h => ?_)
  refine V_aload_n dX1_copyFrom_8 rfl (xm 0 rfl) ?_
  refine V_aload_n dX1_copyFrom_9 rfl (xm 1 rfl) ?_
  refine V_getI (kI := 1) dX1_copyFrom_10 fl_X1_68 (sk_111 hS (by decide)) rfl rfl ?_
  refine T_putI (kI := 1) dX1_copyFrom_13 fp_X1_68 (sk_1 hS (by decide)) rfl rfl h (fun M2 h => ?_)
  refine V_aload_n dX1_copyFrom_16 rfl (xm 0 rfl) ?_
  refine V_aload_n dX1_copyFrom_17 rfl (xm 1 rfl) ?_
  refine V_getI (kI := 2) dX1_copyFrom_18 fl_X1_71 (sk_111 hS (by decide)) rfl rfl ?_
  refine T_putI (kI := 2) dX1_copyFrom_21 fp_X1_71 (sk_1 hS (by decide)) rfl rfl h (fun M3 h => ?_)
  refine V_aload_n dX1_copyFrom_24 rfl (xm 0 rfl) ?_
  refine V_aload_n dX1_copyFrom_25 rfl (xm 1 rfl) ?_
  refine V_getI (kI := 3) dX1_copyFrom_26 fl_X1_74 (sk_111 hS (by decide)) rfl rfl ?_
  refine T_putI (kI := 3) dX1_copyFrom_29 fp_X1_74 (sk_1 hS (by decide)) rfl rfl h (fun M4 h => ?_)
  refine V_aload_n dX1_copyFrom_32 rfl (xm 0 rfl) ?_
  refine V_aload_n dX1_copyFrom_33 rfl (xm 1 rfl) ?_
  refine V_getI (kI := 4) dX1_copyFrom_34 fl_X1_77 (sk_111 hS (by decide)) rfl rfl ?_
  refine T_putI (kI := 4) dX1_copyFrom_37 fp_X1_77 (sk_1 hS (by decide)) rfl rfl h (fun M5 h => ?_)
  refine V_aload_n dX1_copyFrom_40 rfl (xm 0 rfl) ?_
  refine V_aload_n dX1_copyFrom_41 rfl (xm 1 rfl) ?_
  refine V_getI (kI := 5) dX1_copyFrom_42 fl_X1_80 (sk_111 hS (by decide)) rfl rfl ?_
  refine T_putI (kI := 5) dX1_copyFrom_45 fp_X1_80 (sk_1 hS (by decide)) rfl rfl h (fun M6 h => ?_)
  refine V_aload_n dX1_copyFrom_48 rfl (xm 1 rfl) ?_
  refine V_getR dX1_copyFrom_49 fl_X1_11 (sk_111 hS (by decide)) rfl ?_
  refine V_iconst dX1_copyFrom_52 ?_
  refine V_aload_n dX1_copyFrom_53 rfl (xm 0 rfl) ?_
  refine V_getR dX1_copyFrom_54 fl_X1_11 (sk_1 hS (by decide)) rfl ?_
  refine V_iconst dX1_copyFrom_57 ?_
  refine V_aload_n dX1_copyFrom_58 rfl (xm 0 rfl) ?_
  refine V_getR dX1_copyFrom_59 fl_X1_11 (sk_1 hS (by decide)) rfl ?_
  refine V_alen (x := 864) dX1_copyFrom_62 (sk_2 hS (by decide)) (by decide) rfl ?_
  refine T_copy dX1_copyFrom_63 cp_X1_98 (sk_112 hS (by decide)) (sk_2 hS (by decide)) rfl rfl (by decide) (Nat.le_of_ble_eq_true rfl) h (fun M7 h => ?_)
  refine V_aload_n dX1_copyFrom_66 rfl (xm 1 rfl) ?_
  refine V_getR dX1_copyFrom_67 fl_X1_17 (sk_111 hS (by decide)) rfl ?_
  refine V_iconst dX1_copyFrom_70 ?_
  refine V_aload_n dX1_copyFrom_71 rfl (xm 0 rfl) ?_
  refine V_getR dX1_copyFrom_72 fl_X1_17 (sk_1 hS (by decide)) rfl ?_
  refine V_iconst dX1_copyFrom_75 ?_
  refine V_aload_n dX1_copyFrom_76 rfl (xm 0 rfl) ?_
  refine V_getR dX1_copyFrom_77 fl_X1_17 (sk_1 hS (by decide)) rfl ?_
  refine V_alen (x := 410) dX1_copyFrom_80 (sk_3 hS (by decide)) (by decide) rfl ?_
  refine T_copy dX1_copyFrom_81 cp_X1_98 (sk_113 hS (by decide)) (sk_3 hS (by decide)) rfl rfl (by decide) (Nat.le_of_ble_eq_true rfl) h (fun M8 h => ?_)
  refine V_aload_n dX1_copyFrom_84 rfl (xm 1 rfl) ?_
  refine V_getR dX1_copyFrom_85 fl_X1_20 (sk_111 hS (by decide)) rfl ?_
  refine V_iconst dX1_copyFrom_88 ?_
  refine V_aload_n dX1_copyFrom_89 rfl (xm 0 rfl) ?_
  refine V_getR dX1_copyFrom_90 fl_X1_20 (sk_1 hS (by decide)) rfl ?_
  refine V_iconst dX1_copyFrom_93 ?_
  refine V_aload_n dX1_copyFrom_94 rfl (xm 0 rfl) ?_
  refine V_getR dX1_copyFrom_95 fl_X1_20 (sk_1 hS (by decide)) rfl ?_
  refine V_alen (x := 60) dX1_copyFrom_98 (sk_4 hS (by decide)) (by decide) rfl ?_
  refine T_copy dX1_copyFrom_99 cp_X1_98 (sk_114 hS (by decide)) (sk_4 hS (by decide)) rfl rfl (by decide) (Nat.le_of_ble_eq_true rfl) h (fun M9 h => ?_)
  refine V_aload_n dX1_copyFrom_102 rfl (xm 0 rfl) ?_
  refine V_getR dX1_copyFrom_103 fl_X1_26 (sk_1 hS (by decide)) rfl ?_
  refine V_aload_n dX1_copyFrom_106 rfl (xm 1 rfl) ?_
  refine V_getR dX1_copyFrom_107 fl_X1_26 (sk_111 hS (by decide)) rfl ?_
  refine xbE h (fun M11 h10 h => ?_)
  refine T_callVv dX1_copyFrom_110 ok_X4_copyFrom (by exact ⟨by decide, rfl⟩) lk_X1_104.1 lk_X1_104.2 (sk_5 hS (by decide)) (hV := ((fX4_copyFrom_c (hS.le (by decide)) h10).mono (by decide) (Nat.le_refl _) (Nat.le_refl _))) rfl (Nat.le_of_ble_eq_true rfl) rfl (Nat.le_of_ble_eq_true rfl) ?_
  refine V_aload_n dX1_copyFrom_113 rfl (xm 0 rfl) ?_
  refine V_getR dX1_copyFrom_114 fl_X1_33 (sk_1 hS (by decide)) rfl ?_
  refine V_aload_n dX1_copyFrom_117 rfl (xm 1 rfl) ?_
  refine V_getR dX1_copyFrom_118 fl_X1_33 (sk_111 hS (by decide)) rfl ?_
  refine xbE h (fun M13 h12 h => ?_)
  refine T_callVv dX1_copyFrom_121 ok_X6_copyFrom (by exact ⟨by decide, rfl⟩) lk_X1_108.1 lk_X1_108.2 (sk_12 hS (by decide)) (hV := ((fX6_copyFrom_c (hS.le (by decide)) h12).mono (by decide) (Nat.le_refl _) (Nat.le_refl _))) rfl (Nat.le_of_ble_eq_true rfl) rfl (Nat.le_of_ble_eq_true rfl) ?_
  refine V_aload_n dX1_copyFrom_124 rfl (xm 0 rfl) ?_
  refine V_getR dX1_copyFrom_125 fl_X1_40 (sk_1 hS (by decide)) rfl ?_
  refine V_aload_n dX1_copyFrom_128 rfl (xm 1 rfl) ?_
  refine V_getR dX1_copyFrom_129 fl_X1_40 (sk_111 hS (by decide)) rfl ?_
  refine xbE h (fun M15 h14 h => ?_)
  refine T_callVv dX1_copyFrom_132 ok_X5_copyFrom (by exact ⟨by decide, rfl⟩) lk_X1_111.1 lk_X1_111.2 (sk_17 hS (by decide)) (hV := ((fX5_copyFrom_c (hS.le (by decide)) h14).mono (by decide) (Nat.le_refl _) (Nat.le_refl _))) rfl (Nat.le_of_ble_eq_true rfl) rfl (Nat.le_of_ble_eq_true rfl) ?_
  refine V_aload_n dX1_copyFrom_135 rfl (xm 0 rfl) ?_
  refine V_getR dX1_copyFrom_136 fl_X1_47 (sk_1 hS (by decide)) rfl ?_
  refine V_aload_n dX1_copyFrom_139 rfl (xm 1 rfl) ?_
  refine V_getR dX1_copyFrom_140 fl_X1_47 (sk_111 hS (by decide)) rfl ?_
  refine xbE h (fun M17 h16 h => ?_)
  refine T_callVv dX1_copyFrom_143 ok_X2_copyFrom (by exact ⟨by decide, rfl⟩) lk_X1_114.1 lk_X1_114.2 (sk_23 hS (by decide)) (hV := ((fX2_copyFrom_c (hS.le (by decide)) h16).mono (by decide) (Nat.le_refl _) (Nat.le_refl _))) rfl (Nat.le_of_ble_eq_true rfl) rfl (Nat.le_of_ble_eq_true rfl) ?_
  refine V_iconst dX1_copyFrom_146 ?_
  refine V_istore_n (ls' := [(2, vI 0), (0, vR (some 1)), (1, vR (some 111))]) dX1_copyFrom_147 rfl (by decide) rfl ?_
  refine xbE h (fun M22 h23 h => ?_)
  refine V.pick [1, 2, 0] rfl ?_
  refine fX1_copyFrom_L148_ci (hS.le (by decide)) h23 ?_
  exact V_ret dX1_copyFrom_174 rfl (q_v h)
def fX4_copyFrom_i2 (M : xM)  : Option xM := xlet (xup M 115 0 (M 5 0)) fun M1 => xcp M1 6 10 0 116 10 0 10 fun M2 => xcp M2 7 10 0 117 10 0 10 fun M3 => xcp M3 8 10 0 118 10 0 10 fun M4 => xcp M4 9 10 0 119 10 0 10 fun M5 => xcp M5 10 10 0 120 10 0 10 fun M6 => some M6
set_option maxRecDepth 20000 in
set_option maxHeartbeats 1000000 in
theorem fX4_copyFrom_i2_c {S : xS} (hS : xSk (some 111) 121 S) {M : xM} {E : xM} (h : fX4_copyFrom_i2 M = some E) :
    V Y_X4_copyFrom 1 0 0 0 (xarg 0 [vR (some 115), vR (some 5)]) [] S M (xqR S E none) := by
  unfold fX4_copyFrom_i2 at h
  show V Y_X4_copyFrom 1 0 0 0 [(0, vR (some 115)), (1, vR (some 5))] [] S M _
  refine V_aload_n dX4_copyFrom_0 rfl (xm 0 rfl) ?_
  refine V_aload_n dX4_copyFrom_1 rfl (xm 1 rfl) ?_
  refine V_getI (kI := 0) dX4_copyFrom_2 fl_X4_30 (sk_5 hS (by decide)) rfl rfl ?_
  refine T_putI (kI := 0) dX4_copyFrom_5 fp_X4_30 (sk_115 hS (by decide)) rfl rfl h (fun M1 h => ?_)
  refine V_aload_n dX4_copyFrom_8 rfl (xm 1 rfl) ?_
  refine V_getR dX4_copyFrom_9 fl_X4_9 (sk_5 hS (by decide)) rfl ?_
  refine V_iconst dX4_copyFrom_12 ?_
  refine V_aload_n dX4_copyFrom_13 rfl (xm 0 rfl) ?_
  refine V_getR dX4_copyFrom_14 fl_X4_9 (sk_115 hS (by decide)) rfl ?_
  refine V_iconst dX4_copyFrom_17 ?_
  refine V_bipush dX4_copyFrom_18 (by decide) ?_
  refine T_copy dX4_copyFrom_20 cp_X4_34 (sk_6 hS (by decide)) (sk_116 hS (by decide)) rfl rfl (by decide) (Nat.le_of_ble_eq_true rfl) h (fun M2 h => ?_)
  refine V_aload_n dX4_copyFrom_23 rfl (xm 1 rfl) ?_
  refine V_getR dX4_copyFrom_24 fl_X4_15 (sk_5 hS (by decide)) rfl ?_
  refine V_iconst dX4_copyFrom_27 ?_
  refine V_aload_n dX4_copyFrom_28 rfl (xm 0 rfl) ?_
  refine V_getR dX4_copyFrom_29 fl_X4_15 (sk_115 hS (by decide)) rfl ?_
  refine V_iconst dX4_copyFrom_32 ?_
  refine V_bipush dX4_copyFrom_33 (by decide) ?_
  refine T_copy dX4_copyFrom_35 cp_X4_34 (sk_7 hS (by decide)) (sk_117 hS (by decide)) rfl rfl (by decide) (Nat.le_of_ble_eq_true rfl) h (fun M3 h => ?_)
  refine V_aload_n dX4_copyFrom_38 rfl (xm 1 rfl) ?_
  refine V_getR dX4_copyFrom_39 fl_X4_18 (sk_5 hS (by decide)) rfl ?_
  refine V_iconst dX4_copyFrom_42 ?_
  refine V_aload_n dX4_copyFrom_43 rfl (xm 0 rfl) ?_
  refine V_getR dX4_copyFrom_44 fl_X4_18 (sk_115 hS (by decide)) rfl ?_
  refine V_iconst dX4_copyFrom_47 ?_
  refine V_bipush dX4_copyFrom_48 (by decide) ?_
  refine T_copy dX4_copyFrom_50 cp_X4_34 (sk_8 hS (by decide)) (sk_118 hS (by decide)) rfl rfl (by decide) (Nat.le_of_ble_eq_true rfl) h (fun M4 h => ?_)
  refine V_aload_n dX4_copyFrom_53 rfl (xm 1 rfl) ?_
  refine V_getR dX4_copyFrom_54 fl_X4_21 (sk_5 hS (by decide)) rfl ?_
  refine V_iconst dX4_copyFrom_57 ?_
  refine V_aload_n dX4_copyFrom_58 rfl (xm 0 rfl) ?_
  refine V_getR dX4_copyFrom_59 fl_X4_21 (sk_115 hS (by decide)) rfl ?_
  refine V_iconst dX4_copyFrom_62 ?_
  refine V_bipush dX4_copyFrom_63 (by decide) ?_
  refine T_copy dX4_copyFrom_65 cp_X4_34 (sk_9 hS (by decide)) (sk_119 hS (by decide)) rfl rfl (by decide) (Nat.le_of_ble_eq_true rfl) h (fun M5 h => ?_)
  refine V_aload_n dX4_copyFrom_68 rfl (xm 1 rfl) ?_
  refine V_getR dX4_copyFrom_69 fl_X4_24 (sk_5 hS (by decide)) rfl ?_
  refine V_iconst dX4_copyFrom_72 ?_
  refine V_aload_n dX4_copyFrom_73 rfl (xm 0 rfl) ?_
  refine V_getR dX4_copyFrom_74 fl_X4_24 (sk_115 hS (by decide)) rfl ?_
  refine V_iconst dX4_copyFrom_77 ?_
  refine V_bipush dX4_copyFrom_78 (by decide) ?_
  refine T_copy dX4_copyFrom_80 cp_X4_34 (sk_10 hS (by decide)) (sk_120 hS (by decide)) rfl rfl (by decide) (Nat.le_of_ble_eq_true rfl) h (fun M6 h => ?_)
  exact V_ret dX4_copyFrom_83 rfl (q_v h)
def fX6_copyFrom_i2 (M : xM)  : Option xM := xlet (xup M 122 0 (M 12 0)) fun M1 => xcp M1 13 60 0 123 60 0 (M1 122 0) fun M2 => xcp M2 14 60 0 124 60 0 (M2 122 0) fun M3 => xcp M3 15 60 0 125 60 0 (M3 122 0) fun M4 => xcp M4 16 60 0 126 60 0 (M4 122 0) fun M5 => some M5
set_option maxRecDepth 20000 in
set_option maxHeartbeats 1000000 in
theorem fX6_copyFrom_i2_c {S : xS} (hS : xSk (some 111) 127 S) {M : xM} {E : xM} (h : fX6_copyFrom_i2 M = some E) :
    V Y_X6_copyFrom 1 0 0 0 (xarg 0 [vR (some 122), vR (some 12)]) [] S M (xqR S E none) := by
  unfold fX6_copyFrom_i2 at h
  show V Y_X6_copyFrom 1 0 0 0 [(0, vR (some 122)), (1, vR (some 12))] [] S M _
  refine V_aload_n dX6_copyFrom_0 rfl (xm 0 rfl) ?_
  refine V_aload_n dX6_copyFrom_1 rfl (xm 1 rfl) ?_
  refine V_getI (kI := 0) dX6_copyFrom_2 fl_X6_24 (sk_12 hS (by decide)) rfl rfl ?_
  refine T_putI (kI := 0) dX6_copyFrom_5 fp_X6_24 (sk_122 hS (by decide)) rfl rfl h (fun M1 h => ?_)
  refine V_aload_n dX6_copyFrom_8 rfl (xm 1 rfl) ?_
  refine V_getR dX6_copyFrom_9 fl_X6_11 (sk_12 hS (by decide)) rfl ?_
  refine V_iconst dX6_copyFrom_12 ?_
  refine V_aload_n dX6_copyFrom_13 rfl (xm 0 rfl) ?_
  refine V_getR dX6_copyFrom_14 fl_X6_11 (sk_122 hS (by decide)) rfl ?_
  refine V_iconst dX6_copyFrom_17 ?_
  refine V_aload_n dX6_copyFrom_18 rfl (xm 0 rfl) ?_
  refine V_getI (kI := 0) dX6_copyFrom_19 fl_X6_24 (sk_122 hS (by decide)) rfl rfl ?_
  refine T_copy dX6_copyFrom_22 cp_X6_28 (sk_13 hS (by decide)) (sk_123 hS (by decide)) rfl rfl (by decide) (Nat.le_of_ble_eq_true rfl) h (fun M2 h => ?_)
  refine V_aload_n dX6_copyFrom_25 rfl (xm 1 rfl) ?_
  refine V_getR dX6_copyFrom_26 fl_X6_15 (sk_12 hS (by decide)) rfl ?_
  refine V_iconst dX6_copyFrom_29 ?_
  refine V_aload_n dX6_copyFrom_30 rfl (xm 0 rfl) ?_
  refine V_getR dX6_copyFrom_31 fl_X6_15 (sk_122 hS (by decide)) rfl ?_
  refine V_iconst dX6_copyFrom_34 ?_
  refine V_aload_n dX6_copyFrom_35 rfl (xm 0 rfl) ?_
  refine V_getI (kI := 0) dX6_copyFrom_36 fl_X6_24 (sk_122 hS (by decide)) rfl rfl ?_
  refine T_copy dX6_copyFrom_39 cp_X6_28 (sk_14 hS (by decide)) (sk_124 hS (by decide)) rfl rfl (by decide) (Nat.le_of_ble_eq_true rfl) h (fun M3 h => ?_)
  refine V_aload_n dX6_copyFrom_42 rfl (xm 1 rfl) ?_
  refine V_getR dX6_copyFrom_43 fl_X6_18 (sk_12 hS (by decide)) rfl ?_
  refine V_iconst dX6_copyFrom_46 ?_
  refine V_aload_n dX6_copyFrom_47 rfl (xm 0 rfl) ?_
  refine V_getR dX6_copyFrom_48 fl_X6_18 (sk_122 hS (by decide)) rfl ?_
  refine V_iconst dX6_copyFrom_51 ?_
  refine V_aload_n dX6_copyFrom_52 rfl (xm 0 rfl) ?_
  refine V_getI (kI := 0) dX6_copyFrom_53 fl_X6_24 (sk_122 hS (by decide)) rfl rfl ?_
  refine T_copy dX6_copyFrom_56 cp_X6_28 (sk_15 hS (by decide)) (sk_125 hS (by decide)) rfl rfl (by decide) (Nat.le_of_ble_eq_true rfl) h (fun M4 h => ?_)
  refine V_aload_n dX6_copyFrom_59 rfl (xm 1 rfl) ?_
  refine V_getR dX6_copyFrom_60 fl_X6_21 (sk_12 hS (by decide)) rfl ?_
  refine V_iconst dX6_copyFrom_63 ?_
  refine V_aload_n dX6_copyFrom_64 rfl (xm 0 rfl) ?_
  refine V_getR dX6_copyFrom_65 fl_X6_21 (sk_122 hS (by decide)) rfl ?_
  refine V_iconst dX6_copyFrom_68 ?_
  refine V_aload_n dX6_copyFrom_69 rfl (xm 0 rfl) ?_
  refine V_getI (kI := 0) dX6_copyFrom_70 fl_X6_24 (sk_122 hS (by decide)) rfl rfl ?_
  refine T_copy dX6_copyFrom_73 cp_X6_28 (sk_16 hS (by decide)) (sk_126 hS (by decide)) rfl rfl (by decide) (Nat.le_of_ble_eq_true rfl) h (fun M5 h => ?_)
  exact V_ret dX6_copyFrom_76 rfl (q_v h)
def fX5_copyFrom_i2 (M : xM)  : Option xM := xlet (xup M 127 0 (M 17 0)) fun M1 => xlet (xup M1 127 2 (M1 17 2)) fun M2 => xcp M2 18 24 0 128 24 0 (M2 127 0) fun M3 => xcp M3 19 24 0 129 24 0 (M3 127 0) fun M4 => xcp M4 20 24 0 130 24 0 (M4 127 0) fun M5 => xcp M5 21 24 0 131 24 0 (M5 127 0) fun M6 => some M6
set_option maxRecDepth 20000 in
set_option maxHeartbeats 1000000 in
theorem fX5_copyFrom_i2_c {S : xS} (hS : xSk (some 111) 132 S) {M : xM} {E : xM} (h : fX5_copyFrom_i2 M = some E) :
    V Y_X5_copyFrom 1 0 0 0 (xarg 0 [vR (some 127), vR (some 17)]) [] S M (xqR S E none) := by
  unfold fX5_copyFrom_i2 at h
  show V Y_X5_copyFrom 1 0 0 0 [(0, vR (some 127)), (1, vR (some 17))] [] S M _
  refine V_aload_n dX5_copyFrom_0 rfl (xm 0 rfl) ?_
  refine V_aload_n dX5_copyFrom_1 rfl (xm 1 rfl) ?_
  refine V_getI (kI := 0) dX5_copyFrom_2 fl_X5_27 (sk_17 hS (by decide)) rfl rfl ?_
  refine T_putI (kI := 0) dX5_copyFrom_5 fp_X5_27 (sk_127 hS (by decide)) rfl rfl h (fun M1 h => ?_)
  refine V_aload_n dX5_copyFrom_8 rfl (xm 0 rfl) ?_
  refine V_aload_n dX5_copyFrom_9 rfl (xm 1 rfl) ?_
  refine V_getI (kI := 2) dX5_copyFrom_10 fl_X5_31 (sk_17 hS (by decide)) rfl rfl ?_
  refine T_putI (kI := 2) dX5_copyFrom_13 fp_X5_31 (sk_127 hS (by decide)) rfl rfl h (fun M2 h => ?_)
  refine V_aload_n dX5_copyFrom_16 rfl (xm 1 rfl) ?_
  refine V_getR dX5_copyFrom_17 fl_X5_11 (sk_17 hS (by decide)) rfl ?_
  refine V_iconst dX5_copyFrom_20 ?_
  refine V_aload_n dX5_copyFrom_21 rfl (xm 0 rfl) ?_
  refine V_getR dX5_copyFrom_22 fl_X5_11 (sk_127 hS (by decide)) rfl ?_
  refine V_iconst dX5_copyFrom_25 ?_
  refine V_aload_n dX5_copyFrom_26 rfl (xm 0 rfl) ?_
  refine V_getI (kI := 0) dX5_copyFrom_27 fl_X5_27 (sk_127 hS (by decide)) rfl rfl ?_
  refine T_copy dX5_copyFrom_30 cp_X5_34 (sk_18 hS (by decide)) (sk_128 hS (by decide)) rfl rfl (by decide) (Nat.le_of_ble_eq_true rfl) h (fun M3 h => ?_)
  refine V_aload_n dX5_copyFrom_33 rfl (xm 1 rfl) ?_
  refine V_getR dX5_copyFrom_34 fl_X5_15 (sk_17 hS (by decide)) rfl ?_
  refine V_iconst dX5_copyFrom_37 ?_
  refine V_aload_n dX5_copyFrom_38 rfl (xm 0 rfl) ?_
  refine V_getR dX5_copyFrom_39 fl_X5_15 (sk_127 hS (by decide)) rfl ?_
  refine V_iconst dX5_copyFrom_42 ?_
  refine V_aload_n dX5_copyFrom_43 rfl (xm 0 rfl) ?_
  refine V_getI (kI := 0) dX5_copyFrom_44 fl_X5_27 (sk_127 hS (by decide)) rfl rfl ?_
  refine T_copy dX5_copyFrom_47 cp_X5_34 (sk_19 hS (by decide)) (sk_129 hS (by decide)) rfl rfl (by decide) (Nat.le_of_ble_eq_true rfl) h (fun M4 h => ?_)
  refine V_aload_n dX5_copyFrom_50 rfl (xm 1 rfl) ?_
  refine V_getR dX5_copyFrom_51 fl_X5_18 (sk_17 hS (by decide)) rfl ?_
  refine V_iconst dX5_copyFrom_54 ?_
  refine V_aload_n dX5_copyFrom_55 rfl (xm 0 rfl) ?_
  refine V_getR dX5_copyFrom_56 fl_X5_18 (sk_127 hS (by decide)) rfl ?_
  refine V_iconst dX5_copyFrom_59 ?_
  refine V_aload_n dX5_copyFrom_60 rfl (xm 0 rfl) ?_
  refine V_getI (kI := 0) dX5_copyFrom_61 fl_X5_27 (sk_127 hS (by decide)) rfl rfl ?_
  refine T_copy dX5_copyFrom_64 cp_X5_34 (sk_20 hS (by decide)) (sk_130 hS (by decide)) rfl rfl (by decide) (Nat.le_of_ble_eq_true rfl) h (fun M5 h => ?_)
  refine V_aload_n dX5_copyFrom_67 rfl (xm 1 rfl) ?_
  refine V_getR dX5_copyFrom_68 fl_X5_21 (sk_17 hS (by decide)) rfl ?_
  refine V_iconst dX5_copyFrom_71 ?_
  refine V_aload_n dX5_copyFrom_72 rfl (xm 0 rfl) ?_
  refine V_getR dX5_copyFrom_73 fl_X5_21 (sk_127 hS (by decide)) rfl ?_
  refine V_iconst dX5_copyFrom_76 ?_
  refine V_aload_n dX5_copyFrom_77 rfl (xm 0 rfl) ?_
  refine V_getI (kI := 0) dX5_copyFrom_78 fl_X5_27 (sk_127 hS (by decide)) rfl rfl ?_
  refine T_copy dX5_copyFrom_81 cp_X5_34 (sk_21 hS (by decide)) (sk_131 hS (by decide)) rfl rfl (by decide) (Nat.le_of_ble_eq_true rfl) h (fun M6 h => ?_)
  exact V_ret dX5_copyFrom_84 rfl (q_v h)
def fX2_copyFrom_i2 (M : xM)  : Option xM := xlet (xup M 133 0 (M 23 0)) fun M1 => xcp M1 24 40 0 134 40 0 (M1 133 0) fun M2 => xcp M2 25 40 0 135 40 0 (M2 133 0) fun M3 => xcp M3 26 40 0 136 40 0 (M3 133 0) fun M4 => some M4
set_option maxRecDepth 20000 in
set_option maxHeartbeats 1000000 in
theorem fX2_copyFrom_i2_c {S : xS} (hS : xSk (some 111) 137 S) {M : xM} {E : xM} (h : fX2_copyFrom_i2 M = some E) :
    V Y_X2_copyFrom 1 0 0 0 (xarg 0 [vR (some 133), vR (some 23)]) [] S M (xqR S E none) := by
  unfold fX2_copyFrom_i2 at h
  show V Y_X2_copyFrom 1 0 0 0 [(0, vR (some 133)), (1, vR (some 23))] [] S M _
  refine V_aload_n dX2_copyFrom_0 rfl (xm 0 rfl) ?_
  refine V_aload_n dX2_copyFrom_1 rfl (xm 1 rfl) ?_
  refine V_getI (kI := 0) dX2_copyFrom_2 fl_X2_19 (sk_23 hS (by decide)) rfl rfl ?_
  refine T_putI (kI := 0) dX2_copyFrom_5 fp_X2_19 (sk_133 hS (by decide)) rfl rfl h (fun M1 h => ?_)
  refine V_aload_n dX2_copyFrom_8 rfl (xm 1 rfl) ?_
  refine V_getR dX2_copyFrom_9 fl_X2_9 (sk_23 hS (by decide)) rfl ?_
  refine V_iconst dX2_copyFrom_12 ?_
  refine V_aload_n dX2_copyFrom_13 rfl (xm 0 rfl) ?_
  refine V_getR dX2_copyFrom_14 fl_X2_9 (sk_133 hS (by decide)) rfl ?_
  refine V_iconst dX2_copyFrom_17 ?_
  refine V_aload_n dX2_copyFrom_18 rfl (xm 0 rfl) ?_
  refine V_getI (kI := 0) dX2_copyFrom_19 fl_X2_19 (sk_133 hS (by decide)) rfl rfl ?_
  refine T_copy dX2_copyFrom_22 cp_X2_23 (sk_24 hS (by decide)) (sk_134 hS (by decide)) rfl rfl (by decide) (Nat.le_of_ble_eq_true rfl) h (fun M2 h => ?_)
  refine V_aload_n dX2_copyFrom_25 rfl (xm 1 rfl) ?_
  refine V_getR dX2_copyFrom_26 fl_X2_13 (sk_23 hS (by decide)) rfl ?_
  refine V_iconst dX2_copyFrom_29 ?_
  refine V_aload_n dX2_copyFrom_30 rfl (xm 0 rfl) ?_
  refine V_getR dX2_copyFrom_31 fl_X2_13 (sk_133 hS (by decide)) rfl ?_
  refine V_iconst dX2_copyFrom_34 ?_
  refine V_aload_n dX2_copyFrom_35 rfl (xm 0 rfl) ?_
  refine V_getI (kI := 0) dX2_copyFrom_36 fl_X2_19 (sk_133 hS (by decide)) rfl rfl ?_
  refine T_copy dX2_copyFrom_39 cp_X2_23 (sk_25 hS (by decide)) (sk_135 hS (by decide)) rfl rfl (by decide) (Nat.le_of_ble_eq_true rfl) h (fun M3 h => ?_)
  refine V_aload_n dX2_copyFrom_42 rfl (xm 1 rfl) ?_
  refine V_getR dX2_copyFrom_43 fl_X2_16 (sk_23 hS (by decide)) rfl ?_
  refine V_iconst dX2_copyFrom_46 ?_
  refine V_aload_n dX2_copyFrom_47 rfl (xm 0 rfl) ?_
  refine V_getR dX2_copyFrom_48 fl_X2_16 (sk_133 hS (by decide)) rfl ?_
  refine V_iconst dX2_copyFrom_51 ?_
  refine V_aload_n dX2_copyFrom_52 rfl (xm 0 rfl) ?_
  refine V_getI (kI := 0) dX2_copyFrom_53 fl_X2_19 (sk_133 hS (by decide)) rfl rfl ?_
  refine T_copy dX2_copyFrom_56 cp_X2_23 (sk_26 hS (by decide)) (sk_136 hS (by decide)) rfl rfl (by decide) (Nat.le_of_ble_eq_true rfl) h (fun M4 h => ?_)
  exact V_ret dX2_copyFrom_59 rfl (q_v h)
def fX1_copyFrom_i2_L148 (n : Nat) (M : xM) (v2 : Int) : Option (xM) := match n with
  | 0 => none
  | n + 1 => (if wr v2 < wr 4 then (xix 4 v2 (xix 4 v2 (xb (fX9_copyFrom_i2 M (138 + 2 * (wr v2).toNat) (28 + 2 * (wr v2).toNat)) fun M21 => fX1_copyFrom_i2_L148 n M21 (v2 + 1)))) else some M)
set_option maxRecDepth 20000 in
set_option maxHeartbeats 1000000 in
theorem fX1_copyFrom_i2_L148_c {S : xS} (hS : xSk (some 111) 146 S) {Q : Option xV → xS → xM → Prop} :
    ∀ (n : Nat) (M : xM) (v2 : Int) {Mz : xM}, fX1_copyFrom_i2_L148 n M v2 = some Mz → V Y_X1_copyFrom 2 0 0 174 [] [] S Mz Q → V Y_X1_copyFrom 2 0 0 148 [(0, vR (some 111)), (1, vR (some 1)), (2, vI v2)] [] S M Q := by
  intro n
  induction n with
  | zero =>
    intro M v2 Mz h k
    cases h
  | succ n ih =>
    intro M v2 Mz h k
    rw [fX1_copyFrom_i2_L148] at h
    refine V_iload_n dX1_copyFrom_148 rfl (xm 2 rfl) ?_
    refine V_iconst dX1_copyFrom_149 ?_
    refine V_icmp_ge (tgt := 174) dX1_copyFrom_150 (by decide) h (fun _ h => ?_) (fun _ h => ?_)
    · refine V_aload_n dX1_copyFrom_153 rfl (xm 0 rfl) ?_
      refine V_getR dX1_copyFrom_154 fl_X1_54 (sk_111 hS (by decide)) rfl ?_
      refine V_iload_n dX1_copyFrom_157 rfl (xm 2 rfl) ?_
      obtain ⟨c18, h⟩ := xixE h
      refine V_aald (r := 138 + 2 * (wr v2).toNat) dX1_copyFrom_158 (sk_137 hS (by decide)) (by decide) c18 (rw_137 c18) ?_
      refine V_aload_n dX1_copyFrom_159 rfl (xm 1 rfl) ?_
      refine V_getR dX1_copyFrom_160 fl_X1_54 (sk_1 hS (by decide)) rfl ?_
      refine V_iload_n dX1_copyFrom_163 rfl (xm 2 rfl) ?_
      obtain ⟨c19, h⟩ := xixE h
      refine V_aald (r := 28 + 2 * (wr v2).toNat) dX1_copyFrom_164 (sk_27 hS (by decide)) (by decide) c19 (rw_27 c19) ?_
      refine xbE h (fun M21 h20 h => ?_)
      refine T_callVv dX1_copyFrom_165 ok_X9_copyFrom (by exact ⟨by decide, rfl⟩) lk_X1_117.1 lk_X1_117.2 (rs_137 hS (by decide) c18) (hV := ((fX9_copyFrom_i2_c (hS.le (by decide)) (rs_137 hS (by decide) c18) (rc_137 hS (by decide) c18) (rs_27 hS (by decide) c19) (rc_27 hS (by decide) c19) h20).mono (by decide) (Nat.le_refl _) (Nat.le_refl _))) rfl (Nat.le_of_ble_eq_true rfl) rfl (Nat.le_of_ble_eq_true rfl) ?_
      refine V_iinc (ls' := [(2, vI (v2 + 1)), (0, vR (some 111)), (1, vR (some 1))]) dX1_copyFrom_168 (xm 2 rfl) (by decide) rfl ?_
      refine V_goto (tgt := 148) dX1_copyFrom_171 (by decide) ?_
      refine V.pick [1, 2, 0] rfl ?_
      exact ih M21 (v2 + 1) h k
    · cases h
      refine V.pick [] rfl ?_
      exact k
theorem fX1_copyFrom_i2_L148_ci {S : xS} (hS : xSk (some 111) 146 S) {Q : Option xV → xS → xM → Prop} {n : Nat} {M : xM} {v2 : Int} {Mz : xM} (hl : fX1_copyFrom_i2_L148 n M v2 = some Mz) (k : V Y_X1_copyFrom 2 0 0 174 [] [] S Mz Q) : V Y_X1_copyFrom 2 0 0 148 [(0, vR (some 111)), (1, vR (some 1)), (2, vI v2)] [] S M Q := fX1_copyFrom_i2_L148_c hS _ _ _ hl k
def fX1_copyFrom_i2 (M : xM)  : Option xM := xlet (xup M 111 0 (M 1 0)) fun M1 => xlet (xup M1 111 1 (M1 1 1)) fun M2 => xlet (xup M2 111 2 (M2 1 2)) fun M3 => xlet (xup M3 111 3 (M3 1 3)) fun M4 => xlet (xup M4 111 4 (M4 1 4)) fun M5 => xlet (xup M5 111 5 (M5 1 5)) fun M6 => xcp M6 2 864 0 112 864 0 864 fun M7 => xcp M7 3 410 0 113 410 0 410 fun M8 => xcp M8 4 60 0 114 60 0 60 fun M9 => xb (fX4_copyFrom_i2 M9) fun M11 => xb (fX6_copyFrom_i2 M11) fun M13 => xb (fX5_copyFrom_i2 M13) fun M15 => xb (fX2_copyFrom_i2 M15) fun M17 => xb (fX1_copyFrom_i2_L148 xfuel M17 0) fun M22 => some M22
set_option maxRecDepth 20000 in
set_option maxHeartbeats 1000000 in
theorem fX1_copyFrom_i2_c {S : xS} (hS : xSk (some 111) 146 S) {M : xM} {E : xM} (h : fX1_copyFrom_i2 M = some E) :
    V Y_X1_copyFrom 2 0 0 0 (xarg 0 [vR (some 111), vR (some 1)]) [] S M (xqR S E none) := by
  unfold fX1_copyFrom_i2 at h
  show V Y_X1_copyFrom 2 0 0 0 [(0, vR (some 111)), (1, vR (some 1))] [] S M _
  refine V_aload_n dX1_copyFrom_0 rfl (xm 0 rfl) ?_
  refine V_aload_n dX1_copyFrom_1 rfl (xm 1 rfl) ?_
  refine V_getI (kI := 0) dX1_copyFrom_2 fl_X1_64 (sk_1 hS (by decide)) rfl rfl ?_
  refine T_putI (kI := 0) dX1_copyFrom_5 fp_X1_64 (sk_111 hS (by decide)) rfl rfl h (fun M1 h => ?_)
  refine V_aload_n dX1_copyFrom_8 rfl (xm 0 rfl) ?_
  refine V_aload_n dX1_copyFrom_9 rfl (xm 1 rfl) ?_
  refine V_getI (kI := 1) dX1_copyFrom_10 fl_X1_68 (sk_1 hS (by decide)) rfl rfl ?_
  refine T_putI (kI := 1) dX1_copyFrom_13 fp_X1_68 (sk_111 hS (by decide)) rfl rfl h (fun M2 h => ?_)
  refine V_aload_n dX1_copyFrom_16 rfl (xm 0 rfl) ?_
  refine V_aload_n dX1_copyFrom_17 rfl (xm 1 rfl) ?_
  refine V_getI (kI := 2) dX1_copyFrom_18 fl_X1_71 (sk_1 hS (by decide)) rfl rfl ?_
  refine T_putI (kI := 2) dX1_copyFrom_21 fp_X1_71 (sk_111 hS (by decide)) rfl rfl h (fun M3 h => ?_)
  refine V_aload_n dX1_copyFrom_24 rfl (xm 0 rfl) ?_
  refine V_aload_n dX1_copyFrom_25 rfl (xm 1 rfl) ?_
  refine V_getI (kI := 3) dX1_copyFrom_26 fl_X1_74 (sk_1 hS (by decide)) rfl rfl ?_
  refine T_putI (kI := 3) dX1_copyFrom_29 fp_X1_74 (sk_111 hS (by decide)) rfl rfl h (fun M4 h => ?_)
  refine V_aload_n dX1_copyFrom_32 rfl (xm 0 rfl) ?_
  refine V_aload_n dX1_copyFrom_33 rfl (xm 1 rfl) ?_
  refine V_getI (kI := 4) dX1_copyFrom_34 fl_X1_77 (sk_1 hS (by decide)) rfl rfl ?_
  refine T_putI (kI := 4) dX1_copyFrom_37 fp_X1_77 (sk_111 hS (by decide)) rfl rfl h (fun M5 h => ?_)
  refine V_aload_n dX1_copyFrom_40 rfl (xm 0 rfl) ?_
  refine V_aload_n dX1_copyFrom_41 rfl (xm 1 rfl) ?_
  refine V_getI (kI := 5) dX1_copyFrom_42 fl_X1_80 (sk_1 hS (by decide)) rfl rfl ?_
  refine T_putI (kI := 5) dX1_copyFrom_45 fp_X1_80 (sk_111 hS (by decide)) rfl rfl h (fun M6 h => ?_)
  refine V_aload_n dX1_copyFrom_48 rfl (xm 1 rfl) ?_
  refine V_getR dX1_copyFrom_49 fl_X1_11 (sk_1 hS (by decide)) rfl ?_
  refine V_iconst dX1_copyFrom_52 ?_
  refine V_aload_n dX1_copyFrom_53 rfl (xm 0 rfl) ?_
  refine V_getR dX1_copyFrom_54 fl_X1_11 (sk_111 hS (by decide)) rfl ?_
  refine V_iconst dX1_copyFrom_57 ?_
  refine V_aload_n dX1_copyFrom_58 rfl (xm 0 rfl) ?_
  refine V_getR dX1_copyFrom_59 fl_X1_11 (sk_111 hS (by decide)) rfl ?_
  refine V_alen (x := 864) dX1_copyFrom_62 (sk_112 hS (by decide)) (by decide) rfl ?_
  refine T_copy dX1_copyFrom_63 cp_X1_98 (sk_2 hS (by decide)) (sk_112 hS (by decide)) rfl rfl (by decide) (Nat.le_of_ble_eq_true rfl) h (fun M7 h => ?_)
  refine V_aload_n dX1_copyFrom_66 rfl (xm 1 rfl) ?_
  refine V_getR dX1_copyFrom_67 fl_X1_17 (sk_1 hS (by decide)) rfl ?_
  refine V_iconst dX1_copyFrom_70 ?_
  refine V_aload_n dX1_copyFrom_71 rfl (xm 0 rfl) ?_
  refine V_getR dX1_copyFrom_72 fl_X1_17 (sk_111 hS (by decide)) rfl ?_
  refine V_iconst dX1_copyFrom_75 ?_
  refine V_aload_n dX1_copyFrom_76 rfl (xm 0 rfl) ?_
  refine V_getR dX1_copyFrom_77 fl_X1_17 (sk_111 hS (by decide)) rfl ?_
  refine V_alen (x := 410) dX1_copyFrom_80 (sk_113 hS (by decide)) (by decide) rfl ?_
  refine T_copy dX1_copyFrom_81 cp_X1_98 (sk_3 hS (by decide)) (sk_113 hS (by decide)) rfl rfl (by decide) (Nat.le_of_ble_eq_true rfl) h (fun M8 h => ?_)
  refine V_aload_n dX1_copyFrom_84 rfl (xm 1 rfl) ?_
  refine V_getR dX1_copyFrom_85 fl_X1_20 (sk_1 hS (by decide)) rfl ?_
  refine V_iconst dX1_copyFrom_88 ?_
  refine V_aload_n dX1_copyFrom_89 rfl (xm 0 rfl) ?_
  refine V_getR dX1_copyFrom_90 fl_X1_20 (sk_111 hS (by decide)) rfl ?_
  refine V_iconst dX1_copyFrom_93 ?_
  refine V_aload_n dX1_copyFrom_94 rfl (xm 0 rfl) ?_
  refine V_getR dX1_copyFrom_95 fl_X1_20 (sk_111 hS (by decide)) rfl ?_
  refine V_alen (x := 60) dX1_copyFrom_98 (sk_114 hS (by decide)) (by decide) rfl ?_
  refine T_copy dX1_copyFrom_99 cp_X1_98 (sk_4 hS (by decide)) (sk_114 hS (by decide)) rfl rfl (by decide) (Nat.le_of_ble_eq_true rfl) h (fun M9 h => ?_)
  refine V_aload_n dX1_copyFrom_102 rfl (xm 0 rfl) ?_
  refine V_getR dX1_copyFrom_103 fl_X1_26 (sk_111 hS (by decide)) rfl ?_
  refine V_aload_n dX1_copyFrom_106 rfl (xm 1 rfl) ?_
  refine V_getR dX1_copyFrom_107 fl_X1_26 (sk_1 hS (by decide)) rfl ?_
  refine xbE h (fun M11 h10 h => ?_)
  refine T_callVv dX1_copyFrom_110 ok_X4_copyFrom (by exact ⟨by decide, rfl⟩) lk_X1_104.1 lk_X1_104.2 (sk_115 hS (by decide)) (hV := ((fX4_copyFrom_i2_c (hS.le (by decide)) h10).mono (by decide) (Nat.le_refl _) (Nat.le_refl _))) rfl (Nat.le_of_ble_eq_true rfl) rfl (Nat.le_of_ble_eq_true rfl) ?_
  refine V_aload_n dX1_copyFrom_113 rfl (xm 0 rfl) ?_
  refine V_getR dX1_copyFrom_114 fl_X1_33 (sk_111 hS (by decide)) rfl ?_
  refine V_aload_n dX1_copyFrom_117 rfl (xm 1 rfl) ?_
  refine V_getR dX1_copyFrom_118 fl_X1_33 (sk_1 hS (by decide)) rfl ?_
  refine xbE h (fun M13 h12 h => ?_)
  refine T_callVv dX1_copyFrom_121 ok_X6_copyFrom (by exact ⟨by decide, rfl⟩) lk_X1_108.1 lk_X1_108.2 (sk_122 hS (by decide)) (hV := ((fX6_copyFrom_i2_c (hS.le (by decide)) h12).mono (by decide) (Nat.le_refl _) (Nat.le_refl _))) rfl (Nat.le_of_ble_eq_true rfl) rfl (Nat.le_of_ble_eq_true rfl) ?_
  refine V_aload_n dX1_copyFrom_124 rfl (xm 0 rfl) ?_
  refine V_getR dX1_copyFrom_125 fl_X1_40 (sk_111 hS (by decide)) rfl ?_
  refine V_aload_n dX1_copyFrom_128 rfl (xm 1 rfl) ?_
  refine V_getR dX1_copyFrom_129 fl_X1_40 (sk_1 hS (by decide)) rfl ?_
  refine xbE h (fun M15 h14 h => ?_)
  refine T_callVv dX1_copyFrom_132 ok_X5_copyFrom (by exact ⟨by decide, rfl⟩) lk_X1_111.1 lk_X1_111.2 (sk_127 hS (by decide)) (hV := ((fX5_copyFrom_i2_c (hS.le (by decide)) h14).mono (by decide) (Nat.le_refl _) (Nat.le_refl _))) rfl (Nat.le_of_ble_eq_true rfl) rfl (Nat.le_of_ble_eq_true rfl) ?_
  refine V_aload_n dX1_copyFrom_135 rfl (xm 0 rfl) ?_
  refine V_getR dX1_copyFrom_136 fl_X1_47 (sk_111 hS (by decide)) rfl ?_
  refine V_aload_n dX1_copyFrom_139 rfl (xm 1 rfl) ?_
  refine V_getR dX1_copyFrom_140 fl_X1_47 (sk_1 hS (by decide)) rfl ?_
  refine xbE h (fun M17 h16 h => ?_)
  refine T_callVv dX1_copyFrom_143 ok_X2_copyFrom (by exact ⟨by decide, rfl⟩) lk_X1_114.1 lk_X1_114.2 (sk_133 hS (by decide)) (hV := ((fX2_copyFrom_i2_c (hS.le (by decide)) h16).mono (by decide) (Nat.le_refl _) (Nat.le_refl _))) rfl (Nat.le_of_ble_eq_true rfl) rfl (Nat.le_of_ble_eq_true rfl) ?_
  refine V_iconst dX1_copyFrom_146 ?_
  refine V_istore_n (ls' := [(2, vI 0), (0, vR (some 111)), (1, vR (some 1))]) dX1_copyFrom_147 rfl (by decide) rfl ?_
  refine xbE h (fun M22 h23 h => ?_)
  refine V.pick [1, 2, 0] rfl ?_
  refine fX1_copyFrom_i2_L148_ci (hS.le (by decide)) h23 ?_
  exact V_ret dX1_copyFrom_174 rfl (q_v h)
def fX11_takeImage (M : xM)  : Option xM := xj (fun (M1 : xM) => xb (fX1_copyFrom_i2 M1) fun M4 => some M4) fun j2 => j2 M
set_option maxRecDepth 20000 in
set_option maxHeartbeats 1000000 in
theorem fX11_takeImage_c {S : xS} (hS : xSk (some 111) 146 S) {M : xM} {E : xM} (h : fX11_takeImage M = some E) :
    V Y_X11_takeImage 3 0 0 0 (xarg 0 [vR (some 0)]) [] S M (xqR S E none) := by
  unfold fX11_takeImage at h
  show V Y_X11_takeImage 3 0 0 0 [(0, vR (some 0))] [] S M _
  refine V_aload_n dX11_takeImage_0 rfl (xm 0 rfl) ?_
  refine V_getR dX11_takeImage_1 fl_X11_57 (sk_0 hS (by decide)) rfl ?_
  refine xjE h (fun j2 hj2 h => ?_)
  have kj2 : ∀ (M1 : xM), j2 M1 = some E → V Y_X11_takeImage 3 0 0 18 [(0, vR (some 0))] [] S M1 (xqR S E none) := by
    intro M1 h
    rw [hj2] at h
    refine V_aload_n dX11_takeImage_18 rfl (xm 0 rfl) ?_
    refine V_getR dX11_takeImage_19 fl_X11_57 (sk_0 hS (by decide)) rfl ?_
    refine V_aload_n dX11_takeImage_22 rfl (xm 0 rfl) ?_
    refine V_getR dX11_takeImage_23 fl_X11_12 (sk_0 hS (by decide)) rfl ?_
    refine xbE h (fun M4 h3 h => ?_)
    refine T_callVv dX11_takeImage_26 ok_X1_copyFrom (by exact ⟨by decide, rfl⟩) lk_X11_329.1 lk_X11_329.2 (sk_111 hS (by decide)) (hV := ((fX1_copyFrom_i2_c (hS.le (by decide)) h3).mono (by decide) (Nat.le_refl _) (Nat.le_refl _))) rfl (Nat.le_of_ble_eq_true rfl) rfl (Nat.le_of_ble_eq_true rfl) ?_
    exact V_ret dX11_takeImage_29 rfl (q_v h)
  refine V_ifnonnull (tgt := 18) dX11_takeImage_4 (by decide) ?_
  refine V.pick [0] rfl ?_
  exact kj2 M h
def fX11_image (M : xM) (v1 : Int) : Option (Bool × xM) := (if wr v1 = 0 then (xb (fX1_copyFrom M) fun M2 => xb (fX10_forget M2) fun M4 => xb (fX0_forget M4) fun M6 => some (true, M6)) else (xb (fX11_takeImage M) fun M8 => some (true, M8)))
set_option maxRecDepth 20000 in
set_option maxHeartbeats 1000000 in
theorem fX11_image_c {S : xS} (hS : xSk (some 111) 146 S) {M : xM} {v1 : Int} {E : Bool × xM} (h : fX11_image M v1 = some E) :
    V Y_X11_image 4 0 0 0 (xarg 0 [vR (some 0), vI v1]) [] S M (xqR S E.2 (some (vI (b2i E.1)))) := by
  unfold fX11_image at h
  show V Y_X11_image 4 0 0 0 [(0, vR (some 0)), (1, vI v1)] [] S M _
  refine V_iload_n dX11_image_0 rfl (xm 1 rfl) ?_
  refine V_if_eq (tgt := 10) dX11_image_1 (by decide) h (fun _ h => ?_) (fun _ h => ?_)
  · refine V_aload_n dX11_image_10 rfl (xm 0 rfl) ?_
    refine V_getR dX11_image_11 fl_X11_57 (sk_0 hS (by decide)) rfl ?_
    refine V_ifnonnull (tgt := 19) dX11_image_14 (by decide) ?_
    refine V_aload_n dX11_image_19 rfl (xm 0 rfl) ?_
    refine V_getR dX11_image_20 fl_X11_12 (sk_0 hS (by decide)) rfl ?_
    refine V_aload_n dX11_image_23 rfl (xm 0 rfl) ?_
    refine V_getR dX11_image_24 fl_X11_57 (sk_0 hS (by decide)) rfl ?_
    refine xbE h (fun M2 h1 h => ?_)
    refine T_callVv dX11_image_27 ok_X1_copyFrom (by exact ⟨by decide, rfl⟩) lk_X11_329.1 lk_X11_329.2 (sk_1 hS (by decide)) (hV := ((fX1_copyFrom_c (hS.le (by decide)) h1).mono (by decide) (Nat.le_refl _) (Nat.le_refl _))) rfl (Nat.le_of_ble_eq_true rfl) rfl (Nat.le_of_ble_eq_true rfl) ?_
    refine V_aload_n dX11_image_30 rfl (xm 0 rfl) ?_
    refine V_getR dX11_image_31 fl_X11_30 (sk_0 hS (by decide)) rfl ?_
    refine xbE h (fun M4 h3 h => ?_)
    refine T_callVv dX11_image_34 ok_X10_forget (by exact ⟨by decide, rfl⟩) lk_X11_64.1 lk_X11_64.2 (sk_43 hS (by decide)) (hV := ((fX10_forget_c (hS.le (by decide)) h3).mono (by decide) (Nat.le_refl _) (Nat.le_refl _))) rfl (Nat.le_of_ble_eq_true rfl) rfl (Nat.le_of_ble_eq_true rfl) ?_
    refine V_aload_n dX11_image_37 rfl (xm 0 rfl) ?_
    refine V_getR dX11_image_38 fl_X11_53 (sk_0 hS (by decide)) rfl ?_
    refine xbE h (fun M6 h5 h => ?_)
    refine T_callVv dX11_image_41 ok_X0_forget (by exact ⟨by decide, rfl⟩) lk_X11_67.1 lk_X11_67.2 (sk_79 hS (by decide)) (hV := ((fX0_forget_c (hS.le (by decide)) h5).mono (by decide) (Nat.le_refl _) (Nat.le_refl _))) rfl (Nat.le_of_ble_eq_true rfl) rfl (Nat.le_of_ble_eq_true rfl) ?_
    refine V_iconst dX11_image_44 ?_
    exact V_iretb (b := true) dX11_image_45 rfl (by decide) (q_wB h)
  · refine V_aload_n dX11_image_4 rfl (xm 0 rfl) ?_
    refine xbE h (fun M8 h7 h => ?_)
    refine T_callVv dX11_image_5 ok_X11_takeImage (by exact ⟨by decide, rfl⟩) lk_X11_326.1 lk_X11_326.2 (sk_0 hS (by decide)) (hV := ((fX11_takeImage_c (hS.le (by decide)) h7).mono (by decide) (Nat.le_refl _) (Nat.le_refl _))) rfl (Nat.le_of_ble_eq_true rfl) rfl (Nat.le_of_ble_eq_true rfl) ?_
    refine V_iconst dX11_image_8 ?_
    exact V_iretb (b := true) dX11_image_9 rfl (by decide) (q_wB h)
def aX4_init_5 (M : xM) : Option xM := xlet (xz M 6 1) fun M1 => xlet (xz M1 7 1) fun M2 => xlet (xz M2 8 1) fun M3 => xlet (xz M3 9 1) fun M4 => xlet (xz M4 10 1) fun M5 => xlet (xz M5 11 1) fun M6 => some M6
set_option maxRecDepth 20000 in
set_option maxHeartbeats 40000000 in
theorem aX4_init_5_c {P : xS} (hP : P.length = 5) {M E : xM} (h : aX4_init_5 M = some E) :
    V Y_X4_init 1 6 60 0 (xarg 0 [vR (some 5)]) [] (P ++ [(4, 7, [none, some none, some none, some none, some none, some none, some none])]) M (xqR (P ++ [(4, 7, [none, some (some 6), some (some 7), some (some 8), some (some 9), some (some 10), some (some 11)]), (100, 10, []), (100, 10, []), (100, 10, []), (100, 10, []), (100, 10, []), (100, 10, [])]) E none) := by
  unfold aX4_init_5 at h
  show V Y_X4_init 1 6 60 0 [(0, vR (some 5))] [] _ M _
  refine V_aload_n dX4_init_0 rfl (xm 0 rfl) ?_
  refine V_objInit dX4_init_1 oi_X4_3 (by decide) (Nat.le_of_ble_eq_true rfl) ?_
  refine V_aload_n dX4_init_4 rfl (xm 0 rfl) ?_
  refine V_bipush dX4_init_5 (by decide) ?_
  refine xletE h (fun M1 eM1 h => ?_)
  refine V_newa (q := 6) (kd := 100) (NN := 10) (ty := .int) dX4_init_7 (by decide) rfl na_int (by decide) (by decide) (xlenS hP rfl) rfl rfl ?_
  rw [← eM1, List.append_assoc]
  show V _ _ _ _ _ _ _ (P ++ [(4, 7, [none, some none, some none, some none, some none, some none, some none]), (100, 10, [])]) _ _
  refine V_putR dX4_init_9 fr_X4_9 (fun _ => ⟨rfl, _, _, _, rfl, rfl⟩) (fun _ => ⟨rfl, rfl⟩) (xapp (k := 0) hP rfl rfl) rfl (by rw [xlenS hP rfl]; decide) ?_
  rw [xset (k := 0) hP rfl]
  show V _ _ _ _ _ _ _ (P ++ [(4, 7, [none, some (some 6), some none, some none, some none, some none, some none]), (100, 10, [])]) _ _
  refine V_aload_n dX4_init_12 rfl (xm 0 rfl) ?_
  refine V_bipush dX4_init_13 (by decide) ?_
  refine xletE h (fun M2 eM2 h => ?_)
  refine V_newa (q := 7) (kd := 100) (NN := 10) (ty := .int) dX4_init_15 (by decide) rfl na_int (by decide) (by decide) (xlenS hP rfl) rfl rfl ?_
  rw [← eM2, List.append_assoc]
  show V _ _ _ _ _ _ _ (P ++ [(4, 7, [none, some (some 6), some none, some none, some none, some none, some none]), (100, 10, []), (100, 10, [])]) _ _
  refine V_putR dX4_init_17 fr_X4_15 (fun _ => ⟨rfl, _, _, _, rfl, rfl⟩) (fun _ => ⟨rfl, rfl⟩) (xapp (k := 0) hP rfl rfl) rfl (by rw [xlenS hP rfl]; decide) ?_
  rw [xset (k := 0) hP rfl]
  show V _ _ _ _ _ _ _ (P ++ [(4, 7, [none, some (some 6), some (some 7), some none, some none, some none, some none]), (100, 10, []), (100, 10, [])]) _ _
  refine V_aload_n dX4_init_20 rfl (xm 0 rfl) ?_
  refine V_bipush dX4_init_21 (by decide) ?_
  refine xletE h (fun M3 eM3 h => ?_)
  refine V_newa (q := 8) (kd := 100) (NN := 10) (ty := .int) dX4_init_23 (by decide) rfl na_int (by decide) (by decide) (xlenS hP rfl) rfl rfl ?_
  rw [← eM3, List.append_assoc]
  show V _ _ _ _ _ _ _ (P ++ [(4, 7, [none, some (some 6), some (some 7), some none, some none, some none, some none]), (100, 10, []), (100, 10, []), (100, 10, [])]) _ _
  refine V_putR dX4_init_25 fr_X4_18 (fun _ => ⟨rfl, _, _, _, rfl, rfl⟩) (fun _ => ⟨rfl, rfl⟩) (xapp (k := 0) hP rfl rfl) rfl (by rw [xlenS hP rfl]; decide) ?_
  rw [xset (k := 0) hP rfl]
  show V _ _ _ _ _ _ _ (P ++ [(4, 7, [none, some (some 6), some (some 7), some (some 8), some none, some none, some none]), (100, 10, []), (100, 10, []), (100, 10, [])]) _ _
  refine V_aload_n dX4_init_28 rfl (xm 0 rfl) ?_
  refine V_bipush dX4_init_29 (by decide) ?_
  refine xletE h (fun M4 eM4 h => ?_)
  refine V_newa (q := 9) (kd := 100) (NN := 10) (ty := .int) dX4_init_31 (by decide) rfl na_int (by decide) (by decide) (xlenS hP rfl) rfl rfl ?_
  rw [← eM4, List.append_assoc]
  show V _ _ _ _ _ _ _ (P ++ [(4, 7, [none, some (some 6), some (some 7), some (some 8), some none, some none, some none]), (100, 10, []), (100, 10, []), (100, 10, []), (100, 10, [])]) _ _
  refine V_putR dX4_init_33 fr_X4_21 (fun _ => ⟨rfl, _, _, _, rfl, rfl⟩) (fun _ => ⟨rfl, rfl⟩) (xapp (k := 0) hP rfl rfl) rfl (by rw [xlenS hP rfl]; decide) ?_
  rw [xset (k := 0) hP rfl]
  show V _ _ _ _ _ _ _ (P ++ [(4, 7, [none, some (some 6), some (some 7), some (some 8), some (some 9), some none, some none]), (100, 10, []), (100, 10, []), (100, 10, []), (100, 10, [])]) _ _
  refine V_aload_n dX4_init_36 rfl (xm 0 rfl) ?_
  refine V_bipush dX4_init_37 (by decide) ?_
  refine xletE h (fun M5 eM5 h => ?_)
  refine V_newa (q := 10) (kd := 100) (NN := 10) (ty := .int) dX4_init_39 (by decide) rfl na_int (by decide) (by decide) (xlenS hP rfl) rfl rfl ?_
  rw [← eM5, List.append_assoc]
  show V _ _ _ _ _ _ _ (P ++ [(4, 7, [none, some (some 6), some (some 7), some (some 8), some (some 9), some none, some none]), (100, 10, []), (100, 10, []), (100, 10, []), (100, 10, []), (100, 10, [])]) _ _
  refine V_putR dX4_init_41 fr_X4_24 (fun _ => ⟨rfl, _, _, _, rfl, rfl⟩) (fun _ => ⟨rfl, rfl⟩) (xapp (k := 0) hP rfl rfl) rfl (by rw [xlenS hP rfl]; decide) ?_
  rw [xset (k := 0) hP rfl]
  show V _ _ _ _ _ _ _ (P ++ [(4, 7, [none, some (some 6), some (some 7), some (some 8), some (some 9), some (some 10), some none]), (100, 10, []), (100, 10, []), (100, 10, []), (100, 10, []), (100, 10, [])]) _ _
  refine V_aload_n dX4_init_44 rfl (xm 0 rfl) ?_
  refine V_bipush dX4_init_45 (by decide) ?_
  refine xletE h (fun M6 eM6 h => ?_)
  refine V_newa (q := 11) (kd := 100) (NN := 10) (ty := .int) dX4_init_47 (by decide) rfl na_int (by decide) (by decide) (xlenS hP rfl) rfl rfl ?_
  rw [← eM6, List.append_assoc]
  show V _ _ _ _ _ _ _ (P ++ [(4, 7, [none, some (some 6), some (some 7), some (some 8), some (some 9), some (some 10), some none]), (100, 10, []), (100, 10, []), (100, 10, []), (100, 10, []), (100, 10, []), (100, 10, [])]) _ _
  refine V_putR dX4_init_49 fr_X4_27 (fun _ => ⟨rfl, _, _, _, rfl, rfl⟩) (fun _ => ⟨rfl, rfl⟩) (xapp (k := 0) hP rfl rfl) rfl (by rw [xlenS hP rfl]; decide) ?_
  rw [xset (k := 0) hP rfl]
  show V _ _ _ _ _ _ _ (P ++ [(4, 7, [none, some (some 6), some (some 7), some (some 8), some (some 9), some (some 10), some (some 11)]), (100, 10, []), (100, 10, []), (100, 10, []), (100, 10, []), (100, 10, []), (100, 10, [])]) _ _
  exact V_ret dX4_init_52 rfl (q_v h)
def aX6_init_12 (M : xM) : Option xM := xlet (xz M 13 1) fun M1 => xlet (xz M1 14 1) fun M2 => xlet (xz M2 15 1) fun M3 => xlet (xz M3 16 1) fun M4 => some M4
set_option maxRecDepth 20000 in
set_option maxHeartbeats 40000000 in
theorem aX6_init_12_c {P : xS} (hP : P.length = 12) {M E : xM} (h : aX6_init_12 M = some E) :
    V Y_X6_init 1 4 240 0 (xarg 0 [vR (some 12)]) [] (P ++ [(6, 5, [none, some none, some none, some none, some none])]) M (xqR (P ++ [(6, 5, [none, some (some 13), some (some 14), some (some 15), some (some 16)]), (100, 60, []), (100, 60, []), (100, 60, []), (100, 60, [])]) E none) := by
  unfold aX6_init_12 at h
  show V Y_X6_init 1 4 240 0 [(0, vR (some 12))] [] _ M _
  refine V_aload_n dX6_init_0 rfl (xm 0 rfl) ?_
  refine V_objInit dX6_init_1 oi_X6_3 (by decide) (Nat.le_of_ble_eq_true rfl) ?_
  refine V_aload_n dX6_init_4 rfl (xm 0 rfl) ?_
  refine V_bipush dX6_init_5 (by decide) ?_
  refine xletE h (fun M1 eM1 h => ?_)
  refine V_newa (q := 13) (kd := 100) (NN := 60) (ty := .int) dX6_init_7 (by decide) rfl na_int (by decide) (by decide) (xlenS hP rfl) rfl rfl ?_
  rw [← eM1, List.append_assoc]
  show V _ _ _ _ _ _ _ (P ++ [(6, 5, [none, some none, some none, some none, some none]), (100, 60, [])]) _ _
  refine V_putR dX6_init_9 fr_X6_11 (fun _ => ⟨rfl, _, _, _, rfl, rfl⟩) (fun _ => ⟨rfl, rfl⟩) (xapp (k := 0) hP rfl rfl) rfl (by rw [xlenS hP rfl]; decide) ?_
  rw [xset (k := 0) hP rfl]
  show V _ _ _ _ _ _ _ (P ++ [(6, 5, [none, some (some 13), some none, some none, some none]), (100, 60, [])]) _ _
  refine V_aload_n dX6_init_12 rfl (xm 0 rfl) ?_
  refine V_bipush dX6_init_13 (by decide) ?_
  refine xletE h (fun M2 eM2 h => ?_)
  refine V_newa (q := 14) (kd := 100) (NN := 60) (ty := .int) dX6_init_15 (by decide) rfl na_int (by decide) (by decide) (xlenS hP rfl) rfl rfl ?_
  rw [← eM2, List.append_assoc]
  show V _ _ _ _ _ _ _ (P ++ [(6, 5, [none, some (some 13), some none, some none, some none]), (100, 60, []), (100, 60, [])]) _ _
  refine V_putR dX6_init_17 fr_X6_15 (fun _ => ⟨rfl, _, _, _, rfl, rfl⟩) (fun _ => ⟨rfl, rfl⟩) (xapp (k := 0) hP rfl rfl) rfl (by rw [xlenS hP rfl]; decide) ?_
  rw [xset (k := 0) hP rfl]
  show V _ _ _ _ _ _ _ (P ++ [(6, 5, [none, some (some 13), some (some 14), some none, some none]), (100, 60, []), (100, 60, [])]) _ _
  refine V_aload_n dX6_init_20 rfl (xm 0 rfl) ?_
  refine V_bipush dX6_init_21 (by decide) ?_
  refine xletE h (fun M3 eM3 h => ?_)
  refine V_newa (q := 15) (kd := 100) (NN := 60) (ty := .int) dX6_init_23 (by decide) rfl na_int (by decide) (by decide) (xlenS hP rfl) rfl rfl ?_
  rw [← eM3, List.append_assoc]
  show V _ _ _ _ _ _ _ (P ++ [(6, 5, [none, some (some 13), some (some 14), some none, some none]), (100, 60, []), (100, 60, []), (100, 60, [])]) _ _
  refine V_putR dX6_init_25 fr_X6_18 (fun _ => ⟨rfl, _, _, _, rfl, rfl⟩) (fun _ => ⟨rfl, rfl⟩) (xapp (k := 0) hP rfl rfl) rfl (by rw [xlenS hP rfl]; decide) ?_
  rw [xset (k := 0) hP rfl]
  show V _ _ _ _ _ _ _ (P ++ [(6, 5, [none, some (some 13), some (some 14), some (some 15), some none]), (100, 60, []), (100, 60, []), (100, 60, [])]) _ _
  refine V_aload_n dX6_init_28 rfl (xm 0 rfl) ?_
  refine V_bipush dX6_init_29 (by decide) ?_
  refine xletE h (fun M4 eM4 h => ?_)
  refine V_newa (q := 16) (kd := 100) (NN := 60) (ty := .int) dX6_init_31 (by decide) rfl na_int (by decide) (by decide) (xlenS hP rfl) rfl rfl ?_
  rw [← eM4, List.append_assoc]
  show V _ _ _ _ _ _ _ (P ++ [(6, 5, [none, some (some 13), some (some 14), some (some 15), some none]), (100, 60, []), (100, 60, []), (100, 60, []), (100, 60, [])]) _ _
  refine V_putR dX6_init_33 fr_X6_21 (fun _ => ⟨rfl, _, _, _, rfl, rfl⟩) (fun _ => ⟨rfl, rfl⟩) (xapp (k := 0) hP rfl rfl) rfl (by rw [xlenS hP rfl]; decide) ?_
  rw [xset (k := 0) hP rfl]
  show V _ _ _ _ _ _ _ (P ++ [(6, 5, [none, some (some 13), some (some 14), some (some 15), some (some 16)]), (100, 60, []), (100, 60, []), (100, 60, []), (100, 60, [])]) _ _
  exact V_ret dX6_init_36 rfl (q_v h)
