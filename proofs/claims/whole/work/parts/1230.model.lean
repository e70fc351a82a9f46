def aX12_init_94 (M : xM) : Option xM := xlet (xz M 95 1) fun M1 => xlet (xz M1 96 1) fun M2 => xlet (xz M2 97 1) fun M3 => xlet (xz M3 98 1) fun M4 => xlet (xz M4 99 1) fun M5 => xlet (xz M5 100 1) fun M6 => xlet (xz M6 101 1) fun M7 => xlet (xz M7 102 1) fun M8 => xlet (xup M8 94 21 ((-1))) fun M9 => xlet (xz M9 103 1) fun M10 => xlet (xz M10 104 1) fun M11 => xlet (xz M11 105 1) fun M12 => xlet (xz M12 106 1) fun M13 => xlet (xz M13 107 1) fun M14 => xlet (xz M14 108 1) fun M15 => xlet (xz M15 109 1) fun M16 => xlet (xz M16 110 1) fun M17 => xb (fX12_begins M17 12) fun M18 => some M18
set_option maxRecDepth 20000 in
set_option maxHeartbeats 40000000 in
theorem aX12_init_94_c {P : xS} (hP : P.length = 94) (hPs : P = (Sk none).take 94) {M E : xM} (h : aX12_init_94 M = some E) :
    V Y_X12_init 1 16 20306 0 (xarg 0 [vR (some 94)]) [] (P ++ [(12, 33, [some none, some none, some none, none, none, some none, some none, some none, some none, some none, none, none, none, none, none, none, none, none, none, none, none, none, some none, some none, some none, some none, some none, some none, none, none, none, some none, some none])]) M (xqR (P ++ [(12, 33, [some (some 95), some (some 96), some (some 97), none, none, some (some 98), some (some 99), some (some 100), some (some 101), some (some 102), none, none, none, none, none, none, none, none, none, none, none, none, some (some 103), some (some 104), some (some 105), some (some 106), some (some 107), some (some 108), none, none, none, some (some 109), some (some 110)]), (100, 5820, []), (100, 5820, []), (100, 140, []), (100, 48, []), (100, 820, []), (100, 400, []), (100, 420, []), (100, 8, []), (100, 4320, []), (100, 1464, []), (100, 30, []), (100, 6, []), (100, 6, []), (100, 10, []), (100, 10, []), (101, 984, [])]) E none) := by
  unfold aX12_init_94 at h
  show V Y_X12_init 1 16 20306 0 [(0, vR (some 94))] [] _ M _
  refine V_aload_n dX12_init_0 rfl (xm 0 rfl) ?_
  refine V_objInit dX12_init_1 oi_X12_1 (by decide) (Nat.le_of_ble_eq_true rfl) ?_
  refine V_aload_n dX12_init_4 rfl (xm 0 rfl) ?_
  refine V_sipush dX12_init_5 (by decide) ?_
  refine xletE h (fun M1 eM1 h => ?_)
  refine V_newa (q := 95) (kd := 100) (NN := 5820) (ty := .int) dX12_init_8 (by decide) rfl na_int (by decide) (by decide) (xlenS hP rfl) rfl rfl ?_
  rw [← eM1, List.append_assoc]
  show V _ _ _ _ _ _ _ (P ++ [(12, 33, [some none, some none, some none, none, none, some none, some none, some none, some none, some none, none, none, none, none, none, none, none, none, none, none, none, none, some none, some none, some none, some none, some none, some none, none, none, none, some none, some none]), (100, 5820, [])]) _ _
  refine V_putR dX12_init_10 fr_X12_7 (fun _ => ⟨rfl, _, _, _, rfl, rfl⟩) (fun _ => ⟨rfl, rfl⟩) (xapp (k := 0) hP rfl rfl) rfl (by rw [xlenS hP rfl]; decide) ?_
  rw [xset (k := 0) hP rfl]
  show V _ _ _ _ _ _ _ (P ++ [(12, 33, [some (some 95), some none, some none, none, none, some none, some none, some none, some none, some none, none, none, none, none, none, none, none, none, none, none, none, none, some none, some none, some none, some none, some none, some none, none, none, none, some none, some none]), (100, 5820, [])]) _ _
  refine V_aload_n dX12_init_13 rfl (xm 0 rfl) ?_
  refine V_sipush dX12_init_14 (by decide) ?_
  refine xletE h (fun M2 eM2 h => ?_)
  refine V_newa (q := 96) (kd := 100) (NN := 5820) (ty := .int) dX12_init_17 (by decide) rfl na_int (by decide) (by decide) (xlenS hP rfl) rfl rfl ?_
  rw [← eM2, List.append_assoc]
  show V _ _ _ _ _ _ _ (P ++ [(12, 33, [some (some 95), some none, some none, none, none, some none, some none, some none, some none, some none, none, none, none, none, none, none, none, none, none, none, none, none, some none, some none, some none, some none, some none, some none, none, none, none, some none, some none]), (100, 5820, []), (100, 5820, [])]) _ _
  refine V_putR dX12_init_19 fr_X12_13 (fun _ => ⟨rfl, _, _, _, rfl, rfl⟩) (fun _ => ⟨rfl, rfl⟩) (xapp (k := 0) hP rfl rfl) rfl (by rw [xlenS hP rfl]; decide) ?_
  rw [xset (k := 0) hP rfl]
  show V _ _ _ _ _ _ _ (P ++ [(12, 33, [some (some 95), some (some 96), some none, none, none, some none, some none, some none, some none, some none, none, none, none, none, none, none, none, none, none, none, none, none, some none, some none, some none, some none, some none, some none, none, none, none, some none, some none]), (100, 5820, []), (100, 5820, [])]) _ _
  refine V_aload_n dX12_init_22 rfl (xm 0 rfl) ?_
  refine V_sipush dX12_init_23 (by decide) ?_
  refine xletE h (fun M3 eM3 h => ?_)
  refine V_newa (q := 97) (kd := 100) (NN := 140) (ty := .int) dX12_init_26 (by decide) rfl na_int (by decide) (by decide) (xlenS hP rfl) rfl rfl ?_
  rw [← eM3, List.append_assoc]
  show V _ _ _ _ _ _ _ (P ++ [(12, 33, [some (some 95), some (some 96), some none, none, none, some none, some none, some none, some none, some none, none, none, none, none, none, none, none, none, none, none, none, none, some none, some none, some none, some none, some none, some none, none, none, none, some none, some none]), (100, 5820, []), (100, 5820, []), (100, 140, [])]) _ _
  refine V_putR dX12_init_28 fr_X12_16 (fun _ => ⟨rfl, _, _, _, rfl, rfl⟩) (fun _ => ⟨rfl, rfl⟩) (xapp (k := 0) hP rfl rfl) rfl (by rw [xlenS hP rfl]; decide) ?_
  rw [xset (k := 0) hP rfl]
  show V _ _ _ _ _ _ _ (P ++ [(12, 33, [some (some 95), some (some 96), some (some 97), none, none, some none, some none, some none, some none, some none, none, none, none, none, none, none, none, none, none, none, none, none, some none, some none, some none, some none, some none, some none, none, none, none, some none, some none]), (100, 5820, []), (100, 5820, []), (100, 140, [])]) _ _
  refine V_aload_n dX12_init_31 rfl (xm 0 rfl) ?_
  refine V_bipush dX12_init_32 (by decide) ?_
  refine xletE h (fun M4 eM4 h => ?_)
  refine V_newa (q := 98) (kd := 100) (NN := 48) (ty := .int) dX12_init_34 (by decide) rfl na_int (by decide) (by decide) (xlenS hP rfl) rfl rfl ?_
  rw [← eM4, List.append_assoc]
  show V _ _ _ _ _ _ _ (P ++ [(12, 33, [some (some 95), some (some 96), some (some 97), none, none, some none, some none, some none, some none, some none, none, none, none, none, none, none, none, none, none, none, none, none, some none, some none, some none, some none, some none, some none, none, none, none, some none, some none]), (100, 5820, []), (100, 5820, []), (100, 140, []), (100, 48, [])]) _ _
  refine V_putR dX12_init_36 fr_X12_19 (fun _ => ⟨rfl, _, _, _, rfl, rfl⟩) (fun _ => ⟨rfl, rfl⟩) (xapp (k := 0) hP rfl rfl) rfl (by rw [xlenS hP rfl]; decide) ?_
  rw [xset (k := 0) hP rfl]
  show V _ _ _ _ _ _ _ (P ++ [(12, 33, [some (some 95), some (some 96), some (some 97), none, none, some (some 98), some none, some none, some none, some none, none, none, none, none, none, none, none, none, none, none, none, none, some none, some none, some none, some none, some none, some none, none, none, none, some none, some none]), (100, 5820, []), (100, 5820, []), (100, 140, []), (100, 48, [])]) _ _
  refine V_aload_n dX12_init_39 rfl (xm 0 rfl) ?_
  refine V_sipush dX12_init_40 (by decide) ?_
  refine xletE h (fun M5 eM5 h => ?_)
  refine V_newa (q := 99) (kd := 100) (NN := 820) (ty := .int) dX12_init_43 (by decide) rfl na_int (by decide) (by decide) (xlenS hP rfl) rfl rfl ?_
  rw [← eM5, List.append_assoc]
  show V _ _ _ _ _ _ _ (P ++ [(12, 33, [some (some 95), some (some 96), some (some 97), none, none, some (some 98), some none, some none, some none, some none, none, none, none, none, none, none, none, none, none, none, none, none, some none, some none, some none, some none, some none, some none, none, none, none, some none, some none]), (100, 5820, []), (100, 5820, []), (100, 140, []), (100, 48, []), (100, 820, [])]) _ _
  refine V_putR dX12_init_45 fr_X12_22 (fun _ => ⟨rfl, _, _, _, rfl, rfl⟩) (fun _ => ⟨rfl, rfl⟩) (xapp (k := 0) hP rfl rfl) rfl (by rw [xlenS hP rfl]; decide) ?_
  rw [xset (k := 0) hP rfl]
  show V _ _ _ _ _ _ _ (P ++ [(12, 33, [some (some 95), some (some 96), some (some 97), none, none, some (some 98), some (some 99), some none, some none, some none, none, none, none, none, none, none, none, none, none, none, none, none, some none, some none, some none, some none, some none, some none, none, none, none, some none, some none]), (100, 5820, []), (100, 5820, []), (100, 140, []), (100, 48, []), (100, 820, [])]) _ _
  refine V_aload_n dX12_init_48 rfl (xm 0 rfl) ?_
  refine V_sipush dX12_init_49 (by decide) ?_
  refine xletE h (fun M6 eM6 h => ?_)
  refine V_newa (q := 100) (kd := 100) (NN := 400) (ty := .int) dX12_init_52 (by decide) rfl na_int (by decide) (by decide) (xlenS hP rfl) rfl rfl ?_
  rw [← eM6, List.append_assoc]
  show V _ _ _ _ _ _ _ (P ++ [(12, 33, [some (some 95), some (some 96), some (some 97), none, none, some (some 98), some (some 99), some none, some none, some none, none, none, none, none, none, none, none, none, none, none, none, none, some none, some none, some none, some none, some none, some none, none, none, none, some none, some none]), (100, 5820, []), (100, 5820, []), (100, 140, []), (100, 48, []), (100, 820, []), (100, 400, [])]) _ _
  refine V_putR dX12_init_54 fr_X12_25 (fun _ => ⟨rfl, _, _, _, rfl, rfl⟩) (fun _ => ⟨rfl, rfl⟩) (xapp (k := 0) hP rfl rfl) rfl (by rw [xlenS hP rfl]; decide) ?_
  rw [xset (k := 0) hP rfl]
  show V _ _ _ _ _ _ _ (P ++ [(12, 33, [some (some 95), some (some 96), some (some 97), none, none, some (some 98), some (some 99), some (some 100), some none, some none, none, none, none, none, none, none, none, none, none, none, none, none, some none, some none, some none, some none, some none, some none, none, none, none, some none, some none]), (100, 5820, []), (100, 5820, []), (100, 140, []), (100, 48, []), (100, 820, []), (100, 400, [])]) _ _
  refine V_aload_n dX12_init_57 rfl (xm 0 rfl) ?_
  refine V_sipush dX12_init_58 (by decide) ?_
  refine xletE h (fun M7 eM7 h => ?_)
  refine V_newa (q := 101) (kd := 100) (NN := 420) (ty := .int) dX12_init_61 (by decide) rfl na_int (by decide) (by decide) (xlenS hP rfl) rfl rfl ?_
  rw [← eM7, List.append_assoc]
  show V _ _ _ _ _ _ _ (P ++ [(12, 33, [some (some 95), some (some 96), some (some 97), none, none, some (some 98), some (some 99), some (some 100), some none, some none, none, none, none, none, none, none, none, none, none, none, none, none, some none, some none, some none, some none, some none, some none, none, none, none, some none, some none]), (100, 5820, []), (100, 5820, []), (100, 140, []), (100, 48, []), (100, 820, []), (100, 400, []), (100, 420, [])]) _ _
  refine V_putR dX12_init_63 fr_X12_28 (fun _ => ⟨rfl, _, _, _, rfl, rfl⟩) (fun _ => ⟨rfl, rfl⟩) (xapp (k := 0) hP rfl rfl) rfl (by rw [xlenS hP rfl]; decide) ?_
  rw [xset (k := 0) hP rfl]
  show V _ _ _ _ _ _ _ (P ++ [(12, 33, [some (some 95), some (some 96), some (some 97), none, none, some (some 98), some (some 99), some (some 100), some (some 101), some none, none, none, none, none, none, none, none, none, none, none, none, none, some none, some none, some none, some none, some none, some none, none, none, none, some none, some none]), (100, 5820, []), (100, 5820, []), (100, 140, []), (100, 48, []), (100, 820, []), (100, 400, []), (100, 420, [])]) _ _
  refine V_aload_n dX12_init_66 rfl (xm 0 rfl) ?_
  refine V_bipush dX12_init_67 (by decide) ?_
  refine xletE h (fun M8 eM8 h => ?_)
  refine V_newa (q := 102) (kd := 100) (NN := 8) (ty := .int) dX12_init_69 (by decide) rfl na_int (by decide) (by decide) (xlenS hP rfl) rfl rfl ?_
  rw [← eM8, List.append_assoc]
  show V _ _ _ _ _ _ _ (P ++ [(12, 33, [some (some 95), some (some 96), some (some 97), none, none, some (some 98), some (some 99), some (some 100), some (some 101), some none, none, none, none, none, none, none, none, none, none, none, none, none, some none, some none, some none, some none, some none, some none, none, none, none, some none, some none]), (100, 5820, []), (100, 5820, []), (100, 140, []), (100, 48, []), (100, 820, []), (100, 400, []), (100, 420, []), (100, 8, [])]) _ _
  refine V_putR dX12_init_71 fr_X12_31 (fun _ => ⟨rfl, _, _, _, rfl, rfl⟩) (fun _ => ⟨rfl, rfl⟩) (xapp (k := 0) hP rfl rfl) rfl (by rw [xlenS hP rfl]; decide) ?_
  rw [xset (k := 0) hP rfl]
  show V _ _ _ _ _ _ _ (P ++ [(12, 33, [some (some 95), some (some 96), some (some 97), none, none, some (some 98), some (some 99), some (some 100), some (some 101), some (some 102), none, none, none, none, none, none, none, none, none, none, none, none, some none, some none, some none, some none, some none, some none, none, none, none, some none, some none]), (100, 5820, []), (100, 5820, []), (100, 140, []), (100, 48, []), (100, 820, []), (100, 400, []), (100, 420, []), (100, 8, [])]) _ _
  refine V_aload_n dX12_init_74 rfl (xm 0 rfl) ?_
  refine V_iconst dX12_init_75 ?_
  refine T_putI (kI := 21) dX12_init_76 fp_X12_34 (xapp (k := 0) hP rfl rfl) rfl rfl h (fun M9 h => ?_)
  refine V_aload_n dX12_init_79 rfl (xm 0 rfl) ?_
  refine V_sipush dX12_init_80 (by decide) ?_
  refine xletE h (fun M10 eM10 h => ?_)
  refine V_newa (q := 103) (kd := 100) (NN := 4320) (ty := .int) dX12_init_83 (by decide) rfl na_int (by decide) (by decide) (xlenS hP rfl) rfl rfl ?_
  rw [← eM10, List.append_assoc]
  show V _ _ _ _ _ _ _ (P ++ [(12, 33, [some (some 95), some (some 96), some (some 97), none, none, some (some 98), some (some 99), some (some 100), some (some 101), some (some 102), none, none, none, none, none, none, none, none, none, none, none, none, some none, some none, some none, some none, some none, some none, none, none, none, some none, some none]), (100, 5820, []), (100, 5820, []), (100, 140, []), (100, 48, []), (100, 820, []), (100, 400, []), (100, 420, []), (100, 8, []), (100, 4320, [])]) _ _
  refine V_putR dX12_init_85 fr_X12_38 (fun _ => ⟨rfl, _, _, _, rfl, rfl⟩) (fun _ => ⟨rfl, rfl⟩) (xapp (k := 0) hP rfl rfl) rfl (by rw [xlenS hP rfl]; decide) ?_
  rw [xset (k := 0) hP rfl]
  show V _ _ _ _ _ _ _ (P ++ [(12, 33, [some (some 95), some (some 96), some (some 97), none, none, some (some 98), some (some 99), some (some 100), some (some 101), some (some 102), none, none, none, none, none, none, none, none, none, none, none, none, some (some 103), some none, some none, some none, some none, some none, none, none, none, some none, some none]), (100, 5820, []), (100, 5820, []), (100, 140, []), (100, 48, []), (100, 820, []), (100, 400, []), (100, 420, []), (100, 8, []), (100, 4320, [])]) _ _
  refine V_aload_n dX12_init_88 rfl (xm 0 rfl) ?_
  refine V_sipush dX12_init_89 (by decide) ?_
  refine xletE h (fun M11 eM11 h => ?_)
  refine V_newa (q := 104) (kd := 100) (NN := 1464) (ty := .int) dX12_init_92 (by decide) rfl na_int (by decide) (by decide) (xlenS hP rfl) rfl rfl ?_
  rw [← eM11, List.append_assoc]
  show V _ _ _ _ _ _ _ (P ++ [(12, 33, [some (some 95), some (some 96), some (some 97), none, none, some (some 98), some (some 99), some (some 100), some (some 101), some (some 102), none, none, none, none, none, none, none, none, none, none, none, none, some (some 103), some none, some none, some none, some none, some none, none, none, none, some none, some none]), (100, 5820, []), (100, 5820, []), (100, 140, []), (100, 48, []), (100, 820, []), (100, 400, []), (100, 420, []), (100, 8, []), (100, 4320, []), (100, 1464, [])]) _ _
  refine V_putR dX12_init_94 fr_X12_41 (fun _ => ⟨rfl, _, _, _, rfl, rfl⟩) (fun _ => ⟨rfl, rfl⟩) (xapp (k := 0) hP rfl rfl) rfl (by rw [xlenS hP rfl]; decide) ?_
  rw [xset (k := 0) hP rfl]
  show V _ _ _ _ _ _ _ (P ++ [(12, 33, [some (some 95), some (some 96), some (some 97), none, none, some (some 98), some (some 99), some (some 100), some (some 101), some (some 102), none, none, none, none, none, none, none, none, none, none, none, none, some (some 103), some (some 104), some none, some none, some none, some none, none, none, none, some none, some none]), (100, 5820, []), (100, 5820, []), (100, 140, []), (100, 48, []), (100, 820, []), (100, 400, []), (100, 420, []), (100, 8, []), (100, 4320, []), (100, 1464, [])]) _ _
  refine V_aload_n dX12_init_97 rfl (xm 0 rfl) ?_
  refine V_bipush dX12_init_98 (by decide) ?_
  refine xletE h (fun M12 eM12 h => ?_)
  refine V_newa (q := 105) (kd := 100) (NN := 30) (ty := .int) dX12_init_100 (by decide) rfl na_int (by decide) (by decide) (xlenS hP rfl) rfl rfl ?_
  rw [← eM12, List.append_assoc]
  show V _ _ _ _ _ _ _ (P ++ [(12, 33, [some (some 95), some (some 96), some (some 97), none, none, some (some 98), some (some 99), some (some 100), some (some 101), some (some 102), none, none, none, none, none, none, none, none, none, none, none, none, some (some 103), some (some 104), some none, some none, some none, some none, none, none, none, some none, some none]), (100, 5820, []), (100, 5820, []), (100, 140, []), (100, 48, []), (100, 820, []), (100, 400, []), (100, 420, []), (100, 8, []), (100, 4320, []), (100, 1464, []), (100, 30, [])]) _ _
  refine V_putR dX12_init_102 fr_X12_44 (fun _ => ⟨rfl, _, _, _, rfl, rfl⟩) (fun _ => ⟨rfl, rfl⟩) (xapp (k := 0) hP rfl rfl) rfl (by rw [xlenS hP rfl]; decide) ?_
  rw [xset (k := 0) hP rfl]
  show V _ _ _ _ _ _ _ (P ++ [(12, 33, [some (some 95), some (some 96), some (some 97), none, none, some (some 98), some (some 99), some (some 100), some (some 101), some (some 102), none, none, none, none, none, none, none, none, none, none, none, none, some (some 103), some (some 104), some (some 105), some none, some none, some none, none, none, none, some none, some none]), (100, 5820, []), (100, 5820, []), (100, 140, []), (100, 48, []), (100, 820, []), (100, 400, []), (100, 420, []), (100, 8, []), (100, 4320, []), (100, 1464, []), (100, 30, [])]) _ _
  refine V_aload_n dX12_init_105 rfl (xm 0 rfl) ?_
  refine V_bipush dX12_init_106 (by decide) ?_
  refine xletE h (fun M13 eM13 h => ?_)
  refine V_newa (q := 106) (kd := 100) (NN := 6) (ty := .int) dX12_init_108 (by decide) rfl na_int (by decide) (by decide) (xlenS hP rfl) rfl rfl ?_
  rw [← eM13, List.append_assoc]
  show V _ _ _ _ _ _ _ (P ++ [(12, 33, [some (some 95), some (some 96), some (some 97), none, none, some (some 98), some (some 99), some (some 100), some (some 101), some (some 102), none, none, none, none, none, none, none, none, none, none, none, none, some (some 103), some (some 104), some (some 105), some none, some none, some none, none, none, none, some none, some none]), (100, 5820, []), (100, 5820, []), (100, 140, []), (100, 48, []), (100, 820, []), (100, 400, []), (100, 420, []), (100, 8, []), (100, 4320, []), (100, 1464, []), (100, 30, []), (100, 6, [])]) _ _
  refine V_putR dX12_init_110 fr_X12_47 (fun _ => ⟨rfl, _, _, _, rfl, rfl⟩) (fun _ => ⟨rfl, rfl⟩) (xapp (k := 0) hP rfl rfl) rfl (by rw [xlenS hP rfl]; decide) ?_
  rw [xset (k := 0) hP rfl]
  show V _ _ _ _ _ _ _ (P ++ [(12, 33, [some (some 95), some (some 96), some (some 97), none, none, some (some 98), some (some 99), some (some 100), some (some 101), some (some 102), none, none, none, none, none, none, none, none, none, none, none, none, some (some 103), some (some 104), some (some 105), some (some 106), some none, some none, none, none, none, some none, some none]), (100, 5820, []), (100, 5820, []), (100, 140, []), (100, 48, []), (100, 820, []), (100, 400, []), (100, 420, []), (100, 8, []), (100, 4320, []), (100, 1464, []), (100, 30, []), (100, 6, [])]) _ _
  refine V_aload_n dX12_init_113 rfl (xm 0 rfl) ?_
  refine V_bipush dX12_init_114 (by decide) ?_
  refine xletE h (fun M14 eM14 h => ?_)
  refine V_newa (q := 107) (kd := 100) (NN := 6) (ty := .int) dX12_init_116 (by decide) rfl na_int (by decide) (by decide) (xlenS hP rfl) rfl rfl ?_
  rw [← eM14, List.append_assoc]
  show V _ _ _ _ _ _ _ (P ++ [(12, 33, [some (some 95), some (some 96), some (some 97), none, none, some (some 98), some (some 99), some (some 100), some (some 101), some (some 102), none, none, none, none, none, none, none, none, none, none, none, none, some (some 103), some (some 104), some (some 105), some (some 106), some none, some none, none, none, none, some none, some none]), (100, 5820, []), (100, 5820, []), (100, 140, []), (100, 48, []), (100, 820, []), (100, 400, []), (100, 420, []), (100, 8, []), (100, 4320, []), (100, 1464, []), (100, 30, []), (100, 6, []), (100, 6, [])]) _ _
  refine V_putR dX12_init_118 fr_X12_50 (fun _ => ⟨rfl, _, _, _, rfl, rfl⟩) (fun _ => ⟨rfl, rfl⟩) (xapp (k := 0) hP rfl rfl) rfl (by rw [xlenS hP rfl]; decide) ?_
  rw [xset (k := 0) hP rfl]
  show V _ _ _ _ _ _ _ (P ++ [(12, 33, [some (some 95), some (some 96), some (some 97), none, none, some (some 98), some (some 99), some (some 100), some (some 101), some (some 102), none, none, none, none, none, none, none, none, none, none, none, none, some (some 103), some (some 104), some (some 105), some (some 106), some (some 107), some none, none, none, none, some none, some none]), (100, 5820, []), (100, 5820, []), (100, 140, []), (100, 48, []), (100, 820, []), (100, 400, []), (100, 420, []), (100, 8, []), (100, 4320, []), (100, 1464, []), (100, 30, []), (100, 6, []), (100, 6, [])]) _ _
  refine V_aload_n dX12_init_121 rfl (xm 0 rfl) ?_
  refine V_bipush dX12_init_122 (by decide) ?_
  refine xletE h (fun M15 eM15 h => ?_)
  refine V_newa (q := 108) (kd := 100) (NN := 10) (ty := .int) dX12_init_124 (by decide) rfl na_int (by decide) (by decide) (xlenS hP rfl) rfl rfl ?_
  rw [← eM15, List.append_assoc]
  show V _ _ _ _ _ _ _ (P ++ [(12, 33, [some (some 95), some (some 96), some (some 97), none, none, some (some 98), some (some 99), some (some 100), some (some 101), some (some 102), none, none, none, none, none, none, none, none, none, none, none, none, some (some 103), some (some 104), some (some 105), some (some 106), some (some 107), some none, none, none, none, some none, some none]), (100, 5820, []), (100, 5820, []), (100, 140, []), (100, 48, []), (100, 820, []), (100, 400, []), (100, 420, []), (100, 8, []), (100, 4320, []), (100, 1464, []), (100, 30, []), (100, 6, []), (100, 6, []), (100, 10, [])]) _ _
  refine V_putR dX12_init_126 fr_X12_53 (fun _ => ⟨rfl, _, _, _, rfl, rfl⟩) (fun _ => ⟨rfl, rfl⟩) (xapp (k := 0) hP rfl rfl) rfl (by rw [xlenS hP rfl]; decide) ?_
  rw [xset (k := 0) hP rfl]
  show V _ _ _ _ _ _ _ (P ++ [(12, 33, [some (some 95), some (some 96), some (some 97), none, none, some (some 98), some (some 99), some (some 100), some (some 101), some (some 102), none, none, none, none, none, none, none, none, none, none, none, none, some (some 103), some (some 104), some (some 105), some (some 106), some (some 107), some (some 108), none, none, none, some none, some none]), (100, 5820, []), (100, 5820, []), (100, 140, []), (100, 48, []), (100, 820, []), (100, 400, []), (100, 420, []), (100, 8, []), (100, 4320, []), (100, 1464, []), (100, 30, []), (100, 6, []), (100, 6, []), (100, 10, [])]) _ _
  refine V_aload_n dX12_init_129 rfl (xm 0 rfl) ?_
  refine V_bipush dX12_init_130 (by decide) ?_
  refine xletE h (fun M16 eM16 h => ?_)
  refine V_newa (q := 109) (kd := 100) (NN := 10) (ty := .int) dX12_init_132 (by decide) rfl na_int (by decide) (by decide) (xlenS hP rfl) rfl rfl ?_
  rw [← eM16, List.append_assoc]
  show V _ _ _ _ _ _ _ (P ++ [(12, 33, [some (some 95), some (some 96), some (some 97), none, none, some (some 98), some (some 99), some (some 100), some (some 101), some (some 102), none, none, none, none, none, none, none, none, none, none, none, none, some (some 103), some (some 104), some (some 105), some (some 106), some (some 107), some (some 108), none, none, none, some none, some none]), (100, 5820, []), (100, 5820, []), (100, 140, []), (100, 48, []), (100, 820, []), (100, 400, []), (100, 420, []), (100, 8, []), (100, 4320, []), (100, 1464, []), (100, 30, []), (100, 6, []), (100, 6, []), (100, 10, []), (100, 10, [])]) _ _
  refine V_putR dX12_init_134 fr_X12_56 (fun _ => ⟨rfl, _, _, _, rfl, rfl⟩) (fun _ => ⟨rfl, rfl⟩) (xapp (k := 0) hP rfl rfl) rfl (by rw [xlenS hP rfl]; decide) ?_
  rw [xset (k := 0) hP rfl]
  show V _ _ _ _ _ _ _ (P ++ [(12, 33, [some (some 95), some (some 96), some (some 97), none, none, some (some 98), some (some 99), some (some 100), some (some 101), some (some 102), none, none, none, none, none, none, none, none, none, none, none, none, some (some 103), some (some 104), some (some 105), some (some 106), some (some 107), some (some 108), none, none, none, some (some 109), some none]), (100, 5820, []), (100, 5820, []), (100, 140, []), (100, 48, []), (100, 820, []), (100, 400, []), (100, 420, []), (100, 8, []), (100, 4320, []), (100, 1464, []), (100, 30, []), (100, 6, []), (100, 6, []), (100, 10, []), (100, 10, [])]) _ _
  refine V_aload_n dX12_init_137 rfl (xm 0 rfl) ?_
  refine V_sipush dX12_init_138 (by decide) ?_
  refine xletE h (fun M17 eM17 h => ?_)
  refine V_newa (q := 110) (kd := 101) (NN := 984) (ty := .long) dX12_init_141 (by decide) rfl na_long (by decide) (by decide) (xlenS hP rfl) rfl rfl ?_
  rw [← eM17, List.append_assoc]
  show V _ _ _ _ _ _ _ (P ++ [(12, 33, [some (some 95), some (some 96), some (some 97), none, none, some (some 98), some (some 99), some (some 100), some (some 101), some (some 102), none, none, none, none, none, none, none, none, none, none, none, none, some (some 103), some (some 104), some (some 105), some (some 106), some (some 107), some (some 108), none, none, none, some (some 109), some none]), (100, 5820, []), (100, 5820, []), (100, 140, []), (100, 48, []), (100, 820, []), (100, 400, []), (100, 420, []), (100, 8, []), (100, 4320, []), (100, 1464, []), (100, 30, []), (100, 6, []), (100, 6, []), (100, 10, []), (100, 10, []), (101, 984, [])]) _ _
  refine V_putR dX12_init_143 fr_X12_59 (fun _ => ⟨rfl, _, _, _, rfl, rfl⟩) (fun _ => ⟨rfl, rfl⟩) (xapp (k := 0) hP rfl rfl) rfl (by rw [xlenS hP rfl]; decide) ?_
  rw [xset (k := 0) hP rfl]
  show V _ _ _ _ _ _ _ (P ++ [(12, 33, [some (some 95), some (some 96), some (some 97), none, none, some (some 98), some (some 99), some (some 100), some (some 101), some (some 102), none, none, none, none, none, none, none, none, none, none, none, none, some (some 103), some (some 104), some (some 105), some (some 106), some (some 107), some (some 108), none, none, none, some (some 109), some (some 110)]), (100, 5820, []), (100, 5820, []), (100, 140, []), (100, 48, []), (100, 820, []), (100, 400, []), (100, 420, []), (100, 8, []), (100, 4320, []), (100, 1464, []), (100, 30, []), (100, 6, []), (100, 6, []), (100, 10, []), (100, 10, []), (101, 984, [])]) _ _
  refine V_aload_n dX12_init_146 rfl (xm 0 rfl) ?_
  refine V_bipush dX12_init_147 (by decide) ?_
  refine xbE h (fun M18 h19 h => ?_)
  refine T_callVv dX12_init_149 ok_X12_begins (by exact ⟨by decide, rfl⟩) lk_X12_63.1 lk_X12_63.2 (xapp (k := 0) hP rfl rfl) (hV := ((fX12_begins_c (xskE96 hPs)  h19).mono (by decide) (Nat.le_refl _) (Nat.le_refl _))) rfl (Nat.le_of_ble_eq_true rfl) rfl (Nat.le_of_ble_eq_true rfl) ?_
  exact V_ret dX12_init_152 rfl (q_v h)
def aX4_init_115 (M : xM) : Option xM := xlet (xz M 116 1) fun M1 => xlet (xz M1 117 1) fun M2 => xlet (xz M2 118 1) fun M3 => xlet (xz M3 119 1) fun M4 => xlet (xz M4 120 1) fun M5 => xlet (xz M5 121 1) fun M6 => some M6
set_option maxRecDepth 20000 in
set_option maxHeartbeats 40000000 in
theorem aX4_init_115_c {P : xS} (hP : P.length = 115) {M E : xM} (h : aX4_init_115 M = some E) :
    V Y_X4_init 1 6 60 0 (xarg 0 [vR (some 115)]) [] (P ++ [(4, 7, [none, some none, some none, some none, some none, some none, some none])]) M (xqR (P ++ [(4, 7, [none, some (some 116), some (some 117), some (some 118), some (some 119), some (some 120), some (some 121)]), (100, 10, []), (100, 10, []), (100, 10, []), (100, 10, []), (100, 10, []), (100, 10, [])]) E none) := by
  unfold aX4_init_115 at h
  show V Y_X4_init 1 6 60 0 [(0, vR (some 115))] [] _ M _
  refine V_aload_n dX4_init_0 rfl (xm 0 rfl) ?_
  refine V_objInit dX4_init_1 oi_X4_3 (by decide) (Nat.le_of_ble_eq_true rfl) ?_
  refine V_aload_n dX4_init_4 rfl (xm 0 rfl) ?_
  refine V_bipush dX4_init_5 (by decide) ?_
  refine xletE h (fun M1 eM1 h => ?_)
  refine V_newa (q := 116) (kd := 100) (NN := 10) (ty := .int) dX4_init_7 (by decide) rfl na_int (by decide) (by decide) (xlenS hP rfl) rfl rfl ?_
  rw [← eM1, List.append_assoc]
  show V _ _ _ _ _ _ _ (P ++ [(4, 7, [none, some none, some none, some none, some none, some none, some none]), (100, 10, [])]) _ _
  refine V_putR dX4_init_9 fr_X4_9 (fun _ => ⟨rfl, _, _, _, rfl, rfl⟩) (fun _ => ⟨rfl, rfl⟩) (xapp (k := 0) hP rfl rfl) rfl (by rw [xlenS hP rfl]; decide) ?_
  rw [xset (k := 0) hP rfl]
  show V _ _ _ _ _ _ _ (P ++ [(4, 7, [none, some (some 116), some none, some none, some none, some none, some none]), (100, 10, [])]) _ _
  refine V_aload_n dX4_init_12 rfl (xm 0 rfl) ?_
  refine V_bipush dX4_init_13 (by decide) ?_
  refine xletE h (fun M2 eM2 h => ?_)
  refine V_newa (q := 117) (kd := 100) (NN := 10) (ty := .int) dX4_init_15 (by decide) rfl na_int (by decide) (by decide) (xlenS hP rfl) rfl rfl ?_
  rw [← eM2, List.append_assoc]
  show V _ _ _ _ _ _ _ (P ++ [(4, 7, [none, some (some 116), some none, some none, some none, some none, some none]), (100, 10, []), (100, 10, [])]) _ _
  refine V_putR dX4_init_17 fr_X4_15 (fun _ => ⟨rfl, _, _, _, rfl, rfl⟩) (fun _ => ⟨rfl, rfl⟩) (xapp (k := 0) hP rfl rfl) rfl (by rw [xlenS hP rfl]; decide) ?_
  rw [xset (k := 0) hP rfl]
  show V _ _ _ _ _ _ _ (P ++ [(4, 7, [none, some (some 116), some (some 117), some none, some none, some none, some none]), (100, 10, []), (100, 10, [])]) _ _
  refine V_aload_n dX4_init_20 rfl (xm 0 rfl) ?_
  refine V_bipush dX4_init_21 (by decide) ?_
  refine xletE h (fun M3 eM3 h => ?_)
  refine V_newa (q := 118) (kd := 100) (NN := 10) (ty := .int) dX4_init_23 (by decide) rfl na_int (by decide) (by decide) (xlenS hP rfl) rfl rfl ?_
  rw [← eM3, List.append_assoc]
  show V _ _ _ _ _ _ _ (P ++ [(4, 7, [none, some (some 116), some (some 117), some none, some none, some none, some none]), (100, 10, []), (100, 10, []), (100, 10, [])]) _ _
  refine V_putR dX4_init_25 fr_X4_18 (fun _ => ⟨rfl, _, _, _, rfl, rfl⟩) (fun _ => ⟨rfl, rfl⟩) (xapp (k := 0) hP rfl rfl) rfl (by rw [xlenS hP rfl]; decide) ?_
  rw [xset (k := 0) hP rfl]
  show V _ _ _ _ _ _ _ (P ++ [(4, 7, [none, some (some 116), some (some 117), some (some 118), some none, some none, some none]), (100, 10, []), (100, 10, []), (100, 10, [])]) _ _
  refine V_aload_n dX4_init_28 rfl (xm 0 rfl) ?_
  refine V_bipush dX4_init_29 (by decide) ?_
  refine xletE h (fun M4 eM4 h => ?_)
  refine V_newa (q := 119) (kd := 100) (NN := 10) (ty := .int) dX4_init_31 (by decide) rfl na_int (by decide) (by decide) (xlenS hP rfl) rfl rfl ?_
  rw [← eM4, List.append_assoc]
  show V _ _ _ _ _ _ _ (P ++ [(4, 7, [none, some (some 116), some (some 117), some (some 118), some none, some none, some none]), (100, 10, []), (100, 10, []), (100, 10, []), (100, 10, [])]) _ _
  refine V_putR dX4_init_33 fr_X4_21 (fun _ => ⟨rfl, _, _, _, rfl, rfl⟩) (fun _ => ⟨rfl, rfl⟩) (xapp (k := 0) hP rfl rfl) rfl (by rw [xlenS hP rfl]; decide) ?_
  rw [xset (k := 0) hP rfl]
  show V _ _ _ _ _ _ _ (P ++ [(4, 7, [none, some (some 116), some (some 117), some (some 118), some (some 119), some none, some none]), (100, 10, []), (100, 10, []), (100, 10, []), (100, 10, [])]) _ _
  refine V_aload_n dX4_init_36 rfl (xm 0 rfl) ?_
  refine V_bipush dX4_init_37 (by decide) ?_
  refine xletE h (fun M5 eM5 h => ?_)
  refine V_newa (q := 120) (kd := 100) (NN := 10) (ty := .int) dX4_init_39 (by decide) rfl na_int (by decide) (by decide) (xlenS hP rfl) rfl rfl ?_
  rw [← eM5, List.append_assoc]
  show V _ _ _ _ _ _ _ (P ++ [(4, 7, [none, some (some 116), some (some 117), some (some 118), some (some 119), some none, some none]), (100, 10, []), (100, 10, []), (100, 10, []), (100, 10, []), (100, 10, [])]) _ _
  refine V_putR dX4_init_41 fr_X4_24 (fun _ => ⟨rfl, _, _, _, rfl, rfl⟩) (fun _ => ⟨rfl, rfl⟩) (xapp (k := 0) hP rfl rfl) rfl (by rw [xlenS hP rfl]; decide) ?_
  rw [xset (k := 0) hP rfl]
  show V _ _ _ _ _ _ _ (P ++ [(4, 7, [none, some (some 116), some (some 117), some (some 118), some (some 119), some (some 120), some none]), (100, 10, []), (100, 10, []), (100, 10, []), (100, 10, []), (100, 10, [])]) _ _
  refine V_aload_n dX4_init_44 rfl (xm 0 rfl) ?_
  refine V_bipush dX4_init_45 (by decide) ?_
  refine xletE h (fun M6 eM6 h => ?_)
  refine V_newa (q := 121) (kd := 100) (NN := 10) (ty := .int) dX4_init_47 (by decide) rfl na_int (by decide) (by decide) (xlenS hP rfl) rfl rfl ?_
  rw [← eM6, List.append_assoc]
  show V _ _ _ _ _ _ _ (P ++ [(4, 7, [none, some (some 116), some (some 117), some (some 118), some (some 119), some (some 120), some none]), (100, 10, []), (100, 10, []), (100, 10, []), (100, 10, []), (100, 10, []), (100, 10, [])]) _ _
  refine V_putR dX4_init_49 fr_X4_27 (fun _ => ⟨rfl, _, _, _, rfl, rfl⟩) (fun _ => ⟨rfl, rfl⟩) (xapp (k := 0) hP rfl rfl) rfl (by rw [xlenS hP rfl]; decide) ?_
  rw [xset (k := 0) hP rfl]
  show V _ _ _ _ _ _ _ (P ++ [(4, 7, [none, some (some 116), some (some 117), some (some 118), some (some 119), some (some 120), some (some 121)]), (100, 10, []), (100, 10, []), (100, 10, []), (100, 10, []), (100, 10, []), (100, 10, [])]) _ _
  exact V_ret dX4_init_52 rfl (q_v h)
def aX6_init_122 (M : xM) : Option xM := xlet (xz M 123 1) fun M1 => xlet (xz M1 124 1) fun M2 => xlet (xz M2 125 1) fun M3 => xlet (xz M3 126 1) fun M4 => some M4
set_option maxRecDepth 20000 in
set_option maxHeartbeats 40000000 in
theorem aX6_init_122_c {P : xS} (hP : P.length = 122) {M E : xM} (h : aX6_init_122 M = some E) :
    V Y_X6_init 1 4 240 0 (xarg 0 [vR (some 122)]) [] (P ++ [(6, 5, [none, some none, some none, some none, some none])]) M (xqR (P ++ [(6, 5, [none, some (some 123), some (some 124), some (some 125), some (some 126)]), (100, 60, []), (100, 60, []), (100, 60, []), (100, 60, [])]) E none) := by
  unfold aX6_init_122 at h
  show V Y_X6_init 1 4 240 0 [(0, vR (some 122))] [] _ M _
  refine V_aload_n dX6_init_0 rfl (xm 0 rfl) ?_
  refine V_objInit dX6_init_1 oi_X6_3 (by decide) (Nat.le_of_ble_eq_true rfl) ?_
  refine V_aload_n dX6_init_4 rfl (xm 0 rfl) ?_
  refine V_bipush dX6_init_5 (by decide) ?_
  refine xletE h (fun M1 eM1 h => ?_)
  refine V_newa (q := 123) (kd := 100) (NN := 60) (ty := .int) dX6_init_7 (by decide) rfl na_int (by decide) (by decide) (xlenS hP rfl) rfl rfl ?_
  rw [← eM1, List.append_assoc]
  show V _ _ _ _ _ _ _ (P ++ [(6, 5, [none, some none, some none, some none, some none]), (100, 60, [])]) _ _
  refine V_putR dX6_init_9 fr_X6_11 (fun _ => ⟨rfl, _, _, _, rfl, rfl⟩) (fun _ => ⟨rfl, rfl⟩) (xapp (k := 0) hP rfl rfl) rfl (by rw [xlenS hP rfl]; decide) ?_
  rw [xset (k := 0) hP rfl]
  show V _ _ _ _ _ _ _ (P ++ [(6, 5, [none, some (some 123), some none, some none, some none]), (100, 60, [])]) _ _
  refine V_aload_n dX6_init_12 rfl (xm 0 rfl) ?_
  refine V_bipush dX6_init_13 (by decide) ?_
  refine xletE h (fun M2 eM2 h => ?_)
  refine V_newa (q := 124) (kd := 100) (NN := 60) (ty := .int) dX6_init_15 (by decide) rfl na_int (by decide) (by decide) (xlenS hP rfl) rfl rfl ?_
  rw [← eM2, List.append_assoc]
  show V _ _ _ _ _ _ _ (P ++ [(6, 5, [none, some (some 123), some none, some none, some none]), (100, 60, []), (100, 60, [])]) _ _
  refine V_putR dX6_init_17 fr_X6_15 (fun _ => ⟨rfl, _, _, _, rfl, rfl⟩) (fun _ => ⟨rfl, rfl⟩) (xapp (k := 0) hP rfl rfl) rfl (by rw [xlenS hP rfl]; decide) ?_
  rw [xset (k := 0) hP rfl]
  show V _ _ _ _ _ _ _ (P ++ [(6, 5, [none, some (some 123), some (some 124), some none, some none]), (100, 60, []), (100, 60, [])]) _ _
  refine V_aload_n dX6_init_20 rfl (xm 0 rfl) ?_
  refine V_bipush dX6_init_21 (by decide) ?_
  refine xletE h (fun M3 eM3 h => ?_)
  refine V_newa (q := 125) (kd := 100) (NN := 60) (ty := .int) dX6_init_23 (by decide) rfl na_int (by decide) (by decide) (xlenS hP rfl) rfl rfl ?_
  rw [← eM3, List.append_assoc]
  show V _ _ _ _ _ _ _ (P ++ [(6, 5, [none, some (some 123), some (some 124), some none, some none]), (100, 60, []), (100, 60, []), (100, 60, [])]) _ _
  refine V_putR dX6_init_25 fr_X6_18 (fun _ => ⟨rfl, _, _, _, rfl, rfl⟩) (fun _ => ⟨rfl, rfl⟩) (xapp (k := 0) hP rfl rfl) rfl (by rw [xlenS hP rfl]; decide) ?_
  rw [xset (k := 0) hP rfl]
  show V _ _ _ _ _ _ _ (P ++ [(6, 5, [none, some (some 123), some (some 124), some (some 125), some none]), (100, 60, []), (100, 60, []), (100, 60, [])]) _ _
  refine V_aload_n dX6_init_28 rfl (xm 0 rfl) ?_
  refine V_bipush dX6_init_29 (by decide) ?_
  refine xletE h (fun M4 eM4 h => ?_)
  refine V_newa (q := 126) (kd := 100) (NN := 60) (ty := .int) dX6_init_31 (by decide) rfl na_int (by decide) (by decide) (xlenS hP rfl) rfl rfl ?_
  rw [← eM4, List.append_assoc]
  show V _ _ _ _ _ _ _ (P ++ [(6, 5, [none, some (some 123), some (some 124), some (some 125), some none]), (100, 60, []), (100, 60, []), (100, 60, []), (100, 60, [])]) _ _
  refine V_putR dX6_init_33 fr_X6_21 (fun _ => ⟨rfl, _, _, _, rfl, rfl⟩) (fun _ => ⟨rfl, rfl⟩) (xapp (k := 0) hP rfl rfl) rfl (by rw [xlenS hP rfl]; decide) ?_
  rw [xset (k := 0) hP rfl]
  show V _ _ _ _ _ _ _ (P ++ [(6, 5, [none, some (some 123), some (some 124), some (some 125), some (some 126)]), (100, 60, []), (100, 60, []), (100, 60, []), (100, 60, [])]) _ _
  exact V_ret dX6_init_36 rfl (q_v h)
def aX5_init_127 (M : xM) : Option xM := xlet (xz M 128 1) fun M1 => xlet (xz M1 129 1) fun M2 => xlet (xz M2 130 1) fun M3 => xlet (xz M3 131 1) fun M4 => xlet (xz M4 132 1) fun M5 => some M5
set_option maxRecDepth 20000 in
set_option maxHeartbeats 40000000 in
theorem aX5_init_127_c {P : xS} (hP : P.length = 127) {M E : xM} (h : aX5_init_127 M = some E) :
    V Y_X5_init 1 5 120 0 (xarg 0 [vR (some 127)]) [] (P ++ [(5, 7, [none, some none, none, some none, some none, some none, some none])]) M (xqR (P ++ [(5, 7, [none, some (some 128), none, some (some 129), some (some 130), some (some 131), some (some 132)]), (100, 24, []), (100, 24, []), (100, 24, []), (100, 24, []), (100, 24, [])]) E none) := by
  unfold aX5_init_127 at h
  show V Y_X5_init 1 5 120 0 [(0, vR (some 127))] [] _ M _
  refine V_aload_n dX5_init_0 rfl (xm 0 rfl) ?_
  refine V_objInit dX5_init_1 oi_X5_3 (by decide) (Nat.le_of_ble_eq_true rfl) ?_
  refine V_aload_n dX5_init_4 rfl (xm 0 rfl) ?_
  refine V_bipush dX5_init_5 (by decide) ?_
  refine xletE h (fun M1 eM1 h => ?_)
  refine V_newa (q := 128) (kd := 100) (NN := 24) (ty := .int) dX5_init_7 (by decide) rfl na_int (by decide) (by decide) (xlenS hP rfl) rfl rfl ?_
  rw [← eM1, List.append_assoc]
  show V _ _ _ _ _ _ _ (P ++ [(5, 7, [none, some none, none, some none, some none, some none, some none]), (100, 24, [])]) _ _
  refine V_putR dX5_init_9 fr_X5_11 (fun _ => ⟨rfl, _, _, _, rfl, rfl⟩) (fun _ => ⟨rfl, rfl⟩) (xapp (k := 0) hP rfl rfl) rfl (by rw [xlenS hP rfl]; decide) ?_
  rw [xset (k := 0) hP rfl]
  show V _ _ _ _ _ _ _ (P ++ [(5, 7, [none, some (some 128), none, some none, some none, some none, some none]), (100, 24, [])]) _ _
  refine V_aload_n dX5_init_12 rfl (xm 0 rfl) ?_
  refine V_bipush dX5_init_13 (by decide) ?_
  refine xletE h (fun M2 eM2 h => ?_)
  refine V_newa (q := 129) (kd := 100) (NN := 24) (ty := .int) dX5_init_15 (by decide) rfl na_int (by decide) (by decide) (xlenS hP rfl) rfl rfl ?_
  rw [← eM2, List.append_assoc]
  show V _ _ _ _ _ _ _ (P ++ [(5, 7, [none, some (some 128), none, some none, some none, some none, some none]), (100, 24, []), (100, 24, [])]) _ _
  refine V_putR dX5_init_17 fr_X5_15 (fun _ => ⟨rfl, _, _, _, rfl, rfl⟩) (fun _ => ⟨rfl, rfl⟩) (xapp (k := 0) hP rfl rfl) rfl (by rw [xlenS hP rfl]; decide) ?_
  rw [xset (k := 0) hP rfl]
  show V _ _ _ _ _ _ _ (P ++ [(5, 7, [none, some (some 128), none, some (some 129), some none, some none, some none]), (100, 24, []), (100, 24, [])]) _ _
  refine V_aload_n dX5_init_20 rfl (xm 0 rfl) ?_
  refine V_bipush dX5_init_21 (by decide) ?_
  refine xletE h (fun M3 eM3 h => ?_)
  refine V_newa (q := 130) (kd := 100) (NN := 24) (ty := .int) dX5_init_23 (by decide) rfl na_int (by decide) (by decide) (xlenS hP rfl) rfl rfl ?_
  rw [← eM3, List.append_assoc]
  show V _ _ _ _ _ _ _ (P ++ [(5, 7, [none, some (some 128), none, some (some 129), some none, some none, some none]), (100, 24, []), (100, 24, []), (100, 24, [])]) _ _
  refine V_putR dX5_init_25 fr_X5_18 (fun _ => ⟨rfl, _, _, _, rfl, rfl⟩) (fun _ => ⟨rfl, rfl⟩) (xapp (k := 0) hP rfl rfl) rfl (by rw [xlenS hP rfl]; decide) ?_
  rw [xset (k := 0) hP rfl]
  show V _ _ _ _ _ _ _ (P ++ [(5, 7, [none, some (some 128), none, some (some 129), some (some 130), some none, some none]), (100, 24, []), (100, 24, []), (100, 24, [])]) _ _
  refine V_aload_n dX5_init_28 rfl (xm 0 rfl) ?_
  refine V_bipush dX5_init_29 (by decide) ?_
  refine xletE h (fun M4 eM4 h => ?_)
  refine V_newa (q := 131) (kd := 100) (NN := 24) (ty := .int) dX5_init_31 (by decide) rfl na_int (by decide) (by decide) (xlenS hP rfl) rfl rfl ?_
  rw [← eM4, List.append_assoc]
  show V _ _ _ _ _ _ _ (P ++ [(5, 7, [none, some (some 128), none, some (some 129), some (some 130), some none, some none]), (100, 24, []), (100, 24, []), (100, 24, []), (100, 24, [])]) _ _
  refine V_putR dX5_init_33 fr_X5_21 (fun _ => ⟨rfl, _, _, _, rfl, rfl⟩) (fun _ => ⟨rfl, rfl⟩) (xapp (k := 0) hP rfl rfl) rfl (by rw [xlenS hP rfl]; decide) ?_
  rw [xset (k := 0) hP rfl]
  show V _ _ _ _ _ _ _ (P ++ [(5, 7, [none, some (some 128), none, some (some 129), some (some 130), some (some 131), some none]), (100, 24, []), (100, 24, []), (100, 24, []), (100, 24, [])]) _ _
  refine V_aload_n dX5_init_36 rfl (xm 0 rfl) ?_
  refine V_bipush dX5_init_37 (by decide) ?_
  refine xletE h (fun M5 eM5 h => ?_)
  refine V_newa (q := 132) (kd := 100) (NN := 24) (ty := .int) dX5_init_39 (by decide) rfl na_int (by decide) (by decide) (xlenS hP rfl) rfl rfl ?_
  rw [← eM5, List.append_assoc]
  show V _ _ _ _ _ _ _ (P ++ [(5, 7, [none, some (some 128), none, some (some 129), some (some 130), some (some 131), some none]), (100, 24, []), (100, 24, []), (100, 24, []), (100, 24, []), (100, 24, [])]) _ _
  refine V_putR dX5_init_41 fr_X5_24 (fun _ => ⟨rfl, _, _, _, rfl, rfl⟩) (fun _ => ⟨rfl, rfl⟩) (xapp (k := 0) hP rfl rfl) rfl (by rw [xlenS hP rfl]; decide) ?_
  rw [xset (k := 0) hP rfl]
  show V _ _ _ _ _ _ _ (P ++ [(5, 7, [none, some (some 128), none, some (some 129), some (some 130), some (some 131), some (some 132)]), (100, 24, []), (100, 24, []), (100, 24, []), (100, 24, []), (100, 24, [])]) _ _
  exact V_ret dX5_init_44 rfl (q_v h)
def aX2_init_133 (M : xM) : Option xM := xlet (xz M 134 1) fun M1 => xlet (xz M1 135 1) fun M2 => xlet (xz M2 136 1) fun M3 => some M3
set_option maxRecDepth 20000 in
set_option maxHeartbeats 40000000 in
theorem aX2_init_133_c {P : xS} (hP : P.length = 133) {M E : xM} (h : aX2_init_133 M = some E) :
    V Y_X2_init 1 3 120 0 (xarg 0 [vR (some 133)]) [] (P ++ [(2, 4, [none, some none, some none, some none])]) M (xqR (P ++ [(2, 4, [none, some (some 134), some (some 135), some (some 136)]), (100, 40, []), (100, 40, []), (100, 40, [])]) E none) := by
  unfold aX2_init_133 at h
  show V Y_X2_init 1 3 120 0 [(0, vR (some 133))] [] _ M _
  refine V_aload_n dX2_init_0 rfl (xm 0 rfl) ?_
  refine V_objInit dX2_init_1 oi_X2_1 (by decide) (Nat.le_of_ble_eq_true rfl) ?_
  refine V_aload_n dX2_init_4 rfl (xm 0 rfl) ?_
  refine V_bipush dX2_init_5 (by decide) ?_
  refine xletE h (fun M1 eM1 h => ?_)
  refine V_newa (q := 134) (kd := 100) (NN := 40) (ty := .int) dX2_init_7 (by decide) rfl na_int (by decide) (by decide) (xlenS hP rfl) rfl rfl ?_
  rw [← eM1, List.append_assoc]
  show V _ _ _ _ _ _ _ (P ++ [(2, 4, [none, some none, some none, some none]), (100, 40, [])]) _ _
  refine V_putR dX2_init_9 fr_X2_9 (fun _ => ⟨rfl, _, _, _, rfl, rfl⟩) (fun _ => ⟨rfl, rfl⟩) (xapp (k := 0) hP rfl rfl) rfl (by rw [xlenS hP rfl]; decide) ?_
  rw [xset (k := 0) hP rfl]
  show V _ _ _ _ _ _ _ (P ++ [(2, 4, [none, some (some 134), some none, some none]), (100, 40, [])]) _ _
  refine V_aload_n dX2_init_12 rfl (xm 0 rfl) ?_
  refine V_bipush dX2_init_13 (by decide) ?_
  refine xletE h (fun M2 eM2 h => ?_)
  refine V_newa (q := 135) (kd := 100) (NN := 40) (ty := .int) dX2_init_15 (by decide) rfl na_int (by decide) (by decide) (xlenS hP rfl) rfl rfl ?_
  rw [← eM2, List.append_assoc]
  show V _ _ _ _ _ _ _ (P ++ [(2, 4, [none, some (some 134), some none, some none]), (100, 40, []), (100, 40, [])]) _ _
  refine V_putR dX2_init_17 fr_X2_13 (fun _ => ⟨rfl, _, _, _, rfl, rfl⟩) (fun _ => ⟨rfl, rfl⟩) (xapp (k := 0) hP rfl rfl) rfl (by rw [xlenS hP rfl]; decide) ?_
  rw [xset (k := 0) hP rfl]
  show V _ _ _ _ _ _ _ (P ++ [(2, 4, [none, some (some 134), some (some 135), some none]), (100, 40, []), (100, 40, [])]) _ _
  refine V_aload_n dX2_init_20 rfl (xm 0 rfl) ?_
  refine V_bipush dX2_init_21 (by decide) ?_
  refine xletE h (fun M3 eM3 h => ?_)
  refine V_newa (q := 136) (kd := 100) (NN := 40) (ty := .int) dX2_init_23 (by decide) rfl na_int (by decide) (by decide) (xlenS hP rfl) rfl rfl ?_
  rw [← eM3, List.append_assoc]
  show V _ _ _ _ _ _ _ (P ++ [(2, 4, [none, some (some 134), some (some 135), some none]), (100, 40, []), (100, 40, []), (100, 40, [])]) _ _
  refine V_putR dX2_init_25 fr_X2_16 (fun _ => ⟨rfl, _, _, _, rfl, rfl⟩) (fun _ => ⟨rfl, rfl⟩) (xapp (k := 0) hP rfl rfl) rfl (by rw [xlenS hP rfl]; decide) ?_
  rw [xset (k := 0) hP rfl]
  show V _ _ _ _ _ _ _ (P ++ [(2, 4, [none, some (some 134), some (some 135), some (some 136)]), (100, 40, []), (100, 40, []), (100, 40, [])]) _ _
  exact V_ret dX2_init_28 rfl (q_v h)
