/-! the law's walk from its entry -/
theorem nw_L_7 : Cond.classLink RL 7 RX11 ∈ xT ∧ Cond.instantiable RX11 7 ∈ xT ∧ Cond.initialized RX11 ∈ xT := ⟨by decide +kernel, by decide +kernel, by decide +kernel⟩
theorem nw_L_10 : Cond.classLink RL 10 RX12 ∈ xT ∧ Cond.instantiable RX12 33 ∈ xT ∧ Cond.initialized RX12 ∈ xT := ⟨by decide +kernel, by decide +kernel, by decide +kernel⟩
theorem ci_L_9 : Cond.methodLink RL 9 yX11_init ∈ xT ∧ Cond.instanceMethod yX11_init ∈ xT := ⟨by decide +kernel, by decide +kernel⟩
theorem ci_L_12 : Cond.methodLink RL 12 yX12_init ∈ xT ∧ Cond.instanceMethod yX12_init ∈ xT := ⟨by decide +kernel, by decide +kernel⟩
set_option maxRecDepth 20000 in
set_option maxHeartbeats 4000000 in
theorem lawV {xs : Nat → Int32} {L : Nat} (hL : L ≤ 3072) (M0 : xM) : V (Y_L_law L xs) 54 146 39262 0 [(0, vS 3)] [] [] M0 (fun rv _ _ => rv = some (vI 1)) := by
  obtain ⟨N, eN, Z, eZ, I⟩ := startI (M0 := M0)
  obtain ⟨E, eE, M', rfl⟩ := lawA_q (xs := xs) hL 513 Z 0 0 I (by omega) (by omega) (by omega) (by omega)
  have loop := fL_A_c (Q := fun rv _ _ => rv = some (vI 1)) 513 Z 0 eE (fun S' Mz _ => by
    refine V_iconst dL_law_1228 ?_
    exact V_iretb (b := true) dL_law_1229 rfl (by decide) rfl) (fun S' w Mz e => by cases e)
  show V (Y_L_law L xs) 54 ((((35 + 16) + 1) + 93) + 1) ((((3531 + 20306) + 33) + 15385) + 7) 0 [(0, vS 3)] [] [] M0 _
  refine V_new (ca := 35 + 16 + 1 + 93) (sl := 3531 + 20306 + 33 + 15385) (N := 7) (ci := 11) (q := 0) (rs := [some none, some none, some none, some none, some none, some none, some none]) dL_law_0 (T := TX11) rfl (by decide) nw_L_7 tyX11 tyX11_ok (by decide) (by intro o; simp) rfl rfl rfl ?_
  refine V_dup dL_law_3 rfl ?_
  refine T_callI (ca := 35 + 16 + 1) (sl := 3531 + 20306 + 33) (mc1 := 93) (ms1 := 15385) dL_law_4 ok_X11_init ⟨rfl, rfl⟩ ci_L_9.1 ci_L_9.2 (hV := ((aX11_init_0_c (P := []) rfl eN).mono (by decide) (Nat.le_refl _) (Nat.le_refl _))) rfl (Nat.le_of_ble_eq_true rfl) rfl (Nat.le_of_ble_eq_true rfl) (q := 1) rfl rfl rfl ?_
  refine V_astore_n (ls' := [(1, vR (some 0)), (0, vS 3)]) dL_law_7 rfl (Nat.le_of_ble_eq_true rfl) rfl ?_
  show V _ _ _ _ _ _ _ ((Sk none).take 94) _ _
  refine V_new (ca := 35 + 16) (sl := 3531 + 20306) (N := 33) (ci := 12) (q := 94) (rs := [some none, some none, some none, none, none, some none, some none, some none, some none, some none, none, none, none, none, none, none, none, none, none, none, none, none, some none, some none, some none, some none, some none, some none, none, none, none, some none, some none]) dL_law_8 (T := TX12) rfl (by decide) nw_L_10 tyX12 tyX12_ok (by decide) (by intro o; simp) rfl rfl rfl ?_
  refine V_dup dL_law_11 rfl ?_
  refine T_callI (ca := 35) (sl := 3531) (mc1 := 16) (ms1 := 20306) dL_law_12 ok_X12_init ⟨rfl, rfl⟩ ci_L_12.1 ci_L_12.2 (hV := ((aX12_init_94_c (P := (Sk none).take 94) rfl rfl eZ).mono (by decide) (Nat.le_refl _) (Nat.le_refl _))) rfl (Nat.le_of_ble_eq_true rfl) rfl (Nat.le_of_ble_eq_true rfl) (q := 95) rfl rfl rfl ?_
  refine V_astore_n (ls' := [(2, vR (some 94)), (1, vR (some 0)), (0, vS 3)]) dL_law_15 rfl (Nat.le_of_ble_eq_true rfl) rfl ?_
  refine V_iconst dL_law_16 ?_
  refine V_istore_n (ls' := [(3, vI 0), (2, vR (some 94)), (1, vR (some 0)), (0, vS 3)]) dL_law_17 rfl (Nat.le_of_ble_eq_true rfl) rfl ?_
  refine V.pick [3, 2, 1, 0] rfl ?_
  exact loop
