/-! the first image: the kept island is made -/
def gX11_takeA (M : xM) : Option xM := xlet (xz M 111 1) fun M1 => xb (aX1_init_111 M1) fun M2 => xb (fX1_copyFrom_i2 M2) fun M3 => some M3
set_option maxRecDepth 20000 in
set_option maxHeartbeats 4000000 in
theorem takeA_c {M E : xM} (h : gX11_takeA M = some E) : V Y_X11_takeImage 3 35 3531 0 (xarg 0 [vR (some 0)]) [] (Sk none) M (xqR (Sk (some 111)) E none) := by
  unfold gX11_takeA at h
  have hS : xSk none 111 (Sk none) := fun i _ _ => rfl
  have hS2 : xSk (some 111) 146 (Sk (some 111)) := fun i _ _ => rfl
  show V Y_X11_takeImage 3 (34 + 1) (3517 + 14) 0 [(0, vR (some 0))] [] _ M _
  refine V_aload_n dX11_takeImage_0 rfl (xm 0 rfl) ?_
  refine V_getR dX11_takeImage_1 fl_X11_57 (sk_0 hS (by decide)) rfl ?_
  refine V_ifnonnullN dX11_takeImage_4 ?_
  refine V_aload_n dX11_takeImage_7 rfl (xm 0 rfl) ?_
  refine xletE h (fun M1 eM1 h => ?_)
  refine V_new (ci := 1) (q := 111) (rs := [none, none, none, none, none, none, some none, some none, some none, some none, some none, some none, some none, some none]) dX11_takeImage_8 (T := TX1) rfl (by decide) nw_X11_9 tyX1 tyX1_ok (by decide) (by intro o; simp) rfl rfl rfl ?_
  rw [← eM1]
  refine V_dup dX11_takeImage_11 rfl ?_
  refine xbE h (fun M2 h3 h => ?_)
  show V Y_X11_takeImage 3 (0 + 34) (0 + 3517) _ _ _ _ _ _
  refine T_callIN (host := "TurnedIsland") dX11_takeImage_12 ok_X1_init ⟨rfl, rfl⟩ ci_X11_11.1 ci_X11_11.2 (hV := ((aX1_init_111_c (P := Sk none) rfl h3).mono (by decide) (Nat.le_refl _) (Nat.le_refl _))) rfl (Nat.le_of_ble_eq_true rfl) rfl (Nat.le_of_ble_eq_true rfl) (q := 112) rfl rfl rfl ?_
  refine V_putR dX11_takeImage_15 fr_X11_57 (fun e => absurd e (by decide)) (fun _ => ⟨rfl, rfl⟩) (o := 0) (n := 7) (rs := [some (some 1), some (some 36), some (some 43), some (some 50), some (some 75), some (some 79), some none]) (r0 := some none) rfl rfl (by decide) ?_
  show V Y_X11_takeImage 3 0 0 18 [(0, vR (some 0))] [] (Sk (some 111)) M2 _
  refine V_aload_n dX11_takeImage_18 rfl (xm 0 rfl) ?_
  refine V_getR dX11_takeImage_19 fl_X11_57 (sk_0 hS2 (by decide)) rfl ?_
  refine V_aload_n dX11_takeImage_22 rfl (xm 0 rfl) ?_
  refine V_getR dX11_takeImage_23 fl_X11_12 (sk_0 hS2 (by decide)) rfl ?_
  refine xbE h (fun M4 h5 h => ?_)
  refine T_callVv dX11_takeImage_26 ok_X1_copyFrom (by exact ⟨by decide, rfl⟩) lk_X11_329.1 lk_X11_329.2 (sk_111 hS2 (by decide)) (hV := ((fX1_copyFrom_i2_c (hS2.le (by decide)) h5).mono (by decide) (Nat.le_refl _) (Nat.le_refl _))) rfl (Nat.le_of_ble_eq_true rfl) rfl (Nat.le_of_ble_eq_true rfl) ?_
  exact V_ret dX11_takeImage_29 rfl (q_v h)
theorem imgA_t_c {M E : xM} {v1 : Int} (hv : ¬ wr v1 = 0) (h : gX11_takeA M = some E) : V Y_X11_image 4 35 3531 0 (xarg 0 [vR (some 0), vI v1]) [] (Sk none) M (xqR (Sk (some 111)) E ((some (b2i true)).map (fun x => vI x))) := by
  have hS : xSk none 111 (Sk none) := fun i _ _ => rfl
  show V Y_X11_image 4 (0 + 35) (0 + 3531) 0 [(0, vR (some 0)), (1, vI v1)] [] _ M _
  refine V_iload_n dX11_image_0 rfl (xm 1 rfl) ?_
  refine V_if_eq (X1 := 0) (X2 := 1) (E := 1) (tgt := 10) dX11_image_1 (by decide) (if_neg hv) (fun e _ => absurd e hv) (fun _ _ => ?_)
  refine V_aload_n dX11_image_4 rfl (xm 0 rfl) ?_
  refine T_callVA (r := none) dX11_image_5 ok_X11_takeImage (by exact ⟨by decide, rfl⟩) lk_X11_326.1 lk_X11_326.2 (sk_0 hS (by decide)) (hV := takeA_c h) rfl (Nat.le_of_ble_eq_true rfl) rfl (Nat.le_of_ble_eq_true rfl) (q := 111) rfl rfl rfl ?_
  refine V_iconst dX11_image_8 ?_
  exact V_iretb (b := true) dX11_image_9 rfl (by decide) ⟨rfl, rfl, rfl⟩
theorem imgA_f_c {M : xM} {v1 : Int} (hv : wr v1 = 0) : V Y_X11_image 4 0 0 0 (xarg 0 [vR (some 0), vI v1]) [] (Sk none) M (xqR (Sk none) M (some (vI (b2i false)))) := by
  have hS : xSk none 111 (Sk none) := fun i _ _ => rfl
  show V Y_X11_image 4 0 0 0 [(0, vR (some 0)), (1, vI v1)] [] _ M _
  refine V_iload_n dX11_image_0 rfl (xm 1 rfl) ?_
  refine V_if_eq (X1 := 0) (X2 := 1) (E := 0) (tgt := 10) dX11_image_1 (by decide) (if_pos hv) (fun _ _ => ?_) (fun e _ => absurd hv e)
  refine V_aload_n dX11_image_10 rfl (xm 0 rfl) ?_
  refine V_getR dX11_image_11 fl_X11_57 (sk_0 hS (by decide)) rfl ?_
  refine V_ifnonnullN dX11_image_14 ?_
  refine V_iconst dX11_image_17 ?_
  exact V_iretb (b := false) dX11_image_18 rfl (by decide) ⟨rfl, rfl, rfl⟩
/-! and pure -/
theorem xz_lo {M : xM} {q n a : Nat} (h : a < q) : xz M q n a = M a := by
  funext j
  show (if _ then _ else _) = _
  rw [if_neg (by omega)]
theorem ini111 {M : xM} : yk (aX1_init_111 M) fun N => ∀ o, o < 111 → N o = M o := by
  simp only [aX1_init_111, aX4_init_115, aX6_init_122, aX5_init_127, aX2_init_133, aX9_init_138, aX9_init_140, aX9_init_142, aX9_init_144, yk_xb, yk_xlet, yk_some]
  intro o ho
  simp (disch := omega) only [xz_lo]
theorem imgA_t {c : Int} {M : xM} (I : Inv false c M) : yk (gX11_takeA M) fun N => yk (fX12_image N 1) fun y => y.1 = true ∧ Inv true c y.2 := by
  unfold gX11_takeA
  rw [yk_xlet, yk_xb]
  refine yk.mono ini111 ?_
  intro N hN
  have f : ∀ o, o < 111 → N o = M o := fun o ho => by rw [hN o ho, xz_lo ho]
  rw [yk_xb]
  refine yk.mono (copy_to (W := M 95) (rI_fr I.1 I.2.1 (fun o _ h => f o (by omega))) I.2.1) ?_
  intro N2 h2
  rw [yk_some]
  exact imageT_e I (by decide) h2.1 (fun o _ h => by rw [h2.2 o (by omega), f o h])
theorem imgA_f {c : Int} {M : xM} (I : Inv false c M) : fX12_image M 0 = some (false, M) := by
  have K := I.2.2.2.2.2.2
  rw [if_neg (by decide)] at K
  unfold fX12_image xj
  dsimp only
  rw [if_pos wr_0, K, if_pos wr_0]
