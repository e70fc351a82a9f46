theorem T_putZx {α : Type} {E : α} {Y : xY} {d ca sl pc : Nat} {ls : List (Nat × xV)} {st : List xV} {S : xS} {M : xM} {Q : Option xV → xS → xM → Prop} {ci k n o idx : Nat} {kI x : Int} {rs : xF} {F : xM → Option α} (dg : decode Y.2.1 pc = .ok (.putfield idx, 3)) (hf : xFp Y.1.cls idx ci k .boolean false) (ho : S[o]? = some (ci, n, rs)) (hr : rs[k]? = some none) (hk : (k : Int) = kI) (h : (xbl x fun b => xlet (xup M o kI (b2i b)) F) = some E) (kk : ∀ M2, F M2 = some E → V Y d ca sl (pc + 3) ls st S M2 Q) : V Y d ca sl pc ls (vI x :: vR (some o) :: st) S M Q := by
  obtain ⟨b, hx, h⟩ := xblE h
  have k := V_putZ (b := b) (st := st) (ls := ls) (d := d) (ca := ca) (sl := sl) (Q := Q) (M := M) dg hf ho hr hk rfl (kk _ h)
  intro p l e R s m args below meth c H locs cells slots G cA sa A al lc mc ms Z C g1 g2 g3 g4 gz hs hl
  have k := k p l e R s m args below meth c H locs cells slots G cA sa A al lc mc ms Z C g1 g2 g3 g4 gz hs hl
  have e9 : Int32.ofInt (b2i b) = Int32.ofInt x := by rw [← hx, wr_of]
  have e8 : List.map (em al sa) (vI x :: vR (some o) :: st) = List.map (em al sa) (vI (b2i b) :: vR (some o) :: st) := by show Value.int _ :: _ = Value.int _ :: _; rw [e9]
  rw [e8]
  exact k
theorem xc3 {a b : Int} {f : xV} (hf : xw2 f = false) : ([vI a, vI b, f].map xcat).sum ≤ 3 := by
  have e : xcat f = 1 := by unfold xcat; rw [hf]; rfl
  show 1 + (1 + (xcat f + 0)) ≤ 3
  rw [e]
  decide
def fX12_begins_L2 (n : Nat) (M : xM) (v1 : Int) (v2 : Int) : Option (xM) := match n with
  | 0 => none
  | n + 1 => (if wr v2 < wr 5820 then (xwt M 95 5820 v2 0 fun M1 => fX12_begins_L2 n M1 v1 (v2 + 1)) else some M)
set_option maxRecDepth 20000 in
set_option maxHeartbeats 1000000 in
theorem fX12_begins_L2_c {S : xS} {kp : Option Nat} (hS : xSk kp 96 S) {Q : Option xV → xS → xM → Prop} :
    ∀ (n : Nat) (M : xM) (v1 : Int) (v2 : Int) {Mz : xM}, fX12_begins_L2 n M v1 v2 = some Mz → V Y_X12_begins 0 0 0 22 [(0, vR (some 94)), (1, vI v1)] [] S Mz Q → V Y_X12_begins 0 0 0 2 [(0, vR (some 94)), (1, vI v1), (2, vI v2)] [] S M Q := by
  intro n
  induction n with
  | zero =>
    intro M v1 v2 Mz h k
    cases h
  | succ n ih =>
    intro M v1 v2 Mz h k
    rw [fX12_begins_L2] at h
    refine V_iload_n dX12_begins_2 rfl (xm 2 rfl) ?_
    refine V_sipush dX12_begins_3 (by decide) ?_
    refine V_icmp_ge (tgt := 22) dX12_begins_6 (by decide) h (fun _ h => ?_) (fun _ h => ?_)
    · refine V_aload_n dX12_begins_9 rfl (xm 0 rfl) ?_
      refine V_getR dX12_begins_10 fl_X12_7 (sk_94 hS (by decide)) rfl ?_
      refine V_iload_n dX12_begins_13 rfl (xm 2 rfl) ?_
      refine V_iconst dX12_begins_14 ?_
      refine T_iast dX12_begins_15 (sk_95 hS (by decide)) rfl h (fun M1 h => ?_)
      refine V_iinc (ls' := [(2, vI (v2 + 1)), (0, vR (some 94)), (1, vI v1)]) dX12_begins_16 (xm 2 rfl) (by decide) rfl ?_
      refine V_goto (tgt := 2) dX12_begins_19 (by decide) ?_
      refine V.pick [1, 2, 0] rfl ?_
      exact ih M1 v1 (v2 + 1) h k
    · cases h
      refine V.pick [0, 1] rfl ?_
      exact k
theorem fX12_begins_L2_ci {S : xS} {kp : Option Nat} (hS : xSk kp 96 S) {Q : Option xV → xS → xM → Prop} {n : Nat} {M : xM} {v1 : Int} {v2 : Int} {Mz : xM} (hl : fX12_begins_L2 n M v1 v2 = some Mz) (k : V Y_X12_begins 0 0 0 22 [(0, vR (some 94)), (1, vI v1)] [] S Mz Q) : V Y_X12_begins 0 0 0 2 [(0, vR (some 94)), (1, vI v1), (2, vI v2)] [] S M Q := fX12_begins_L2_c hS _ _ _ _ hl k
def fX12_begins (M : xM) (v1 : Int) : Option xM := xb (fX12_begins_L2 xfuel M v1 0) fun M2 => xlet (xup M2 95 0 v1) fun M4 => xlet (xup M4 95 3 99) fun M5 => xlet (xup M5 94 3 0) fun M6 => some M6
set_option maxRecDepth 20000 in
set_option maxHeartbeats 1000000 in
theorem fX12_begins_c {S : xS} {kp : Option Nat} (hS : xSk kp 96 S) {M : xM} {v1 : Int} {E : xM} (h : fX12_begins M v1 = some E) :
    V Y_X12_begins 0 0 0 0 (xarg 0 [vR (some 94), vI v1]) [] S M (xqR S E none) := by
  unfold fX12_begins at h
  show V Y_X12_begins 0 0 0 0 [(0, vR (some 94)), (1, vI v1)] [] S M _
  refine V_iconst dX12_begins_0 ?_
  refine V_istore_n (ls' := [(2, vI 0), (0, vR (some 94)), (1, vI v1)]) dX12_begins_1 rfl (by decide) rfl ?_
  refine xbE h (fun M2 h3 h => ?_)
  refine V.pick [1, 2, 0] rfl ?_
  refine fX12_begins_L2_ci (hS.le (by decide)) h3 ?_
  refine V_aload_n dX12_begins_22 rfl (xm 0 rfl) ?_
  refine V_getR dX12_begins_23 fl_X12_7 (sk_94 hS (by decide)) rfl ?_
  refine V_iconst dX12_begins_26 ?_
  refine V_iload_n dX12_begins_27 rfl (xm 1 rfl) ?_
  refine xletE h (fun M4 eM4 h => ?_)
  refine V_iastK (j := 0) dX12_begins_28 (sk_95 hS (by decide)) (by decide) (by decide) ?_
  rw [← eM4]
  refine V_aload_n dX12_begins_29 rfl (xm 0 rfl) ?_
  refine V_getR dX12_begins_30 fl_X12_7 (sk_94 hS (by decide)) rfl ?_
  refine V_iconst dX12_begins_33 ?_
  refine V_bipush dX12_begins_34 (by decide) ?_
  refine xletE h (fun M5 eM5 h => ?_)
  refine V_iastK (j := 3) dX12_begins_36 (sk_95 hS (by decide)) (by decide) (by decide) ?_
  rw [← eM5]
  refine V_aload_n dX12_begins_37 rfl (xm 0 rfl) ?_
  refine V_iconst dX12_begins_38 ?_
  refine T_putI (kI := 3) dX12_begins_39 fp_X12_67 (sk_94 hS (by decide)) rfl rfl h (fun M6 h => ?_)
  exact V_ret dX12_begins_42 rfl (q_v h)
def fX12_isIn (v0 : Int) (v1 : Int) (v2 : Int) : Bool := (if wr v0 < wr v1 then false else (if wr v2 < wr v0 then false else true))
set_option maxRecDepth 20000 in
set_option maxHeartbeats 1000000 in
theorem fX12_isIn_c {S : xS} {kp : Option Nat} (hS : xSk kp 0 S) {M : xM} {v0 : Int} {v1 : Int} {v2 : Int} {E : Bool} (h : fX12_isIn v0 v1 v2 = E) :
    V Y_X12_isIn 0 0 0 0 (xarg 0 [vI v0, vI v1, vI v2]) [] S M (xqR S M (some (vI (b2i E)))) := by
  unfold fX12_isIn at h
  show V Y_X12_isIn 0 0 0 0 [(0, vI v0), (1, vI v1), (2, vI v2)] [] S M _
  refine V_iload_n dX12_isIn_0 rfl (xm 0 rfl) ?_
  refine V_iload_n dX12_isIn_1 rfl (xm 1 rfl) ?_
  refine V_icmp_lt (tgt := 14) dX12_isIn_2 (by decide) h (fun _ h => ?_) (fun _ h => ?_)
  · refine V_iconst dX12_isIn_14 ?_
    exact V_iretb (b := false) dX12_isIn_15 rfl (by decide) (q_tB h)
  · refine V_iload_n dX12_isIn_5 rfl (xm 0 rfl) ?_
    refine V_iload_n dX12_isIn_6 rfl (xm 2 rfl) ?_
    refine V_icmp_gt (tgt := 14) dX12_isIn_7 (by decide) h (fun _ h => ?_) (fun _ h => ?_)
    · refine V_iconst dX12_isIn_14 ?_
      exact V_iretb (b := false) dX12_isIn_15 rfl (by decide) (q_tB h)
    · refine V_iconst dX12_isIn_10 ?_
      refine V_goto (tgt := 15) dX12_isIn_11 (by decide) ?_
      exact V_iretb (b := true) dX12_isIn_15 rfl (by decide) (q_tB h)
def fX12_notches (M : xM) (v1 : Int) : Option (Bool × xM) := (if (fX12_isIn v1 4 24) = true then (xb (fX12_begins M v1) fun M2 => some (true, M2)) else some (false, M))
set_option maxRecDepth 20000 in
set_option maxHeartbeats 1000000 in
theorem fX12_notches_c {S : xS} {kp : Option Nat} (hS : xSk kp 96 S) {M : xM} {v1 : Int} {E : Bool × xM} (h : fX12_notches M v1 = some E) :
    V Y_X12_notches 1 0 0 0 (xarg 0 [vR (some 94), vI v1]) [] S M (xqR S E.2 (some (vI (b2i E.1)))) := by
  unfold fX12_notches at h
  show V Y_X12_notches 1 0 0 0 [(0, vR (some 94)), (1, vI v1)] [] S M _
  refine V_iload_n dX12_notches_0 rfl (xm 1 rfl) ?_
  refine V_iconst dX12_notches_1 ?_
  refine V_bipush dX12_notches_2 (by decide) ?_
  refine T_callSI (host := "") dX12_notches_4 ok_X12_isIn lk_X12_70.1 lk_X12_70.2 (hV := ((fX12_isIn_c (hS.le (by decide)) rfl).mono (by decide) (Nat.le_refl _) (Nat.le_refl _))) rfl (Nat.le_of_ble_eq_true rfl) rfl (Nat.le_of_ble_eq_true rfl) ?_
  refine V_if_neB (tgt := 12) dX12_notches_7 (by decide) h (fun _ h => ?_) (fun _ h => ?_)
  · refine V_aload_n dX12_notches_12 rfl (xm 0 rfl) ?_
    refine V_iload_n dX12_notches_13 rfl (xm 1 rfl) ?_
    refine xbE h (fun M2 h1 h => ?_)
    refine T_callVv dX12_notches_14 ok_X12_begins (by exact ⟨by decide, rfl⟩) lk_X12_63.1 lk_X12_63.2 (sk_94 hS (by decide)) (hV := ((fX12_begins_c (hS.le (by decide)) h1).mono (by decide) (Nat.le_refl _) (Nat.le_refl _))) rfl (Nat.le_of_ble_eq_true rfl) rfl (Nat.le_of_ble_eq_true rfl) ?_
    refine V_iconst dX12_notches_17 ?_
    exact V_iretb (b := true) dX12_notches_18 rfl (by decide) (q_wB h)
  · refine V_iconst dX12_notches_10 ?_
    exact V_iretb (b := false) dX12_notches_11 rfl (by decide) (q_wB h)
def fX12_isAngle (M : xM) (v1 : Int) : Bool := (fX12_isIn v1 0 ((M 95 0) - 1))
set_option maxRecDepth 20000 in
set_option maxHeartbeats 1000000 in
theorem fX12_isAngle_c {S : xS} {kp : Option Nat} (hS : xSk kp 96 S) {M : xM} {v1 : Int} {E : Bool} (h : fX12_isAngle M v1 = E) :
    V Y_X12_isAngle 1 0 0 0 (xarg 0 [vR (some 94), vI v1]) [] S M (xqR S M (some (vI (b2i E)))) := by
  unfold fX12_isAngle at h
  show V Y_X12_isAngle 1 0 0 0 [(0, vR (some 94)), (1, vI v1)] [] S M _
  refine V_iload_n dX12_isAngle_0 rfl (xm 1 rfl) ?_
  refine V_iconst dX12_isAngle_1 ?_
  refine V_aload_n dX12_isAngle_2 rfl (xm 0 rfl) ?_
  refine V_getR dX12_isAngle_3 fl_X12_7 (sk_94 hS (by decide)) rfl ?_
  refine V_iconst dX12_isAngle_6 ?_
  refine V_ialdK (j := 0) dX12_isAngle_7 (sk_95 hS (by decide)) (by decide) (by decide) ?_
  refine V_iconst dX12_isAngle_8 ?_
  refine V_isub dX12_isAngle_9 ?_
  refine T_callSI (host := "") dX12_isAngle_10 ok_X12_isIn lk_X12_70.1 lk_X12_70.2 (hV := ((fX12_isIn_c (hS.le (by decide)) rfl).mono (by decide) (Nat.le_refl _) (Nat.le_refl _))) rfl (Nat.le_of_ble_eq_true rfl) rfl (Nat.le_of_ble_eq_true rfl) ?_
  exact V_iretb (b := (fX12_isIn v1 0 ((M 95 0) - 1))) dX12_isAngle_13 rfl rfl (q_tB h)
def fX12_isPlot (M : xM) (v1 : Int) : Bool := (fX12_isIn v1 0 ((M 95 5) - 1))
set_option maxRecDepth 20000 in
set_option maxHeartbeats 1000000 in
theorem fX12_isPlot_c {S : xS} {kp : Option Nat} (hS : xSk kp 96 S) {M : xM} {v1 : Int} {E : Bool} (h : fX12_isPlot M v1 = E) :
    V Y_X12_isPlot 1 0 0 0 (xarg 0 [vR (some 94), vI v1]) [] S M (xqR S M (some (vI (b2i E)))) := by
  unfold fX12_isPlot at h
  show V Y_X12_isPlot 1 0 0 0 [(0, vR (some 94)), (1, vI v1)] [] S M _
  refine V_iload_n dX12_isPlot_0 rfl (xm 1 rfl) ?_
  refine V_iconst dX12_isPlot_1 ?_
  refine V_aload_n dX12_isPlot_2 rfl (xm 0 rfl) ?_
  refine V_getR dX12_isPlot_3 fl_X12_7 (sk_94 hS (by decide)) rfl ?_
  refine V_iconst dX12_isPlot_6 ?_
  refine V_ialdK (j := 5) dX12_isPlot_7 (sk_95 hS (by decide)) (by decide) (by decide) ?_
  refine V_iconst dX12_isPlot_8 ?_
  refine V_isub dX12_isPlot_9 ?_
  refine T_callSI (host := "") dX12_isPlot_10 ok_X12_isIn lk_X12_70.1 lk_X12_70.2 (hV := ((fX12_isIn_c (hS.le (by decide)) rfl).mono (by decide) (Nat.le_refl _) (Nat.le_refl _))) rfl (Nat.le_of_ble_eq_true rfl) rfl (Nat.le_of_ble_eq_true rfl) ?_
  exact V_iretb (b := (fX12_isIn v1 0 ((M 95 5) - 1))) dX12_isPlot_13 rfl rfl (q_tB h)
def fX12_isDay (v0 : Int) : Bool := (fX12_isIn v0 0 9999)
set_option maxRecDepth 20000 in
set_option maxHeartbeats 1000000 in
theorem fX12_isDay_c {S : xS} {kp : Option Nat} (hS : xSk kp 0 S) {M : xM} {v0 : Int} {E : Bool} (h : fX12_isDay v0 = E) :
    V Y_X12_isDay 1 0 0 0 (xarg 0 [vI v0]) [] S M (xqR S M (some (vI (b2i E)))) := by
  unfold fX12_isDay at h
  show V Y_X12_isDay 1 0 0 0 [(0, vI v0)] [] S M _
  refine V_iload_n dX12_isDay_0 rfl (xm 0 rfl) ?_
  refine V_iconst dX12_isDay_1 ?_
  refine V_sipush dX12_isDay_2 (by decide) ?_
  refine T_callSI (host := "") dX12_isDay_5 ok_X12_isIn lk_X12_70.1 lk_X12_70.2 (hV := ((fX12_isIn_c (hS.le (by decide)) rfl).mono (by decide) (Nat.le_refl _) (Nat.le_refl _))) rfl (Nat.le_of_ble_eq_true rfl) rfl (Nat.le_of_ble_eq_true rfl) ?_
  exact V_iretb (b := (fX12_isIn v0 0 9999)) dX12_isDay_8 rfl rfl (q_tB h)
def fX12_of0 (M : xM) (v1 : Int) (v2 : Int) : Option Int := xrd M 95 5820 ((20 + (4 * v1)) + v2) fun r1 => some r1
set_option maxRecDepth 20000 in
set_option maxHeartbeats 1000000 in
theorem fX12_of0_c {S : xS} {kp : Option Nat} (hS : xSk kp 96 S) {M : xM} {v1 : Int} {v2 : Int} {E : Int} (h : fX12_of0 M v1 v2 = some E) :
    V Y_X12_of0 0 0 0 0 (xarg 0 [vR (some 94), vI v1, vI v2]) [] S M (xqR S M (some (vI E))) := by
  unfold fX12_of0 at h
  show V Y_X12_of0 0 0 0 0 [(0, vR (some 94)), (1, vI v1), (2, vI v2)] [] S M _
  refine V_aload_n dX12_of0_0 rfl (xm 0 rfl) ?_
  refine V_getR dX12_of0_1 fl_X12_7 (sk_94 hS (by decide)) rfl ?_
  refine V_bipush dX12_of0_4 (by decide) ?_
  refine V_iconst dX12_of0_6 ?_
  refine V_iload_n dX12_of0_7 rfl (xm 1 rfl) ?_
  refine V_imul dX12_of0_8 ?_
  refine V_iadd dX12_of0_9 ?_
  refine V_iload_n dX12_of0_10 rfl (xm 2 rfl) ?_
  refine V_iadd dX12_of0_11 ?_
  refine T_iald dX12_of0_12 (sk_95 hS (by decide)) rfl h (fun r1 h => ?_)
  exact V_ireti dX12_of0_13 rfl (q_pI h)
def fX12_gives (M : xM) (v1 : Int) (v2 : Int) : Option xM := xrd M 95 5820 ((20 + (4 * v1)) + 3) fun r1 => xwt M 95 5820 ((20 + (4 * v1)) + 3) (r1 + v2) fun M2 => some M2
set_option maxRecDepth 20000 in
set_option maxHeartbeats 1000000 in
theorem fX12_gives_c {S : xS} {kp : Option Nat} (hS : xSk kp 96 S) {M : xM} {v1 : Int} {v2 : Int} {E : xM} (h : fX12_gives M v1 v2 = some E) :
    V Y_X12_gives 0 0 0 0 (xarg 0 [vR (some 94), vI v1, vI v2]) [] S M (xqR S E none) := by
  unfold fX12_gives at h
  show V Y_X12_gives 0 0 0 0 [(0, vR (some 94)), (1, vI v1), (2, vI v2)] [] S M _
  refine V_aload_n dX12_gives_0 rfl (xm 0 rfl) ?_
  refine V_getR dX12_gives_1 fl_X12_7 (sk_94 hS (by decide)) rfl ?_
  refine V_bipush dX12_gives_4 (by decide) ?_
  refine V_iconst dX12_gives_6 ?_
  refine V_iload_n dX12_gives_7 rfl (xm 1 rfl) ?_
  refine V_imul dX12_gives_8 ?_
  refine V_iadd dX12_gives_9 ?_
  refine V_iconst dX12_gives_10 ?_
  refine V_iadd dX12_gives_11 ?_
  refine V_dup2 dX12_gives_12 rfl rfl ?_
  refine T_iald dX12_gives_13 (sk_95 hS (by decide)) rfl h (fun r1 h => ?_)
  refine V_iload_n dX12_gives_14 rfl (xm 2 rfl) ?_
  refine V_iadd dX12_gives_15 ?_
  refine T_iast dX12_gives_16 (sk_95 hS (by decide)) rfl h (fun M2 h => ?_)
  exact V_ret dX12_gives_17 rfl (q_v h)
def fX12_forgets (M : xM)  : Option xM := xlet (xup M 94 3 0) fun M1 => some M1
set_option maxRecDepth 20000 in
set_option maxHeartbeats 1000000 in
theorem fX12_forgets_c {S : xS} {kp : Option Nat} (hS : xSk kp 95 S) {M : xM} {E : xM} (h : fX12_forgets M = some E) :
    V Y_X12_forgets 0 0 0 0 (xarg 0 [vR (some 94)]) [] S M (xqR S E none) := by
  unfold fX12_forgets at h
  show V Y_X12_forgets 0 0 0 0 [(0, vR (some 94))] [] S M _
  refine V_aload_n dX12_forgets_0 rfl (xm 0 rfl) ?_
  refine V_iconst dX12_forgets_1 ?_
  refine T_putI (kI := 3) dX12_forgets_2 fp_X12_67 (sk_94 hS (by decide)) rfl rfl h (fun M1 h => ?_)
  exact V_ret dX12_forgets_5 rfl (q_v h)
def fX12_sky (M : xM) (v1 : Int) (v2 : Int) (v3 : Int) (v4 : Int) : Option (Bool × xM) := (if (fX12_isIn v1 0 2) = true then (if (fX12_isIn v2 0 11) = true then (if (fX12_isAngle M v3) = true then (if (fX12_isIn v4 ((-9)) 9) = true then (xwt M 95 5820 ((620 + (24 * ((12 * v1) + v2))) + v3) v4 fun M1 => xb (fX12_forgets M1) fun M3 => some (true, M3)) else some (false, M)) else some (false, M)) else some (false, M)) else some (false, M))
set_option maxRecDepth 20000 in
set_option maxHeartbeats 1000000 in
theorem fX12_sky_c {S : xS} {kp : Option Nat} (hS : xSk kp 96 S) {M : xM} {v1 : Int} {v2 : Int} {v3 : Int} {v4 : Int} {E : Bool × xM} (h : fX12_sky M v1 v2 v3 v4 = some E) :
    V Y_X12_sky 2 0 0 0 (xarg 0 [vR (some 94), vI v1, vI v2, vI v3, vI v4]) [] S M (xqR S E.2 (some (vI (b2i E.1)))) := by
  unfold fX12_sky at h
  show V Y_X12_sky 2 0 0 0 [(0, vR (some 94)), (1, vI v1), (2, vI v2), (3, vI v3), (4, vI v4)] [] S M _
  refine V_iload_n dX12_sky_0 rfl (xm 1 rfl) ?_
  refine V_iconst dX12_sky_1 ?_
  refine V_iconst dX12_sky_2 ?_
  refine T_callSI (host := "") dX12_sky_3 ok_X12_isIn lk_X12_70.1 lk_X12_70.2 (hV := ((fX12_isIn_c (hS.le (by decide)) rfl).mono (by decide) (Nat.le_refl _) (Nat.le_refl _))) rfl (Nat.le_of_ble_eq_true rfl) rfl (Nat.le_of_ble_eq_true rfl) ?_
  refine V_if_eqB (tgt := 39) dX12_sky_6 (by decide) h (fun _ h => ?_) (fun _ h => ?_)
  · refine V_iload_n dX12_sky_9 rfl (xm 2 rfl) ?_
    refine V_iconst dX12_sky_10 ?_
    refine V_bipush dX12_sky_11 (by decide) ?_
    refine T_callSI (host := "") dX12_sky_13 ok_X12_isIn lk_X12_70.1 lk_X12_70.2 (hV := ((fX12_isIn_c (hS.le (by decide)) rfl).mono (by decide) (Nat.le_refl _) (Nat.le_refl _))) rfl (Nat.le_of_ble_eq_true rfl) rfl (Nat.le_of_ble_eq_true rfl) ?_
    refine V_if_eqB (tgt := 39) dX12_sky_16 (by decide) h (fun _ h => ?_) (fun _ h => ?_)
    · refine V_aload_n dX12_sky_19 rfl (xm 0 rfl) ?_
      refine V_iload_n dX12_sky_20 rfl (xm 3 rfl) ?_
      refine T_callVI dX12_sky_21 ok_X12_isAngle (by exact ⟨by decide, rfl⟩) lk_X12_74.1 lk_X12_74.2 (sk_94 hS (by decide)) (hV := ((fX12_isAngle_c (hS.le (by decide)) rfl).mono (by decide) (Nat.le_refl _) (Nat.le_refl _))) rfl (Nat.le_of_ble_eq_true rfl) rfl (Nat.le_of_ble_eq_true rfl) ?_
      refine V_if_eqB (tgt := 39) dX12_sky_24 (by decide) h (fun _ h => ?_) (fun _ h => ?_)
      · refine V_iload dX12_sky_27 (xm 4 rfl) ?_
        refine V_bipush dX12_sky_29 (by decide) ?_
        refine V_bipush dX12_sky_31 (by decide) ?_
        refine T_callSI (host := "") dX12_sky_33 ok_X12_isIn lk_X12_70.1 lk_X12_70.2 (hV := ((fX12_isIn_c (hS.le (by decide)) rfl).mono (by decide) (Nat.le_refl _) (Nat.le_refl _))) rfl (Nat.le_of_ble_eq_true rfl) rfl (Nat.le_of_ble_eq_true rfl) ?_
        refine V_if_neB (tgt := 41) dX12_sky_36 (by decide) h (fun _ h => ?_) (fun _ h => ?_)
        · refine V_aload_n dX12_sky_41 rfl (xm 0 rfl) ?_
          refine V_getR dX12_sky_42 fl_X12_7 (sk_94 hS (by decide)) rfl ?_
          refine V_sipush dX12_sky_45 (by decide) ?_
          refine V_bipush dX12_sky_48 (by decide) ?_
          refine V_bipush dX12_sky_50 (by decide) ?_
          refine V_iload_n dX12_sky_52 rfl (xm 1 rfl) ?_
          refine V_imul dX12_sky_53 ?_
          refine V_iload_n dX12_sky_54 rfl (xm 2 rfl) ?_
          refine V_iadd dX12_sky_55 ?_
          refine V_imul dX12_sky_56 ?_
          refine V_iadd dX12_sky_57 ?_
          refine V_iload_n dX12_sky_58 rfl (xm 3 rfl) ?_
          refine V_iadd dX12_sky_59 ?_
          refine V_iload dX12_sky_60 (xm 4 rfl) ?_
          refine T_iast dX12_sky_62 (sk_95 hS (by decide)) rfl h (fun M1 h => ?_)
          refine V_aload_n dX12_sky_63 rfl (xm 0 rfl) ?_
          refine xbE h (fun M3 h2 h => ?_)
          refine T_callVv dX12_sky_64 ok_X12_forgets (by exact ⟨by decide, rfl⟩) lk_X12_78.1 lk_X12_78.2 (sk_94 hS (by decide)) (hV := ((fX12_forgets_c (hS.le (by decide)) h2).mono (by decide) (Nat.le_refl _) (Nat.le_refl _))) rfl (Nat.le_of_ble_eq_true rfl) rfl (Nat.le_of_ble_eq_true rfl) ?_
          refine V_iconst dX12_sky_67 ?_
          exact V_iretb (b := true) dX12_sky_68 rfl (by decide) (q_wB h)
        · refine V_iconst dX12_sky_39 ?_
          exact V_iretb (b := false) dX12_sky_40 rfl (by decide) (q_wB h)
      · refine V_iconst dX12_sky_39 ?_
        exact V_iretb (b := false) dX12_sky_40 rfl (by decide) (q_wB h)
    · refine V_iconst dX12_sky_39 ?_
      exact V_iretb (b := false) dX12_sky_40 rfl (by decide) (q_wB h)
  · refine V_iconst dX12_sky_39 ?_
    exact V_iretb (b := false) dX12_sky_40 rfl (by decide) (q_wB h)
def fX12_plot (M : xM) (v1 : Int) (v2 : Int) (v3 : Int) (v4 : Int) : Option (Int × xM) := (if (fX12_isAngle M v1) = true then (if (fX12_isIn v2 1 9) = true then (if (fX12_isIn v3 0 4) = true then (if (fX12_isIn v4 ((-99999)) 99999) = true then (if wr (M 95 5) = wr 10 then some ((-1), M) else (xwt M 95 5820 ((20 + (4 * (M 95 5))) + 0) v1 fun M1 => xwt M1 95 5820 ((20 + (4 * (M 95 5))) + 1) v2 fun M2 => xwt M2 95 5820 ((20 + (4 * (M 95 5))) + 2) v3 fun M3 => xwt M3 95 5820 ((20 + (4 * (M 95 5))) + 3) v4 fun M4 => xlet (xup M4 95 5 ((M4 95 5) + 1)) fun M5 => xb (fX12_forgets M5) fun M7 => some ((M7 95 5) - 1, M7))) else some ((-1), M)) else some ((-1), M)) else some ((-1), M)) else some ((-1), M))
set_option maxRecDepth 20000 in
set_option maxHeartbeats 1000000 in
theorem fX12_plot_c {S : xS} {kp : Option Nat} (hS : xSk kp 96 S) {M : xM} {v1 : Int} {v2 : Int} {v3 : Int} {v4 : Int} {E : Int × xM} (h : fX12_plot M v1 v2 v3 v4 = some E) :
    V Y_X12_plot 2 0 0 0 (xarg 0 [vR (some 94), vI v1, vI v2, vI v3, vI v4]) [] S M (xqR S E.2 (some (vI E.1))) := by
  unfold fX12_plot at h
  show V Y_X12_plot 2 0 0 0 [(0, vR (some 94)), (1, vI v1), (2, vI v2), (3, vI v3), (4, vI v4)] [] S M _
  refine V_aload_n dX12_plot_0 rfl (xm 0 rfl) ?_
  refine V_iload_n dX12_plot_1 rfl (xm 1 rfl) ?_
  refine T_callVI dX12_plot_2 ok_X12_isAngle (by exact ⟨by decide, rfl⟩) lk_X12_74.1 lk_X12_74.2 (sk_94 hS (by decide)) (hV := ((fX12_isAngle_c (hS.le (by decide)) rfl).mono (by decide) (Nat.le_refl _) (Nat.le_refl _))) rfl (Nat.le_of_ble_eq_true rfl) rfl (Nat.le_of_ble_eq_true rfl) ?_
  refine V_if_eqB (tgt := 50) dX12_plot_5 (by decide) h (fun _ h => ?_) (fun _ h => ?_)
  · refine V_iload_n dX12_plot_8 rfl (xm 2 rfl) ?_
    refine V_iconst dX12_plot_9 ?_
    refine V_bipush dX12_plot_10 (by decide) ?_
    refine T_callSI (host := "") dX12_plot_12 ok_X12_isIn lk_X12_70.1 lk_X12_70.2 (hV := ((fX12_isIn_c (hS.le (by decide)) rfl).mono (by decide) (Nat.le_refl _) (Nat.le_refl _))) rfl (Nat.le_of_ble_eq_true rfl) rfl (Nat.le_of_ble_eq_true rfl) ?_
    refine V_if_eqB (tgt := 50) dX12_plot_15 (by decide) h (fun _ h => ?_) (fun _ h => ?_)
    · refine V_iload_n dX12_plot_18 rfl (xm 3 rfl) ?_
      refine V_iconst dX12_plot_19 ?_
      refine V_iconst dX12_plot_20 ?_
      refine T_callSI (host := "") dX12_plot_21 ok_X12_isIn lk_X12_70.1 lk_X12_70.2 (hV := ((fX12_isIn_c (hS.le (by decide)) rfl).mono (by decide) (Nat.le_refl _) (Nat.le_refl _))) rfl (Nat.le_of_ble_eq_true rfl) rfl (Nat.le_of_ble_eq_true rfl) ?_
      refine V_if_eqB (tgt := 50) dX12_plot_24 (by decide) h (fun _ h => ?_) (fun _ h => ?_)
      · refine V_iload dX12_plot_27 (xm 4 rfl) ?_
        refine V_ldc (n := (-99999)) dX12_plot_29 (xsg6 73 rfl rfl : Cond.constant RX12 81 (-99999) ∈ xT) (by decide) ?_
        refine V_ldc (n := 99999) dX12_plot_31 (xsg6 74 rfl rfl : Cond.constant RX12 82 99999 ∈ xT) (by decide) ?_
        refine T_callSI (host := "") dX12_plot_33 ok_X12_isIn lk_X12_70.1 lk_X12_70.2 (hV := ((fX12_isIn_c (hS.le (by decide)) rfl).mono (by decide) (Nat.le_refl _) (Nat.le_refl _))) rfl (Nat.le_of_ble_eq_true rfl) rfl (Nat.le_of_ble_eq_true rfl) ?_
        refine V_if_eqB (tgt := 50) dX12_plot_36 (by decide) h (fun _ h => ?_) (fun _ h => ?_)
        · refine V_aload_n dX12_plot_39 rfl (xm 0 rfl) ?_
          refine V_getR dX12_plot_40 fl_X12_7 (sk_94 hS (by decide)) rfl ?_
          refine V_iconst dX12_plot_43 ?_
          refine V_ialdK (j := 5) dX12_plot_44 (sk_95 hS (by decide)) (by decide) (by decide) ?_
          refine V_bipush dX12_plot_45 (by decide) ?_
          refine V_icmp_ne (tgt := 52) dX12_plot_47 (by decide) h (fun _ h => ?_) (fun _ h => ?_)
          · refine V_iconst dX12_plot_50 ?_
            exact V_ireti dX12_plot_51 rfl (q_wI h)
          · refine V_bipush dX12_plot_52 (by decide) ?_
            refine V_iconst dX12_plot_54 ?_
            refine V_aload_n dX12_plot_55 rfl (xm 0 rfl) ?_
            refine V_getR dX12_plot_56 fl_X12_7 (sk_94 hS (by decide)) rfl ?_
            refine V_iconst dX12_plot_59 ?_
            refine V_ialdK (j := 5) dX12_plot_60 (sk_95 hS (by decide)) (by decide) (by decide) ?_
            refine V_imul dX12_plot_61 ?_
            refine V_iadd dX12_plot_62 ?_
            refine V_istore (ls' := [(5, vI (20 + (4 * (M 95 5)))), (0, vR (some 94)), (1, vI v1), (2, vI v2), (3, vI v3), (4, vI v4)]) dX12_plot_63 (by decide) rfl ?_
            refine V_aload_n dX12_plot_65 rfl (xm 1 rfl) ?_
            refine V_getR dX12_plot_66 fl_X12_7 (sk_94 hS (by decide)) rfl ?_
            refine V_iload dX12_plot_69 (xm 0 rfl) ?_
            refine V_iconst dX12_plot_71 ?_
            refine V_iadd dX12_plot_72 ?_
            refine V_iload_n dX12_plot_73 rfl (xm 2 rfl) ?_
            refine T_iast dX12_plot_74 (sk_95 hS (by decide)) rfl h (fun M1 h => ?_)
            refine V_aload_n dX12_plot_75 rfl (xm 1 rfl) ?_
            refine V_getR dX12_plot_76 fl_X12_7 (sk_94 hS (by decide)) rfl ?_
            refine V_iload dX12_plot_79 (xm 0 rfl) ?_
            refine V_iconst dX12_plot_81 ?_
            refine V_iadd dX12_plot_82 ?_
            refine V_iload_n dX12_plot_83 rfl (xm 3 rfl) ?_
            refine T_iast dX12_plot_84 (sk_95 hS (by decide)) rfl h (fun M2 h => ?_)
            refine V_aload_n dX12_plot_85 rfl (xm 1 rfl) ?_
            refine V_getR dX12_plot_86 fl_X12_7 (sk_94 hS (by decide)) rfl ?_
            refine V_iload dX12_plot_89 (xm 0 rfl) ?_
            refine V_iconst dX12_plot_91 ?_
            refine V_iadd dX12_plot_92 ?_
            refine V_iload_n dX12_plot_93 rfl (xm 4 rfl) ?_
            refine T_iast dX12_plot_94 (sk_95 hS (by decide)) rfl h (fun M3 h => ?_)
            refine V_aload_n dX12_plot_95 rfl (xm 1 rfl) ?_
            refine V_getR dX12_plot_96 fl_X12_7 (sk_94 hS (by decide)) rfl ?_
            refine V_iload dX12_plot_99 (xm 0 rfl) ?_
            refine V_iconst dX12_plot_101 ?_
            refine V_iadd dX12_plot_102 ?_
            refine V_iload dX12_plot_103 (xm 5 rfl) ?_
            refine T_iast dX12_plot_105 (sk_95 hS (by decide)) rfl h (fun M4 h => ?_)
            refine V_aload_n dX12_plot_106 rfl (xm 1 rfl) ?_
            refine V_getR dX12_plot_107 fl_X12_7 (sk_94 hS (by decide)) rfl ?_
            refine V_iconst dX12_plot_110 ?_
            refine V_dup2 dX12_plot_111 rfl rfl ?_
            refine V_ialdK (j := 5) dX12_plot_112 (sk_95 hS (by decide)) (by decide) (by decide) ?_
            refine V_iconst dX12_plot_113 ?_
            refine V_iadd dX12_plot_114 ?_
            refine xletE h (fun M5 eM5 h => ?_)
            refine V_iastK (j := 5) dX12_plot_115 (sk_95 hS (by decide)) (by decide) (by decide) ?_
            rw [← eM5]
            refine V_aload_n dX12_plot_116 rfl (xm 1 rfl) ?_
            refine xbE h (fun M7 h6 h => ?_)
            refine T_callVv dX12_plot_117 ok_X12_forgets (by exact ⟨by decide, rfl⟩) lk_X12_78.1 lk_X12_78.2 (sk_94 hS (by decide)) (hV := ((fX12_forgets_c (hS.le (by decide)) h6).mono (by decide) (Nat.le_refl _) (Nat.le_refl _))) rfl (Nat.le_of_ble_eq_true rfl) rfl (Nat.le_of_ble_eq_true rfl) ?_
            refine V_aload_n dX12_plot_120 rfl (xm 1 rfl) ?_
            refine V_getR dX12_plot_121 fl_X12_7 (sk_94 hS (by decide)) rfl ?_
            refine V_iconst dX12_plot_124 ?_
            refine V_ialdK (j := 5) dX12_plot_125 (sk_95 hS (by decide)) (by decide) (by decide) ?_
            refine V_iconst dX12_plot_126 ?_
            refine V_isub dX12_plot_127 ?_
            exact V_ireti dX12_plot_128 rfl (q_wI h)
        · refine V_iconst dX12_plot_50 ?_
          exact V_ireti dX12_plot_51 rfl (q_wI h)
      · refine V_iconst dX12_plot_50 ?_
        exact V_ireti dX12_plot_51 rfl (q_wI h)
    · refine V_iconst dX12_plot_50 ?_
      exact V_ireti dX12_plot_51 rfl (q_wI h)
  · refine V_iconst dX12_plot_50 ?_
    exact V_ireti dX12_plot_51 rfl (q_wI h)
def fX12_set (M : xM) (v1 : Int) (v2 : Int) : Option (Bool × xM) := (if (fX12_isIn v1 0 3) = true then (xj (fun (s1 : Int) => (if (fX12_isIn v2 0 s1) = true then (xwt M 95 5820 (1 + v1) v2 fun M3 => xj (fun (M4 : xM) => xb (fX12_forgets M4) fun M7 => some (true, M7)) fun j5 => (if wr v1 = wr 1 then (xlet (xup M3 95 9 0) fun M8 => j5 M8) else j5 M3)) else some (false, M))) fun j2 => (if wr v1 = 0 then j2 ((M 95 0) - 1) else (if wr v1 = wr 1 then j2 9999 else (if wr v1 = wr 2 then j2 999 else j2 99)))) else some (false, M))
set_option maxRecDepth 20000 in
set_option maxHeartbeats 1000000 in
theorem fX12_set_c {S : xS} {kp : Option Nat} (hS : xSk kp 96 S) {M : xM} {v1 : Int} {v2 : Int} {E : Bool × xM} (h : fX12_set M v1 v2 = some E) :
    V Y_X12_set 1 0 0 0 (xarg 0 [vR (some 94), vI v1, vI v2]) [] S M (xqR S E.2 (some (vI (b2i E.1)))) := by
  unfold fX12_set at h
  show V Y_X12_set 1 0 0 0 [(0, vR (some 94)), (1, vI v1), (2, vI v2)] [] S M _
  refine V_iload_n dX12_set_0 rfl (xm 1 rfl) ?_
  refine V_iconst dX12_set_1 ?_
  refine V_iconst dX12_set_2 ?_
  refine T_callSI (host := "") dX12_set_3 ok_X12_isIn lk_X12_70.1 lk_X12_70.2 (hV := ((fX12_isIn_c (hS.le (by decide)) rfl).mono (by decide) (Nat.le_refl _) (Nat.le_refl _))) rfl (Nat.le_of_ble_eq_true rfl) rfl (Nat.le_of_ble_eq_true rfl) ?_
  refine V_if_neB (tgt := 11) dX12_set_6 (by decide) h (fun _ h => ?_) (fun _ h => ?_)
  · refine V_iload_n dX12_set_11 rfl (xm 1 rfl) ?_
    refine xjE h (fun j2 hj2 h => ?_)
    have kj2 : ∀ (s1 : Int), j2 s1 = some E → V Y_X12_set 1 0 0 50 [(0, vR (some 94)), (1, vI v1), (2, vI v2)] [vI s1] S M (xqR S E.2 (some (vI (b2i E.1)))) := by
      intro s1 h
      rw [hj2] at h
      refine V_istore_n (ls' := [(3, vI s1), (0, vR (some 94)), (1, vI v1), (2, vI v2)]) dX12_set_50 rfl (by decide) rfl ?_
      refine V_iload_n dX12_set_51 rfl (xm 3 rfl) ?_
      refine V_iconst dX12_set_52 ?_
      refine V_iload_n dX12_set_53 rfl (xm 0 rfl) ?_
      refine T_callSI (host := "") dX12_set_54 ok_X12_isIn lk_X12_70.1 lk_X12_70.2 (hV := ((fX12_isIn_c (hS.le (by decide)) rfl).mono (by decide) (Nat.le_refl _) (Nat.le_refl _))) rfl (Nat.le_of_ble_eq_true rfl) rfl (Nat.le_of_ble_eq_true rfl) ?_
      refine V_if_neB (tgt := 62) dX12_set_57 (by decide) h (fun _ h => ?_) (fun _ h => ?_)
      · refine V_aload_n dX12_set_62 rfl (xm 1 rfl) ?_
        refine V_getR dX12_set_63 fl_X12_7 (sk_94 hS (by decide)) rfl ?_
        refine V_iconst dX12_set_66 ?_
        refine V_iload_n dX12_set_67 rfl (xm 2 rfl) ?_
        refine V_iadd dX12_set_68 ?_
        refine V_iload_n dX12_set_69 rfl (xm 3 rfl) ?_
        refine T_iast dX12_set_70 (sk_95 hS (by decide)) rfl h (fun M3 h => ?_)
        refine V_iload_n dX12_set_71 rfl (xm 2 rfl) ?_
        refine V_iconst dX12_set_72 ?_
        refine xjE h (fun j5 hj5 h => ?_)
        have kj5 : ∀ (M4 : xM), j5 M4 = some E → V Y_X12_set 1 0 0 84 [(0, vR (some 94))] [] S M4 (xqR S E.2 (some (vI (b2i E.1)))) := by
          intro M4 h
          rw [hj5] at h
          refine V_aload_n dX12_set_84 rfl (xm 0 rfl) ?_
          refine xbE h (fun M7 h6 h => ?_)
          refine T_callVv dX12_set_85 ok_X12_forgets (by exact ⟨by decide, rfl⟩) lk_X12_78.1 lk_X12_78.2 (sk_94 hS (by decide)) (hV := ((fX12_forgets_c (hS.le (by decide)) h6).mono (by decide) (Nat.le_refl _) (Nat.le_refl _))) rfl (Nat.le_of_ble_eq_true rfl) rfl (Nat.le_of_ble_eq_true rfl) ?_
          refine V_iconst dX12_set_88 ?_
          exact V_iretb (b := true) dX12_set_89 rfl (by decide) (q_wB h)
        refine V_icmp_ne (tgt := 84) dX12_set_73 (by decide) h (fun _ h => ?_) (fun _ h => ?_)
        · refine V_aload_n dX12_set_76 rfl (xm 1 rfl) ?_
          refine V_getR dX12_set_77 fl_X12_7 (sk_94 hS (by decide)) rfl ?_
          refine V_bipush dX12_set_80 (by decide) ?_
          refine V_iconst dX12_set_82 ?_
          refine xletE h (fun M8 eM8 h => ?_)
          refine V_iastK (j := 9) dX12_set_83 (sk_95 hS (by decide)) (by decide) (by decide) ?_
          rw [← eM8]
          refine V.pick [1] rfl ?_
          exact kj5 M8 h
        · refine V.pick [1] rfl ?_
          exact kj5 M3 h
      · refine V_iconst dX12_set_60 ?_
        exact V_iretb (b := false) dX12_set_61 rfl (by decide) (q_wB h)
    refine V_if_ne (tgt := 26) dX12_set_12 (by decide) h (fun _ h => ?_) (fun _ h => ?_)
    · refine V_aload_n dX12_set_15 rfl (xm 0 rfl) ?_
      refine V_getR dX12_set_16 fl_X12_7 (sk_94 hS (by decide)) rfl ?_
      refine V_iconst dX12_set_19 ?_
      refine V_ialdK (j := 0) dX12_set_20 (sk_95 hS (by decide)) (by decide) (by decide) ?_
      refine V_iconst dX12_set_21 ?_
      refine V_isub dX12_set_22 ?_
      refine V_goto (tgt := 50) dX12_set_23 (by decide) ?_
      refine V.pick [0, 1, 2] rfl ?_
      exact kj2 ((M 95 0) - 1) h
    · refine V_iload_n dX12_set_26 rfl (xm 1 rfl) ?_
      refine V_iconst dX12_set_27 ?_
      refine V_icmp_ne (tgt := 37) dX12_set_28 (by decide) h (fun _ h => ?_) (fun _ h => ?_)
      · refine V_sipush dX12_set_31 (by decide) ?_
        refine V_goto (tgt := 50) dX12_set_34 (by decide) ?_
        refine V.pick [0, 1, 2] rfl ?_
        exact kj2 9999 h
      · refine V_iload_n dX12_set_37 rfl (xm 1 rfl) ?_
        refine V_iconst dX12_set_38 ?_
        refine V_icmp_ne (tgt := 48) dX12_set_39 (by decide) h (fun _ h => ?_) (fun _ h => ?_)
        · refine V_sipush dX12_set_42 (by decide) ?_
          refine V_goto (tgt := 50) dX12_set_45 (by decide) ?_
          refine V.pick [0, 1, 2] rfl ?_
          exact kj2 999 h
        · refine V_bipush dX12_set_48 (by decide) ?_
          refine V.pick [0, 1, 2] rfl ?_
          exact kj2 99 h
  · refine V_iconst dX12_set_9 ?_
    exact V_iretb (b := false) dX12_set_10 rfl (by decide) (q_wB h)
def fX12_feed_L18 (n : Nat) (M : xM) (v1 : Int) (v2 : Int) (v3 : Int) (v4 : Int) (v5 : Int) (v6 : Int) : Option (xM) := match n with
  | 0 => none
  | n + 1 => (if wr v6 < wr 20 then (xj (fun (s1 : Int) => xwt M 100 400 (M 94 12) (xand (xshr s1 (24 - (8 * (xrem v6 4)))) 255) fun M3 => xlet (xup M3 94 12 ((M3 94 12) + 1)) fun M4 => fX12_feed_L18 n M4 v1 v2 v3 v4 v5 (v6 + 1)) fun j2 => (if wr v6 < wr 4 then j2 v1 else (if wr v6 < wr 8 then j2 v2 else (if wr v6 < wr 12 then j2 v3 else (if wr v6 < wr 16 then j2 v4 else j2 v5))))) else some M)
set_option maxRecDepth 20000 in
set_option maxHeartbeats 1000000 in
theorem fX12_feed_L18_c {S : xS} {kp : Option Nat} (hS : xSk kp 101 S) {Q : Option xV → xS → xM → Prop} :
    ∀ (n : Nat) (M : xM) (v1 : Int) (v2 : Int) (v3 : Int) (v4 : Int) (v5 : Int) (v6 : Int) {Mz : xM}, fX12_feed_L18 n M v1 v2 v3 v4 v5 v6 = some Mz → V Y_X12_feed 0 0 0 115 [(0, vR (some 94))] [] S Mz Q → V Y_X12_feed 0 0 0 18 [(0, vR (some 94)), (1, vI v1), (2, vI v2), (3, vI v3), (4, vI v4), (5, vI v5), (6, vI v6)] [] S M Q := by
  intro n
  induction n with
  | zero =>
    intro M v1 v2 v3 v4 v5 v6 Mz h k
    cases h
  | succ n ih =>
    intro M v1 v2 v3 v4 v5 v6 Mz h k
    rw [fX12_feed_L18] at h
    refine V_iload dX12_feed_18 (xm 6 rfl) ?_
    refine V_bipush dX12_feed_20 (by decide) ?_
    refine V_icmp_ge (tgt := 115) dX12_feed_22 (by decide) h (fun _ h => ?_) (fun _ h => ?_)
    · refine V_iload dX12_feed_25 (xm 6 rfl) ?_
      refine V_iconst dX12_feed_27 ?_
      refine xjE h (fun j2 hj2 h => ?_)
      have kj2 : ∀ (s1 : Int), j2 s1 = some Mz → V Y_X12_feed 0 0 0 71 [(0, vR (some 94)), (1, vI v1), (2, vI v2), (3, vI v3), (4, vI v4), (5, vI v5), (6, vI v6)] [vI s1] S M Q := by
        intro s1 h
        rw [hj2] at h
        refine V_istore (ls' := [(7, vI s1), (0, vR (some 94)), (1, vI v1), (2, vI v2), (3, vI v3), (4, vI v4), (5, vI v5), (6, vI v6)]) dX12_feed_71 (by decide) rfl ?_
        refine V_aload_n dX12_feed_73 rfl (xm 1 rfl) ?_
        refine V_getR dX12_feed_74 fl_X12_25 (sk_94 hS (by decide)) rfl ?_
        refine V_aload_n dX12_feed_77 rfl (xm 1 rfl) ?_
        refine V_getI (kI := 12) dX12_feed_78 fl_X12_83 (sk_94 hS (by decide)) rfl rfl ?_
        refine V_iload dX12_feed_81 (xm 0 rfl) ?_
        refine V_bipush dX12_feed_83 (by decide) ?_
        refine V_bipush dX12_feed_85 (by decide) ?_
        refine V_iload dX12_feed_87 (xm 7 rfl) ?_
        refine V_iconst dX12_feed_89 ?_
        refine V_iremK dX12_feed_90 (by decide) ?_
        refine V_imul dX12_feed_91 ?_
        refine V_isub dX12_feed_92 ?_
        refine V_ishr dX12_feed_93 ?_
        refine V_sipush dX12_feed_94 (by decide) ?_
        refine V_iand dX12_feed_97 ?_
        refine T_iast dX12_feed_98 (sk_100 hS (by decide)) rfl h (fun M3 h => ?_)
        refine V_aload_n dX12_feed_99 rfl (xm 1 rfl) ?_
        refine V_dup dX12_feed_100 rfl ?_
        refine V_getI (kI := 12) dX12_feed_101 fl_X12_83 (sk_94 hS (by decide)) rfl rfl ?_
        refine V_iconst dX12_feed_104 ?_
        refine V_iadd dX12_feed_105 ?_
        refine T_putI (kI := 12) dX12_feed_106 fp_X12_83 (sk_94 hS (by decide)) rfl rfl h (fun M4 h => ?_)
        refine V_iinc (ls' := [(6, vI (v6 + 1)), (7, vI s1), (0, vR (some 94)), (1, vI v1), (2, vI v2), (3, vI v3), (4, vI v4), (5, vI v5)]) dX12_feed_109 (xm 7 rfl) (by decide) rfl ?_
        refine V_goto (tgt := 18) dX12_feed_112 (by decide) ?_
        refine V.pick [2, 3, 4, 5, 6, 7, 0] rfl ?_
        exact ih M4 v1 v2 v3 v4 v5 (v6 + 1) h k
      refine V_icmp_ge (tgt := 35) dX12_feed_28 (by decide) h (fun _ h => ?_) (fun _ h => ?_)
      · refine V_iload_n dX12_feed_31 rfl (xm 1 rfl) ?_
        refine V_goto (tgt := 71) dX12_feed_32 (by decide) ?_
        refine V.pick [0, 1, 2, 3, 4, 5, 6] rfl ?_
        exact kj2 v1 h
      · refine V_iload dX12_feed_35 (xm 6 rfl) ?_
        refine V_bipush dX12_feed_37 (by decide) ?_
        refine V_icmp_ge (tgt := 46) dX12_feed_39 (by decide) h (fun _ h => ?_) (fun _ h => ?_)
        · refine V_iload_n dX12_feed_42 rfl (xm 2 rfl) ?_
          refine V_goto (tgt := 71) dX12_feed_43 (by decide) ?_
          refine V.pick [0, 1, 2, 3, 4, 5, 6] rfl ?_
          exact kj2 v2 h
        · refine V_iload dX12_feed_46 (xm 6 rfl) ?_
          refine V_bipush dX12_feed_48 (by decide) ?_
          refine V_icmp_ge (tgt := 57) dX12_feed_50 (by decide) h (fun _ h => ?_) (fun _ h => ?_)
          · refine V_iload_n dX12_feed_53 rfl (xm 3 rfl) ?_
            refine V_goto (tgt := 71) dX12_feed_54 (by decide) ?_
            refine V.pick [0, 1, 2, 3, 4, 5, 6] rfl ?_
            exact kj2 v3 h
          · refine V_iload dX12_feed_57 (xm 6 rfl) ?_
            refine V_bipush dX12_feed_59 (by decide) ?_
            refine V_icmp_ge (tgt := 69) dX12_feed_61 (by decide) h (fun _ h => ?_) (fun _ h => ?_)
            · refine V_iload dX12_feed_64 (xm 4 rfl) ?_
              refine V_goto (tgt := 71) dX12_feed_66 (by decide) ?_
              refine V.pick [0, 1, 2, 3, 4, 5, 6] rfl ?_
              exact kj2 v4 h
            · refine V_iload dX12_feed_69 (xm 5 rfl) ?_
              refine V.pick [0, 1, 2, 3, 4, 5, 6] rfl ?_
              exact kj2 v5 h
    · cases h
      refine V.pick [0] rfl ?_
      exact k
theorem fX12_feed_L18_ci {S : xS} {kp : Option Nat} (hS : xSk kp 101 S) {Q : Option xV → xS → xM → Prop} {n : Nat} {M : xM} {v1 : Int} {v2 : Int} {v3 : Int} {v4 : Int} {v5 : Int} {v6 : Int} {Mz : xM} (hl : fX12_feed_L18 n M v1 v2 v3 v4 v5 v6 = some Mz) (k : V Y_X12_feed 0 0 0 115 [(0, vR (some 94))] [] S Mz Q) : V Y_X12_feed 0 0 0 18 [(0, vR (some 94)), (1, vI v1), (2, vI v2), (3, vI v3), (4, vI v4), (5, vI v5), (6, vI v6)] [] S M Q := fX12_feed_L18_c hS _ _ _ _ _ _ _ _ hl k
def fX12_feed (M : xM) (v1 : Int) (v2 : Int) (v3 : Int) (v4 : Int) (v5 : Int) : Option (Int × xM) := (if wr 400 < wr ((M 94 12) + 20) then some ((-1), M) else (xb (fX12_feed_L18 xfuel M v1 v2 v3 v4 v5 0) fun M5 => some (M5 94 12, M5)))
set_option maxRecDepth 20000 in
set_option maxHeartbeats 1000000 in
theorem fX12_feed_c {S : xS} {kp : Option Nat} (hS : xSk kp 101 S) {M : xM} {v1 : Int} {v2 : Int} {v3 : Int} {v4 : Int} {v5 : Int} {E : Int × xM} (h : fX12_feed M v1 v2 v3 v4 v5 = some E) :
    V Y_X12_feed 0 0 0 0 (xarg 0 [vR (some 94), vI v1, vI v2, vI v3, vI v4, vI v5]) [] S M (xqR S E.2 (some (vI E.1))) := by
  unfold fX12_feed at h
  show V Y_X12_feed 0 0 0 0 [(0, vR (some 94)), (1, vI v1), (2, vI v2), (3, vI v3), (4, vI v4), (5, vI v5)] [] S M _
  refine V_aload_n dX12_feed_0 rfl (xm 0 rfl) ?_
  refine V_getI (kI := 12) dX12_feed_1 fl_X12_83 (sk_94 hS (by decide)) rfl rfl ?_
  refine V_bipush dX12_feed_4 (by decide) ?_
  refine V_iadd dX12_feed_6 ?_
  refine V_sipush dX12_feed_7 (by decide) ?_
  refine V_icmp_le (tgt := 15) dX12_feed_10 (by decide) h (fun _ h => ?_) (fun _ h => ?_)
  · refine V_iconst dX12_feed_13 ?_
    exact V_ireti dX12_feed_14 rfl (q_wI h)
  · refine V_iconst dX12_feed_15 ?_
    refine V_istore (ls' := [(6, vI 0), (0, vR (some 94)), (1, vI v1), (2, vI v2), (3, vI v3), (4, vI v4), (5, vI v5)]) dX12_feed_16 (by decide) rfl ?_
    refine xbE h (fun M5 h6 h => ?_)
    refine V.pick [1, 2, 3, 4, 5, 6, 0] rfl ?_
    refine fX12_feed_L18_ci (hS.le (by decide)) h6 ?_
    refine V_aload_n dX12_feed_115 rfl (xm 0 rfl) ?_
    refine V_getI (kI := 12) dX12_feed_116 fl_X12_83 (sk_94 hS (by decide)) rfl rfl ?_
    exact V_ireti dX12_feed_119 rfl (q_wI h)
def fX12_end (M : xM) (v1 : Int) : Option (Bool × xM) := (if (fX12_isIn v1 0 (M 94 12)) = true then (xlet (xup M 94 12 v1) fun M1 => some (true, M1)) else some (false, M))
set_option maxRecDepth 20000 in
set_option maxHeartbeats 1000000 in
theorem fX12_end_c {S : xS} {kp : Option Nat} (hS : xSk kp 95 S) {M : xM} {v1 : Int} {E : Bool × xM} (h : fX12_end M v1 = some E) :
    V Y_X12_end 1 0 0 0 (xarg 0 [vR (some 94), vI v1]) [] S M (xqR S E.2 (some (vI (b2i E.1)))) := by
  unfold fX12_end at h
  show V Y_X12_end 1 0 0 0 [(0, vR (some 94)), (1, vI v1)] [] S M _
  refine V_iload_n dX12_end_0 rfl (xm 1 rfl) ?_
  refine V_iconst dX12_end_1 ?_
  refine V_aload_n dX12_end_2 rfl (xm 0 rfl) ?_
  refine V_getI (kI := 12) dX12_end_3 fl_X12_83 (sk_94 hS (by decide)) rfl rfl ?_
  refine T_callSI (host := "") dX12_end_6 ok_X12_isIn lk_X12_70.1 lk_X12_70.2 (hV := ((fX12_isIn_c (hS.le (by decide)) rfl).mono (by decide) (Nat.le_refl _) (Nat.le_refl _))) rfl (Nat.le_of_ble_eq_true rfl) rfl (Nat.le_of_ble_eq_true rfl) ?_
  refine V_if_neB (tgt := 14) dX12_end_9 (by decide) h (fun _ h => ?_) (fun _ h => ?_)
  · refine V_aload_n dX12_end_14 rfl (xm 0 rfl) ?_
    refine V_iload_n dX12_end_15 rfl (xm 1 rfl) ?_
    refine T_putI (kI := 12) dX12_end_16 fp_X12_83 (sk_94 hS (by decide)) rfl rfl h (fun M1 h => ?_)
    refine V_iconst dX12_end_19 ?_
    exact V_iretb (b := true) dX12_end_20 rfl (by decide) (q_wB h)
  · refine V_iconst dX12_end_12 ?_
    exact V_iretb (b := false) dX12_end_13 rfl (by decide) (q_wB h)
def fX12_see (M : xM) (v1 : Int) : Option Int := (if wr v1 < wr (M 94 12) then (xrd M 100 400 v1 fun r1 => some r1) else some ((-1)))
set_option maxRecDepth 20000 in
set_option maxHeartbeats 1000000 in
theorem fX12_see_c {S : xS} {kp : Option Nat} (hS : xSk kp 101 S) {M : xM} {v1 : Int} {E : Int} (h : fX12_see M v1 = some E) :
    V Y_X12_see 0 0 0 0 (xarg 0 [vR (some 94), vI v1]) [] S M (xqR S M (some (vI E))) := by
  unfold fX12_see at h
  show V Y_X12_see 0 0 0 0 [(0, vR (some 94)), (1, vI v1)] [] S M _
  refine V_iload_n dX12_see_0 rfl (xm 1 rfl) ?_
  refine V_aload_n dX12_see_1 rfl (xm 0 rfl) ?_
  refine V_getI (kI := 12) dX12_see_2 fl_X12_83 (sk_94 hS (by decide)) rfl rfl ?_
  refine V_icmp_ge (tgt := 17) dX12_see_5 (by decide) h (fun _ h => ?_) (fun _ h => ?_)
  · refine V_aload_n dX12_see_8 rfl (xm 0 rfl) ?_
    refine V_getR dX12_see_9 fl_X12_25 (sk_94 hS (by decide)) rfl ?_
    refine V_iload_n dX12_see_12 rfl (xm 1 rfl) ?_
    refine T_iald dX12_see_13 (sk_100 hS (by decide)) rfl h (fun r1 h => ?_)
    refine V_goto (tgt := 18) dX12_see_14 (by decide) ?_
    exact V_ireti dX12_see_18 rfl (q_pI h)
  · refine V_iconst dX12_see_17 ?_
    exact V_ireti dX12_see_18 rfl (q_pI h)
def fX12_isLetter (v0 : Int) : Bool := (if (fX12_isIn v0 97 122) = true then true else (if (fX12_isIn v0 65 90) = true then true else false))
set_option maxRecDepth 20000 in
set_option maxHeartbeats 1000000 in
theorem fX12_isLetter_c {S : xS} {kp : Option Nat} (hS : xSk kp 0 S) {M : xM} {v0 : Int} {E : Bool} (h : fX12_isLetter v0 = E) :
    V Y_X12_isLetter 1 0 0 0 (xarg 0 [vI v0]) [] S M (xqR S M (some (vI (b2i E)))) := by
  unfold fX12_isLetter at h
  show V Y_X12_isLetter 1 0 0 0 [(0, vI v0)] [] S M _
  refine V_iload_n dX12_isLetter_0 rfl (xm 0 rfl) ?_
  refine V_bipush dX12_isLetter_1 (by decide) ?_
  refine V_bipush dX12_isLetter_3 (by decide) ?_
  refine T_callSI (host := "") dX12_isLetter_5 ok_X12_isIn lk_X12_70.1 lk_X12_70.2 (hV := ((fX12_isIn_c (hS.le (by decide)) rfl).mono (by decide) (Nat.le_refl _) (Nat.le_refl _))) rfl (Nat.le_of_ble_eq_true rfl) rfl (Nat.le_of_ble_eq_true rfl) ?_
  refine V_if_neB (tgt := 22) dX12_isLetter_8 (by decide) h (fun _ h => ?_) (fun _ h => ?_)
  · refine V_iconst dX12_isLetter_22 ?_
    refine V_goto (tgt := 27) dX12_isLetter_23 (by decide) ?_
    exact V_iretb (b := true) dX12_isLetter_27 rfl (by decide) (q_tB h)
  · refine V_iload_n dX12_isLetter_11 rfl (xm 0 rfl) ?_
    refine V_bipush dX12_isLetter_12 (by decide) ?_
    refine V_bipush dX12_isLetter_14 (by decide) ?_
    refine T_callSI (host := "") dX12_isLetter_16 ok_X12_isIn lk_X12_70.1 lk_X12_70.2 (hV := ((fX12_isIn_c (hS.le (by decide)) rfl).mono (by decide) (Nat.le_refl _) (Nat.le_refl _))) rfl (Nat.le_of_ble_eq_true rfl) rfl (Nat.le_of_ble_eq_true rfl) ?_
    refine V_if_eqB (tgt := 26) dX12_isLetter_19 (by decide) h (fun _ h => ?_) (fun _ h => ?_)
    · refine V_iconst dX12_isLetter_22 ?_
      refine V_goto (tgt := 27) dX12_isLetter_23 (by decide) ?_
      exact V_iretb (b := true) dX12_isLetter_27 rfl (by decide) (q_tB h)
    · refine V_iconst dX12_isLetter_26 ?_
      exact V_iretb (b := false) dX12_isLetter_27 rfl (by decide) (q_tB h)
def fX12_isDigit (v0 : Int) : Bool := (fX12_isIn v0 48 57)
set_option maxRecDepth 20000 in
set_option maxHeartbeats 1000000 in
theorem fX12_isDigit_c {S : xS} {kp : Option Nat} (hS : xSk kp 0 S) {M : xM} {v0 : Int} {E : Bool} (h : fX12_isDigit v0 = E) :
    V Y_X12_isDigit 1 0 0 0 (xarg 0 [vI v0]) [] S M (xqR S M (some (vI (b2i E)))) := by
  unfold fX12_isDigit at h
  show V Y_X12_isDigit 1 0 0 0 [(0, vI v0)] [] S M _
  refine V_iload_n dX12_isDigit_0 rfl (xm 0 rfl) ?_
  refine V_bipush dX12_isDigit_1 (by decide) ?_
  refine V_bipush dX12_isDigit_3 (by decide) ?_
  refine T_callSI (host := "") dX12_isDigit_5 ok_X12_isIn lk_X12_70.1 lk_X12_70.2 (hV := ((fX12_isIn_c (hS.le (by decide)) rfl).mono (by decide) (Nat.le_refl _) (Nat.le_refl _))) rfl (Nat.le_of_ble_eq_true rfl) rfl (Nat.le_of_ble_eq_true rfl) ?_
  exact V_iretb (b := (fX12_isIn v0 48 57)) dX12_isDigit_8 rfl rfl (q_tB h)
