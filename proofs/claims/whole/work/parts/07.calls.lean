/-! calls: a method's contract out of its walk, and the caller's step over it -/
def xarg : Nat → List xV → List (Nat × xV)
  | _, [] => []
  | i, v :: vs => (i, v) :: xarg (if xw2 v = true then i + 2 else i + 1) vs
def xwd (Y : xY) : List Cond := Cond.code Y.1 Y.2.1 Y.2.2.1 Y.2.2.2.1 :: xT
def xYok (Y : xY) (n : Nat) : Prop := plainFor Y.1 = true ∧ Cond.code Y.1 Y.2.1 Y.2.2.1 Y.2.2.2.1 ∈ xT ∧ Cond.initialized Y.1.cls ∈ xT ∧ (Y.1.cls ≠ "java/lang/invoke/MethodHandle" ∧ Y.1.cls ≠ "java/lang/invoke/VarHandle" ∧ (parseMethodDescriptor Y.1.desc).map (fun d => d.parameters.length) = some n) ∧ Y.2.2.1 ≤ 45 ∧ Y.2.2.2.2 = none
theorem xarg_em (al : List Nat) (sa : Nat → Nat) : ∀ (i : Nat) (as : List xV), lv_args i (as.map (em al sa)) = xlv al sa (xarg i as)
  | _, [] => rfl
  | i, v :: vs => by
    have h : (if (em al sa v).category = 2 then i + 2 else i + 1) = (if xw2 v = true then i + 2 else i + 1) := by
      rcases v with x | x | x | x
      · rfl
      · rfl
      · cases x <;> rfl
      · rfl
    show (i, em al sa v) :: lv_args (if (em al sa v).category = 2 then i + 2 else i + 1) (vs.map (em al sa)) = _
    rw [h, xarg_em al sa _ vs]
    rfl
theorem xsl_len (al : List Nat) (sa : Nat → Nat) : ∀ as : List xV, (lg_sl (as.map (em al sa))).length = (as.map xcat).sum
  | [] => rfl
  | v :: vs => by
    have ih := xsl_len al sa vs
    unfold lg_sl at ih ⊢
    rw [List.map_cons, List.flatMap_cons, List.length_append, ih, List.map_cons, List.sum_cons]
    congr 1
    rcases v with x | x | x | x
    · rfl
    · rfl
    · cases x <;> rfl
    · rfl
theorem xcats (al : List Nat) (sa : Nat → Nat) (st : List xV) : ((st.map (em al sa)).map fun v => v.category) = st.map xcat := by
  rw [List.map_map]
  apply List.map_congr_left
  intro v _
  exact xcat_em al sa v
def xQ (G : va_G) (cA : Nat → ClassId) (sa : Nat → Nat) (A : Nat → Prop) (al : List Nat) (Q : Option xV → xS → xM → Prop) : Array Value → State → Outcome → State → Prop := fun _ st oc t =>
  (∃ (rv : Option xV) (S' : xS) (M' : xM) (ex : List Nat), oc = .returned (rv.map (em (al ++ ex) sa)) ∧ Q rv S' M' ∧ va_P G vwCl (xws cA (al ++ ex) S' M') t.heap ∧ va_D A (xws cA (al ++ ex) S' M') ∧ xLn (al ++ ex) S') ∧ va_F A st t
def xPc (G : va_G) (cA : Nat → ClassId) (sa : Nat → Nat) (al : List Nat) (S : xS) (M : xM) (sz : Nat) (avs : List Value) : Array Value → State → Prop :=
  va_Pc avs (fun U => U.heap.size = sz ∧ va_K G vwCl (xtys cA) U ∧ va_P G vwCl (xws cA al S M) U.heap ∧ va_D (fun _ => True) (xws cA al S M) ∧ xStat sa (va_A (xws cA al S M) sz) U)
theorem xPc_blind {G : va_G} {cA : Nat → ClassId} {sa : Nat → Nat} {al : List Nat} {S : xS} {M : xM} {sz : Nat} {avs : List Value} : FrameBlind (xPc G cA sa al S M sz avs) := by
  intro a U g mk q
  obtain ⟨q0, q1, qK, qP, qD, qS⟩ := q
  exact ⟨q0, q1, va_K.moved (u := U) (U := U.calling g mk a) (Vm.Alike.refl U.vm) qK, qP, qD, qS.same rfl rfl⟩
theorem xMet {Y : xY} {n d mc ms : Nat} {as : List xV} {S : xS} {M : xM} {Q : Option xV → xS → xM → Prop} (hy : xYok Y n) (harg : (as.map xcat).sum ≤ Y.2.2.1) (hV : V Y d mc ms 0 (xarg 0 as) [] S M Q) (l : Launch) (G : va_G) (cA : Nat → ClassId) (sa : Nat → Nat) (al : List Nat) (sz : Nat) (hal : xLn al S) :
    Met l Y.1 (xwd Y) { frames := d, cells := mc, slots := ms, locals := 64 * d } (xPc G cA sa al S M sz (as.map (em al sa))) (xQ G cA sa (va_A (xws cA al S M) sz) al Q) mc ms (va_A (xws cA al S M) sz) := by
  refine va_MetF (cc := Y.2.1) (maxL := Y.2.2.1) (ret := Y.2.2.2.1) hy.1 rfl ?_
  intro p e s m args below meth c s₁ B hml hv
  obtain ⟨rfl, hsz, hK, hP, hD0, hSt⟩ := hv
  have hts := atoms_spec (ws := xwd Y) B.pre
  have hown : s.vm.findClass Y.1.cls = some m.cls := findClass_of_methodNamed B.named
  have hname : meth.name = Y.1.name := (name_of_methodNamed B.named B.method).1
  have hlocks := B.notSynchronized
  have hr := B.returns
  have hx := B.exec
  have hb := B.bytes
  subst hsz
  have hD := hD0.self (sz := s.heap.size)
  have hS : va_S (va_A (xws cA al S M) s.heap.size) s.heap s.heap [] := va_S.rf
  have hl := lv_entry (as.map (em al sa)) (n := Y.2.2.1) (by rw [xsl_len]; exact harg)
  rw [lg_entry_eq]
  rw [xarg_em] at hl
  refine hV p l e _ s m _ below meth c s.heap [] 0 0 G cA sa (va_A (xws cA al S M) s.heap.size) al _ mc ms _ ⟨hx, hb, hml, hown, fun w hw => hts w (List.mem_cons_of_mem _ hw), hname, Nat.le_refl _, Nat.le_refl _, fun q h => Or.inr h, hSt, fun L xs h => by rw [hy.2.2.2.2.2] at h; cases h⟩ (by omega) (by omega) (Nat.le_refl _) (Nat.le_refl _) ?_ ⟨hK, hP, hD, hS, hal⟩ hl
  intro H locs cells slots ex S' M' rv pc lc hq hsim hc1 hc2 hret
  refine W.widen (k := mc) (n := ms) hc1 hc2 ?_
  rcases hret with ⟨rfl, h1, h2⟩ | ⟨x, ty, rfl, h1, h3, h2⟩ | ⟨x, rfl, h1, h2⟩
  · exact W.vret hx hb (hr.trans h1) (fun t ht hW => ⟨⟨none, S', M', ex, rfl, hq, by rw [ht]; exact hsim.2.1, hsim.2.2.1, hsim.2.2.2.2⟩, hsim.2.2.2.1.F ht⟩) hsim.2.2.2.1.2.2 h2
  · exact W.zret hx hb (hr.trans h1) h3 (fun t ht hW => ⟨⟨some (vI x), S', M', ex, rfl, hq, by rw [ht]; exact hsim.2.1, hsim.2.2.1, hsim.2.2.2.2⟩, hsim.2.2.2.1.F ht⟩) hsim.2.2.2.1.2.2 h2
  · exact W.lret hx hb (hr.trans h1) (fun t ht hW => ⟨⟨some (vL x), S', M', ex, rfl, hq, by rw [ht]; exact hsim.2.1, hsim.2.2.1, hsim.2.2.2.2⟩, hsim.2.2.2.1.F ht⟩) hsim.2.2.2.1.2.2 h2
theorem xGo {p : Program} {l : Launch} {e : Env} {R : Room} {s : State} {m : MethodId} {args a : Array Value} {below : List Frame} {meth : Method} {c : Code} {H : Heap} {locs : List Loc} {cells slots mc ms pc : Nat} {lc : Array Slot} {st0 rest : List Value} {G : va_G} {cA : Nat → ClassId} {sa : Nat → Nat} {A : Nat → Prop} {al : List Nat} {S : xS} {M : xM} {Q : Option xV → xS → xM → Prop} {Z : State → Prop}
    (hr : va_Run p l e R s m args below meth c H locs cells slots mc ms (F0 m pc lc st0) rest (xQ G cA sa (va_A (xws cA al S M) H.size) al Q a) (va_A (xws cA al S M) H.size)) (hs : xSim G cA A s al S M H locs) (hA : ∀ q, s.heap.size ≤ q → A q)
    (kk : ∀ (rv : Option xV) (S' : xS) (M' : xM) (ex : List Nat) (H1 : Heap) (locs1 : List Loc), Q rv S' M' → xSim G cA A s (al ++ ex) S' M' H1 locs1 → W p l e R s m args below meth c H1 locs1 (cells + mc) (slots + ms) Z (F0 m (pc + 3) lc ((rv.map (em (al ++ ex) sa)).toList ++ rest))) : W p l e R s m args below meth c H locs cells slots Z (F0 m pc lc st0) := by
  obtain ⟨hK, hP, hD, hS, hal⟩ := hs
  have hAA : ∀ q, va_A (xws cA al S M) H.size q → A q := by
    intro q hq
    rcases hq with ⟨k, e, hk⟩ | hq
    · exact hD.2 k _ hk
    · exact hA q (Nat.le_trans hS.1 hq)
  intro T hT X
  obtain ⟨v, st₀, t, T', L, h0, X', hL, e1, e2, ⟨⟨rv, S', M', ex, hv, hq, hP', hD', hlen⟩, hz, hk⟩, st⟩ := hr T hT X
  have hv : v = rv.map (em (al ++ ex) sa) := Outcome.returned.inj hv
  subst hv
  rw [h0] at hz hk
  obtain ⟨t2, a1, b1⟩ := kk rv S' M' ex T'.heap (locs ++ L) hq ⟨hK, by rw [e1]; exact hP', hD'.weaken (fun _ _ _ h => hAA _ h), ⟨Nat.le_trans hS.1 (by rw [e1]; exact hz), fun q h1 h2 => by rw [e1, hk q (Nat.lt_of_lt_of_le h1 hS.1) (fun z => h2 (hAA q z))]; exact hS.2.1 q h1 h2, fun q hq => by
      rcases List.mem_append.mp hq with h | h
      · exact hS.2.2 q h
      · exact hAA _ (hL q h)⟩, hlen⟩ T' rfl X'
  exact ⟨t2, st t2 a1, b1⟩
theorem xGood {Y : xY} {n : Nat} (hy : xYok Y n) {l : List Cond} (h : ∀ w ∈ l, w ∈ xT) : GoodIn xT (l ++ xwd Y) := by
  intro w hw
  rcases List.mem_append.mp hw with h1 | h1
  · exact xT_good (h w h1)
  · rcases List.mem_cons.mp h1 with rfl | h1
    · exact xT_good hy.2.1
    · exact xT_good h1
section VC
variable {Y Y' : xY} {d ca sl pc n idx : Nat} {ls : List (Nat × xV)} {st as : List xV} {S : xS} {M : xM} {Q Q' : Option xV → xS → xM → Prop}
theorem xPcOf {p : Program} {R : Room} {s : State} {m : MethodId} {args : Array Value} {meth : Method} {c : Code} {sa : Nat → Nat} {A : Nat → Prop} {G : va_G} {cA : Nat → ClassId} {al : List Nat} {H : Heap} {locs : List Loc} (C : xC Y d p R s m args meth c sa A) (hs : xSim G cA A s al S M H locs) (avs : List Value) (U : State) (hU : U.heap = H) (hW : s.WarmedH U.vm) : xPc G cA sa al S M H.size avs avs.toArray U := by
  obtain ⟨hK, hP, hD, hS, hal⟩ := hs
  refine ⟨rfl, by rw [hU], va_K.moved hW.alike hK, by rw [hU]; exact hP, hD.weaken (fun _ _ _ _ => trivial), C.2.2.2.2.2.2.2.2.2.1.go hW (fun a h1 h2 => by rw [hU]; exact hS.2.1 a h1 h2) ?_⟩
  intro q hq
  rcases hq with ⟨k, e, hk⟩ | hq
  · exact hD.2 k _ hk
  · exact C.2.2.2.2.2.2.2.2.1 q (Nat.le_trans hS.1 hq)
/-- what goes on behind a call that makes nothing -/
theorem xBack {p : Program} {l : Launch} {e : Env} {R : Room} {s : State} {m : MethodId} {args : Array Value} {below : List Frame} {meth : Method} {c : Code} {cells slots : Nat} {G : va_G} {cA : Nat → ClassId} {sa : Nat → Nat} {A : Nat → Prop} {al : List Nat} {lc : Array Slot} {mc ms : Nat} {Z : State → Prop}
    (C : xC Y (d + 1) p R s m args meth c sa A) (g1 : cells + ca ≤ mc) (g2 : slots + sl ≤ ms) (g3 : mc ≤ R.cells) (g4 : ms ≤ R.slots) (gz : xEnd p l e R s m args below meth c Y G cA sa A al mc ms Q Z) (hal : al.length = S.length) (hl : lv_has lc Y.2.2.1 (xlv al sa ls)) (hS : ∀ rv S' M', Q' rv S' M' → S' = S) (kk : ∀ rv M', Q' rv S M' → V Y (d + 1) ca sl (pc + 3) ls (rv.toList ++ st) S M' Q) :
    ∀ (rv : Option xV) (S' : xS) (M' : xM) (ex : List Nat) (H1 : Heap) (locs1 : List Loc), Q' rv S' M' → xSim G cA A s (al ++ ex) S' M' H1 locs1 → W p l e R s m args below meth c H1 locs1 (cells + 0) (slots + 0) Z (F0 m (pc + 3) lc ((rv.map (em (al ++ ex) sa)).toList ++ st.map (em al sa))) := by
  intro rv S' M' ex H1 locs1 hq hs
  have e1 := hS _ _ _ hq
  subst e1
  have e2 : ex = [] := by
    have h1 := hs.2.2.2.2.1
    rw [List.length_append] at h1
    exact List.length_eq_zero_iff.mp (by omega)
  subst e2
  rw [List.append_nil] at hs ⊢
  have h := kk rv M' hq p l e R s m args below meth c H1 locs1 cells slots G cA sa A al lc mc ms Z C g1 g2 g3 g4 gz hs hl
  rw [List.map_append] at h
  have e3 : (rv.map (em al sa)).toList = rv.toList.map (em al sa) := by cases rv <;> rfl
  rw [e3]
  exact h
theorem V_callS (dg : decode Y.2.1 pc = .ok (.invokestatic idx, 3)) (hy : xYok Y' n) (hn : as.length = n) (harg : (as.map xcat).sum ≤ Y'.2.2.1) (hw : (st.map xcat).sum ≤ 8) (hlk : Cond.methodLink Y.1.cls idx Y'.1 ∈ xT) (hst : Cond.static Y'.1 ∈ xT) (hV : V Y' d 0 0 0 (xarg 0 as) [] S M Q') (hS : ∀ rv S' M', Q' rv S' M' → S' = S) (kk : ∀ rv M', Q' rv S M' → V Y (d + 1) ca sl (pc + 3) ls (rv.toList ++ st) S M' Q) : V Y (d + 1) ca sl pc ls (as.reverse ++ st) S M Q := by
  intro p l e R s m args below meth c H locs cells slots G cA sa A al lc mc ms Z C g1 g2 g3 g4 gz hs hl
  have hc7 := C.2.2.2.2.2.2.1
  have hc8 := C.2.2.2.2.2.2.2.1
  have hy45 := hy.2.2.2.2.1
  have hG : GoodIn xT (va_wsS Y.1.cls idx Y'.1 (xwd Y')) := xGood hy (l := [.methodLink Y.1.cls idx Y'.1, .static Y'.1, .initialized Y'.1.cls]) (by
    intro w h
    simp only [List.mem_cons, List.not_mem_nil, or_false] at h
    rcases h with rfl | rfl | rfl
    · exact hlk
    · exact hst
    · exact hy.2.2.1)
  refine xGo (va_runS (As := as.map (em al sa)) (rest := st.map (em al sa)) (n := n) ⟨C.1, C.2.1, C.2.2.1, C.2.2.2.1, C.2.2.2.2.1⟩ (xMet hy harg hV l G cA sa al H.size hs.2.2.2.2) (va_cwS n C.2.2.2.2.1 hG rfl rfl rfl hy.2.2.2.1 ⟨hc7, by show 8 + (Y'.2.2.1 + 11) + 64 * d ≤ R.locals; omega⟩) ⟨xPc_blind, fun U hU hW => xPcOf C hs _ U hU hW⟩ rfl (by rw [List.length_map]; exact hn) hl.1 (by show List.map _ _ = _; rw [List.map_append, List.map_reverse]) (lv_room (by rw [xcats]; exact hw)) dg ⟨by omega, by omega⟩) hs C.2.2.2.2.2.2.2.2.1 (xBack C g1 g2 g3 g4 gz hs.2.2.2.2.1 hl hS kk)
theorem V_callSN {host : String} (dg : decode Y.2.1 pc = .ok (.invokestatic idx, 3)) (hy : xYok Y' n) (hn : as.length = n) (harg : (as.map xcat).sum ≤ Y'.2.2.1) (hw : (st.map xcat).sum ≤ 8) (hlk : (Y.1.cls, idx, Y'.1, host) ∈ xNM) (hst : Cond.static Y'.1 ∈ xT) (hV : V Y' d 0 0 0 (xarg 0 as) [] S M Q') (hS : ∀ rv S' M', Q' rv S' M' → S' = S) (kk : ∀ rv M', Q' rv S M' → V Y (d + 1) ca sl (pc + 3) ls (rv.toList ++ st) S M' Q) : V Y (d + 1) ca sl pc ls (as.reverse ++ st) S M Q := by
  intro p l e R s m args below meth c H locs cells slots G cA sa A al lc mc ms Z C g1 g2 g3 g4 gz hs hl
  have hc7 := C.2.2.2.2.2.2.1
  have hc8 := C.2.2.2.2.2.2.2.1
  have hy45 := hy.2.2.2.2.1
  refine xGo (va_runSN (As := as.map (em al sa)) (rest := st.map (em al sa)) (n := n) ⟨C.1, C.2.1, C.2.2.1, C.2.2.2.1, C.2.2.2.2.1⟩ (xMet hy harg hV l G cA sa al H.size hs.2.2.2.2) ⟨va_cnB n C.2.2.2.2.1 (xGood (l := []) hy (fun w h => absurd h List.not_mem_nil)) rfl rfl rfl (C.2.2.2.2.2.2.2.2.2.1.1 _ hlk) (C.2.2.2.2.1 _ hy.2.2.1) hy.2.2.2.1 ⟨hc7, by show 8 + (Y'.2.2.1 + 11) + 64 * d ≤ R.locals; omega⟩, C.2.2.2.2.1 _ hst, trivial⟩ ⟨xPc_blind, fun U hU hW => xPcOf C hs _ U hU hW⟩ rfl (by rw [List.length_map]; exact hn) hl.1 (by show List.map _ _ = _; rw [List.map_append, List.map_reverse]) (lv_room (by rw [xcats]; exact hw)) dg ⟨by omega, by omega⟩) hs C.2.2.2.2.2.2.2.2.1 (xBack C g1 g2 g3 g4 gz hs.2.2.2.2.1 hl hS kk)
theorem V_callV {o ci nn : Nat} {rs : xF} {T : u_T} {N : Nat} (dg : decode Y.2.1 pc = .ok (.invokevirtual idx, 3)) (hy : xYok Y' n) (hn : as.length = n) (harg : ((vR (some o) :: as).map xcat).sum ≤ Y'.2.2.1) (hw : (st.map xcat).sum ≤ 8) (ho : S[o]? = some (ci, nn, rs)) (hci : ci < 100) (hcl : vwCl[ci]? = some (Y'.1.cls, T, N)) (hlk : Cond.methodLink Y.1.cls idx Y'.1 ∈ xT) (hin : Cond.instanceMethod Y'.1 ∈ xT) (hse : Cond.selects Y'.1.cls Y'.1 Y'.1 ∈ xT) (hV : V Y' d 0 0 0 (xarg 0 (vR (some o) :: as)) [] S M Q') (hS : ∀ rv S' M', Q' rv S' M' → S' = S) (kk : ∀ rv M', Q' rv S M' → V Y (d + 1) ca sl (pc + 3) ls (rv.toList ++ st) S M' Q) : V Y (d + 1) ca sl pc ls (as.reverse ++ vR (some o) :: st) S M Q := by
  intro p l e R s m args below meth c H locs cells slots G cA sa A al lc mc ms Z C g1 g2 g3 g4 gz hs hl
  have hc7 := C.2.2.2.2.2.2.1
  have hc8 := C.2.2.2.2.2.2.2.1
  have hy45 := hy.2.2.2.2.1
  have hG : GoodIn xT (wsV Y.1.cls idx Y'.1.cls Y'.1 (xwd Y')) := xGood hy (l := [.methodLink Y.1.cls idx Y'.1, .instanceMethod Y'.1, .selects Y'.1.cls Y'.1 Y'.1, .initialized Y'.1.cls]) (by
    intro w h
    simp only [List.mem_cons, List.not_mem_nil, or_false] at h
    rcases h with rfl | rfl | rfl | rfl
    · exact hlk
    · exact hin
    · exact hse
    · exact hy.2.2.1)
  refine xGo (va_runV (C := Y'.1.cls) (As := as.map (em al sa)) (b := al.getD o 0) (rest := st.map (em al sa)) (n := n) ⟨C.1, C.2.1, C.2.2.1, C.2.2.2.1, C.2.2.2.2.1⟩ (xMet hy harg hV l G cA sa al H.size hs.2.2.2.2) (cwV n C.2.2.2.2.1 hG rfl rfl rfl ⟨rfl, hy.2.2.2.1⟩ ⟨hc7, by show 8 + (Y'.2.2.1 + 11) + 64 * d ≤ R.locals; omega⟩) ⟨xPc_blind, va_recv hs.1 hs.2.1 (ci := ci) (q0 := o) (fs := xfl al M o rs) hcl (by rw [xws_get ho, xcell_O hci]), fun U hU hW => xPcOf C hs _ U hU hW⟩ rfl (by rw [List.length_map]; exact hn) hl.1 (by show List.map _ _ = _; rw [List.map_append, List.map_reverse]; rfl) (lv_room (by rw [xcats]; exact hw)) dg ⟨by omega, by omega⟩) hs C.2.2.2.2.2.2.2.2.1 (xBack C g1 g2 g3 g4 gz hs.2.2.2.2.1 hl hS kk)
end VC
