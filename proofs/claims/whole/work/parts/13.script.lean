/-! the law's script, and a call that makes -/
def xsc {α : Type} (xs : Nat → Int32) (L : Nat) (i : Int) (F : Int → Option α) : Option α := if 0 ≤ wr i ∧ wr i < (L : Int) then F ((xs (wr i).toNat).toInt) else none
section VE
variable {Y Y' : xY} {d ca sl pc n idx : Nat} {ls : List (Nat × xV)} {st st0 as : List xV} {S : xS} {M M2 : xM} {Q : Option xV → xS → xM → Prop}
theorem T_sld {α : Type} {E : α} {L : Nat} {xs : Nat → Int32} {i : Int} {F : Int → Option α} (dg : decode Y.2.1 pc = .ok (.iaload, 1)) (hy : Y.2.2.2.2 = some (L, xs)) (h : xsc xs L i F = some E) (k : ∀ v, F v = some E → V Y d ca sl (pc + 1) ls (vI v :: st) S M Q) : V Y d ca sl pc ls (vI i :: vS 3 :: st) S M Q := by
  unfold xsc at h
  by_cases hc : 0 ≤ wr i ∧ wr i < (L : Int)
  · rw [if_pos hc] at h
    exact V_sld (X := F ((xs (wr i).toNat).toInt)) (N0 := none) (E := some E) dg hy (by rw [if_pos hc]; exact h) (by simp) (fun _ h => k _ h)
  · rw [if_neg hc] at h
    cases h
theorem xBackB {p : Program} {l : Launch} {e : Env} {R : Room} {s : State} {m : MethodId} {args : Array Value} {below : List Frame} {meth : Method} {c : Code} {cells slots mc1 ms1 : Nat} {G : va_G} {cA : Nat → ClassId} {sa : Nat → Nat} {A : Nat → Prop} {al : List Nat} {lc : Array Slot} {mc ms : Nat} {Z : State → Prop} {S2 : xS} {r : Option Int}
    (C : xC Y (d + 1) p R s m args meth c sa A) (g1 : cells + (ca + mc1) ≤ mc) (g2 : slots + (sl + ms1) ≤ ms) (g3 : mc ≤ R.cells) (g4 : ms ≤ R.slots) (gz : xEnd p l e R s m args below meth c Y G cA sa A al mc ms Q Z) (hal : al.length = S.length) (hl : lv_has lc Y.2.2.1 (xlv al sa ls)) (hlo : ls.all (fun x => xokv S.length x.2) = true) (hso : st.all (xokv S.length) = true) (kk : V Y (d + 1) ca sl (pc + 3) ls ((r.map (fun x => vI x)).toList ++ st) S2 M2 Q) :
    ∀ (rv : Option xV) (S' : xS) (M' : xM) (ex : List Nat) (H1 : Heap) (locs1 : List Loc), xqR S2 M2 (r.map (fun x => vI x)) rv S' M' → xSim G cA A s (al ++ ex) S' M' H1 locs1 → W p l e R s m args below meth c H1 locs1 (cells + mc1) (slots + ms1) Z (F0 m (pc + 3) lc ((rv.map (em (al ++ ex) sa)).toList ++ st.map (em al sa))) := by
  intro rv S' M' ex H1 locs1 hq hs
  obtain ⟨h1, h2, h3⟩ := hq
  subst h1; subst h2; subst h3
  have h := kk p l e R s m args below meth c H1 locs1 (cells + mc1) (slots + ms1) G cA sa A (al ++ ex) lc mc ms Z C (by omega) (by omega) g3 g4 (xEnd_grow gz ex) hs (by rw [xlv_grow (by rw [hal]; exact hlo)]; exact hl)
  have e5 : st.map (em (al ++ ex) sa) = st.map (em al sa) := em_growL (by rw [hal]; exact hso)
  rw [List.map_append, e5] at h
  have e3 : ((r.map (fun x => vI x)).map (em (al ++ ex) sa)).toList = (r.map (fun x => vI x)).toList.map (em (al ++ ex) sa) := by cases r <;> rfl
  rw [e3]
  exact h
theorem T_callVA {o ci nn mc1 ms1 q : Nat} {rs : xF} {T : u_T} {N : Nat} {S2 : xS} {r : Option Int} (dg : decode Y.2.1 pc = .ok (.invokevirtual idx, 3)) (hy : xYok Y' n) (hcl : ci < 100 ∧ vwCl[ci]? = some (Y'.1.cls, T, N)) (hlk : Cond.methodLink Y.1.cls idx Y'.1 ∈ xT) (hin : Cond.instanceMethod Y'.1 ∈ xT ∧ Cond.selects Y'.1.cls Y'.1 Y'.1 ∈ xT) (ho : S[o]? = some (ci, nn, rs)) (hV : V Y' d mc1 ms1 0 (xarg 0 (vR (some o) :: as)) [] S M (xqR S2 M2 (r.map (fun x => vI x)))) (hn : as.length = n) (harg : ((vR (some o) :: as).map xcat).sum ≤ Y'.2.2.1) (he : as.reverse ++ vR (some o) :: st = st0) (hw : (st.map xcat).sum ≤ 8) (hq : S.length = q) (hlo : ls.all (fun x => xokv q x.2) = true) (hso : st.all (xokv q) = true) (kk : V Y (d + 1) ca sl (pc + 3) ls ((r.map (fun x => vI x)).toList ++ st) S2 M2 Q) : V Y (d + 1) (ca + mc1) (sl + ms1) pc ls st0 S M Q := by
  subst he; subst hq
  intro p l e R s m args below meth c H locs cells slots G cA sa A al lc mc ms Z C g1 g2 g3 g4 gz hs hl
  have hc7 := C.2.2.2.2.2.2.1
  have hc8 := C.2.2.2.2.2.2.2.1
  have hy45 := hy.2.2.2.2.1
  have hG : GoodIn xT (wsV Y.1.cls idx Y'.1.cls Y'.1 (xwd Y')) := xGood hy (l := [.methodLink Y.1.cls idx Y'.1, .instanceMethod Y'.1, .selects Y'.1.cls Y'.1 Y'.1, .initialized Y'.1.cls]) (by
    intro w h
    simp only [List.mem_cons, List.not_mem_nil, or_false] at h
    rcases h with rfl | rfl | rfl | rfl
    · exact hlk
    · exact hin.1
    · exact hin.2
    · exact hy.2.2.1)
  refine xGo (va_runV (C := Y'.1.cls) (As := as.map (em al sa)) (b := al.getD o 0) (rest := st.map (em al sa)) (n := n) ⟨C.1, C.2.1, C.2.2.1, C.2.2.2.1, C.2.2.2.2.1⟩ (xMet hy harg hV l G cA sa al H.size hs.2.2.2.2) (cwV n C.2.2.2.2.1 hG rfl rfl rfl ⟨rfl, hy.2.2.2.1⟩ ⟨hc7, by show 8 + (Y'.2.2.1 + 11) + 64 * d ≤ R.locals; omega⟩) ⟨xPc_blind, va_recv hs.1 hs.2.1 (ci := ci) (q0 := o) (fs := xfl al M o rs) hcl.2 (by rw [xws_get ho, xcell_O hcl.1]), fun U hU hW => xPcOf C hs _ U hU hW⟩ rfl (by rw [List.length_map]; exact hn) hl.1 (by show List.map _ _ = _; rw [List.map_append, List.map_reverse]; rfl) (lv_room (by rw [xcats]; exact hw)) dg ⟨by omega, by omega⟩) hs C.2.2.2.2.2.2.2.2.1 (xBackB C g1 g2 g3 g4 gz hs.2.2.2.2.1 hl hlo hso kk)
end VE
