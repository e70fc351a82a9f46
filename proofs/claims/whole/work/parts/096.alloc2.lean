/-! arrays of references, and arrays of arrays -/
section VB
variable {Y : xY} {d ca sl pc idx : Nat} {ls : List (Nat × xV)} {st : List xV} {S : xS} {M : xM} {Q : Option xV → xS → xM → Prop}
theorem V_newq {q NN : Nat} {x : Int} {rs : xF} (dg : decode Y.2.1 pc = .ok (.anewarray idx, 3)) (hlk : Cond.classLink Y.1.cls idx "TurnedIsland$Want" ∈ xT) (hx : wr x = (NN : Int)) (hN : NN ≤ 10000) (hrs : ∀ j, xrf [] (rs.getD j none) = none) (hro : ∀ o : Nat, some (some o) ∉ rs) (hq : S.length = q) (hlo : ls.all (fun x => xokv q x.2) = true) (hso : st.all (xokv q) = true) (kk : V Y d ca sl (pc + 3) ls (vR (some q) :: st) (S ++ [(104, NN, rs)]) (xz M q 1) Q) : V Y d (ca + 1) (sl + NN) pc ls (vI x :: st) S M Q := by
  subst hq
  intro p l e R s m args below meth c H locs cells slots G cA sa A al lc mc ms Z C0 g1 g2 g3 g4 gz hs hl
  have hcl : (Int32.ofInt x).toNatClampNeg = NN := by rw [wr_clamp, hx]; omega
  have hnn : ¬ Int32.ofInt x < 0 := by intro z; have := (wr_lt x 0).mp z; rw [wr_0, hx] at this; omega
  refine va_newq C0.1 C0.2.1 C0.2.2.2.1 (C0.2.2.2.2.1 _ hlk) C0.2.2.2.2.2.2.2.2.2.1.2.2.2.2.1.2.1 hs.1 hs.2.1 hs.2.2.1 hs.2.2.2.1 C0.2.2.2.2.2.2.2.2.1 hnn hcl (by omega) (by omega) (by omega) dg (fun q cB H1 hKq hP hD hS => ?_)
  have hB : cB = cA 104 := by
    obtain ⟨_, _, -, -, -, h1⟩ := (hKq.2 6 _ rfl).2
    obtain ⟨_, _, -, -, -, h2⟩ := (hKq.2 4 _ rfl).2
    exact Option.some.inj (h1.symm.trans h2)
  subst hB
  have e1 : (al ++ [q]).getD S.length 0 = q := by rw [← hs.2.2.2.2.1]; exact xgetD_mid
  have ec : xcell cA (al ++ [q]) (xz M S.length 1) S.length (104, NN, rs) = .inl (cA 104, NN, .inr (.inr (.inr (.inr (fun _ => none))))) := by
    rw [xcell_r (by decide)]
    refine congrArg (fun f : Nat → Option Nat => (Sum.inl (cA 104, NN, .inr (.inr (.inr (.inr f)))) : va_E)) ?_
    funext j
    have h1 := hrs j
    cases hj : rs.getD j none with
    | none => rfl
    | some r =>
      cases r with
      | none => rfl
      | some o => rw [hj] at h1; cases h1
  have hw2 : (xws cA al S M ++ [(S.length, (104, NN, rs))].map (fun z => ((al ++ [q]).getD z.1 0, xcell cA (al ++ [q]) (xz M S.length 1) z.1 z.2))) = xws cA al S M ++ [(q, .inl (cA 104, NN, .inr (.inr (.inr (.inr (fun _ => none))))))] := by
    show _ ++ [(_, _)] = _
    rw [e1, ec]
  have h := kk.grown (p := p) (l := l) (e := e) (below := below) (H1 := H1) (locs := locs) (cells := cells + 1) (slots := slots + NN) (G := G) (cA := cA) (al := al) (ex := [q]) (lc := lc) (mc := mc) (ms := ms) (Z := Z) (M := M) C0 (by omega) (by omega) g3 g4 gz hs.2.2.2.2 rfl (fun sh hsh o ho => by rcases List.mem_singleton.mp hsh with rfl; exact absurd ho (hro o)) (fun a j ha => if_neg (by omega)) hl hlo hs.1 (by rw [← hw2] at hP; exact hP) (by rw [← hw2] at hD; exact hD) hS
  rw [List.map_cons, em_growL (by rw [hs.2.2.2.2.1]; exact hso)] at h
  have e3 : em (al ++ [q]) sa (vR (some S.length)) = .ref q := by show Value.ref _ = _; rw [e1]
  rw [e3] at h
  exact h
theorem V_aast {o n r n2 k : Nat} {i : Int} {rs rs2 : xF} {r0 : Option (Option Nat)} (dg : decode Y.2.1 pc = .ok (.aastore, 1)) (ho : S[o]? = some (104, n, rs)) (hv : S[r]? = some (9, n2, rs2)) (hk : wr i = (k : Int)) (hc : k < n) (hr : rs[k]? = some r0) (kk : V Y d ca sl (pc + 1) ls st (S.set o (104, n, rs.set k (some (some r)))) M Q) : V Y d ca sl pc ls (vR (some r) :: vI i :: vR (some o) :: st) S M Q := by
  intro p l e R s m args below meth c H locs cells slots G cA sa A al lc mc ms Z C g1 g2 g3 g4 gz hs hl
  have hn := hs.2.2.2.2.1
  have hck : (Int32.ofInt i).toNatClampNeg = k := by rw [wr_clamp, hk]; omega
  have hin : vp_in (Int32.ofInt i) n := wr_in ⟨by omega, by omega⟩
  have ha : (xws cA al S M)[o]? = some (al.getD o 0, .inl (cA 104, n, .inr (.inr (.inr (.inr (fun j => xrf al (rs.getD j none))))))) := by rw [xws_get ho, xcell_r (by decide)]
  have hb : (xws cA al S M)[r]? = some (al.getD r 0, .inr (9, xfl al M r rs2)) := by rw [xws_get hv, xcell_O (by decide)]
  refine va_astq C.1 C.2.1 hs.1 hs.2.1 hs.2.2.1 hs.2.2.2.1 o 4 r 9 (r := (RX9, TX9, 4)) ha rfl hb rfl hin dg (fun H1 locs1 hP hD hS => ?_)
  have e9 : (al.getD o 0, (Sum.inl (cA 104, n, .inr (.inr (.inr (.inr (va_up (fun j => xrf al (rs.getD j none)) (Int32.ofInt i).toNatClampNeg (some (al.getD r 0))))))) : va_E)) = (al.getD o 0, xcell cA al M o (104, n, rs.set k (some (some r)))) := by
    rw [xcell_r (by decide), hck]
    refine congrArg (fun f : Nat → Option Nat => (al.getD o 0, (Sum.inl (cA 104, n, .inr (.inr (.inr (.inr f)))) : va_E))) ?_
    funext j
    unfold va_up
    rw [List.getD_eq_getElem?_getD, List.getD_eq_getElem?_getD]
    by_cases hj : j = k
    · subst hj
      rw [if_pos rfl, List.getElem?_set_self (List.getElem?_eq_some_iff.mp hr).1]
      rfl
    · rw [if_neg hj, List.getElem?_set_ne (Ne.symm hj)]
      show xrf al (rs.getD j none) = _
      rw [List.getD_eq_getElem?_getD]
  rw [e9, xws_setR ho] at hP hD
  refine kk p l e R s m args below meth c H1 locs1 cells slots G cA sa A al lc mc ms Z C g1 g2 g3 g4 gz ⟨hs.1, hP, hD, hS, by rw [List.length_set]; exact hn, xokS_set hs.2.2.2.2.2 (xok_setR (hs.2.2.2.2.2 _ (List.mem_of_getElem? ho)) (fun q hq => by cases hq; rw [hn]; exact (List.getElem?_eq_some_iff.mp hv).1))⟩ hl
theorem V_mna {q NN KK : Nat} {x y : Int} {rs : xF} (dg : decode Y.2.1 pc = .ok (.multianewarray idx 2, 4)) (hlk : Cond.classLink Y.1.cls idx ("[" ++ (FieldType.array .int).toString) ∈ xT ∧ Cond.arrayClass .int ∈ xT) (hx : wr x = (NN : Int)) (hy : wr y = (KK : Int)) (hN : NN ≤ 1000 ∧ KK ≤ 10000) (hrs : ∀ j : Nat, rs.getD j none = if j < NN then some (some (q + 1 + j)) else none) (hro : ∀ o : Nat, some (some o) ∈ rs → o < q + 1 + NN) (hq : S.length = q) (hlo : ls.all (fun x => xokv q x.2) = true) (hso : st.all (xokv q) = true) (kk : V Y d ca sl (pc + 4) ls (vR (some q) :: st) (S ++ ((105, NN, rs) :: List.replicate NN (100, KK, []))) (xz M q (1 + NN)) Q) : V Y d (ca + 1 + NN) (sl + NN + NN * KK) pc ls (vI y :: vI x :: st) S M Q := by
  subst hq
  intro p l e R s m args below meth c H locs cells slots G cA sa A al lc mc ms Z C0 g1 g2 g3 g4 gz hs hl
  have hcl : (Int32.ofInt x).toNatClampNeg = NN := by rw [wr_clamp, hx]; omega
  have hcl2 : (Int32.ofInt y).toNatClampNeg = KK := by rw [wr_clamp, hy]; omega
  have hnn : ¬ Int32.ofInt x < 0 := by intro z; have := (wr_lt x 0).mp z; rw [wr_0, hx] at this; omega
  have hnn2 : ¬ Int32.ofInt y < 0 := by intro z; have := (wr_lt y 0).mp z; rw [wr_0, hy] at this; omega
  have hcy : s.vm.findClass (FieldType.array .int).toString = some (cA 100) := (hs.1.2 0 _ rfl).2
  have hX : xws cA al S M = xws cA al S M ++ va_pl [] (fun _ => .inr (0, [])) := (List.append_nil _).symm
  have hP0 := hs.2.1
  have hD0 := hs.2.2.1
  rw [hX] at hP0 hD0
  refine va_mna (z := (KK, .inl (fun _ => 0))) C0.1 C0.2.1 C0.2.2.2.1 (C0.2.2.2.2.1 _ hlk.1) C0.2.2.2.2.2.2.2.2.2.1.2.2.2.2.1.2.2 (C0.2.2.2.2.1 _ hlk.2) hcy hs.1 hP0 hD0 hs.2.2.2.1 C0.2.2.2.2.2.2.2.2.1 hnn hnn2 hcl hcl2 (by omega) (by show KK * 4 ≤ _; omega) (by omega) rfl rfl (by omega) (by omega) (fun cB => arrV_new cB KK (.int 0)) dg (fun q r cB H1 hinj hnl hKq hP hD hS => ?_)
  have hB : cB = cA 105 := by
    have h1 := (hKq.2 6 _ rfl).2
    exact Option.some.inj (h1.symm.trans (hKq.2 5 _ rfl).2)
  subst hB
  have hal := hs.2.2.2.2.1
  have hexl : (q :: (List.range NN).map r).length = NN + 1 := by simp
  have e1 : ∀ j : Nat, (al ++ (q :: (List.range NN).map r)).getD (S.length + j) 0 = ((q :: (List.range NN).map r)).getD j 0 := by
    intro j
    rw [← hal, List.getD_eq_getElem?_getD, List.getD_eq_getElem?_getD, List.getElem?_append_right (by omega), Nat.add_sub_cancel_left]
  have er : ∀ j : Nat, j < NN → (q :: (List.range NN).map r).getD (j + 1) 0 = r j := by
    intro j hj
    rw [List.getD_eq_getElem?_getD, List.getElem?_cons_succ, List.getElem?_map, List.getElem?_range hj]
    rfl
  have hw2 : (xws cA al S M ++ ((105, NN, rs) :: List.replicate NN (100, KK, ([] : xF))).mapIdx (fun i sh => ((al ++ (q :: (List.range NN).map r)).getD (S.length + i) 0, xcell cA (al ++ (q :: (List.range NN).map r)) (xz M S.length (1 + NN)) (S.length + i) sh))) = (xws cA al S M ++ [(q, .inl (cA 105, NN, .inr (.inr (.inr (.inr (fun i => if i < NN then some (r i) else none))))))]) ++ va_pl ([] ++ (List.range NN).map r) (vr_up (fun _ => .inr (0, [])) ((List.range NN).map r) (.inl (cA 100, KK, .inl (fun _ => 0)))) := by
    rw [List.append_assoc]
    congr 1
    apply List.ext_getElem?
    intro k
    rw [List.getElem?_mapIdx]
    cases k with
    | zero =>
      show some ((al ++ (q :: (List.range NN).map r)).getD (S.length + 0) 0, xcell cA (al ++ (q :: (List.range NN).map r)) (xz M S.length (1 + NN)) (S.length + 0) (105, NN, rs)) = some (q, .inl (cA 105, NN, .inr (.inr (.inr (.inr (fun i => if i < NN then some (r i) else none))))))
      have e0 : (al ++ (q :: (List.range NN).map r)).getD (S.length + 0) 0 = q := e1 0
      rw [e0]
      refine congrArg (fun z : va_E => some (q, z)) ?_
      · rw [xcell_r (by decide)]
        refine congrArg (fun f : Nat → Option Nat => (Sum.inl (cA 105, NN, .inr (.inr (.inr (.inr f)))) : va_E)) ?_
        funext j
        rw [hrs j]
        by_cases hj : j < NN
        · rw [if_pos hj, if_pos hj]
          show some _ = some _
          rw [show S.length + 1 + j = S.length + (j + 1) by omega, e1, er j hj]
        · rw [if_neg hj, if_neg hj]
          rfl
    | succ k =>
      rw [List.getElem?_cons_succ]
      show _ = (va_pl ((List.range NN).map r) _)[k]?
      unfold va_pl
      rw [List.getElem?_map, List.getElem?_map]
      by_cases hk : k < NN
      · rw [List.getElem?_range hk, List.getElem?_replicate, if_pos hk]
        show some ((al ++ (q :: (List.range NN).map r)).getD (S.length + (k + 1)) 0, xcell cA (al ++ (q :: (List.range NN).map r)) (xz M S.length (1 + NN)) (S.length + (k + 1)) (100, KK, [])) = some (r k, vr_up (fun _ => .inr (0, [])) ((List.range NN).map r) (.inl (cA 100, KK, .inl (fun _ => 0))) (r k))
        rw [e1, er k hk]
        refine congrArg (fun z : va_E => some (r k, z)) ?_
        · rw [xcell_i, vr_up_in (List.mem_map.mpr ⟨k, List.mem_range.mpr hk, rfl⟩)]
          have ez : ∀ j : Int, xz M S.length (1 + NN) (S.length + (k + 1)) j = 0 := fun j => if_pos ⟨by omega, by omega⟩
          simp only [ez]
          rfl
      · have hr9 : (List.range NN)[k]? = none := List.getElem?_eq_none (by rw [List.length_range]; omega)
        rw [hr9, List.getElem?_replicate, if_neg hk]
        rfl
  have h := kk.grown (p := p) (l := l) (e := e) (below := below) (H1 := H1) (locs := locs) (cells := cells + 1 + NN) (slots := slots + NN + NN * KK) (G := G) (cA := cA) (al := al) (ex := q :: (List.range NN).map r) (lc := lc) (mc := mc) (ms := ms) (Z := Z) (M := M) C0 (by omega) (by omega) g3 g4 gz hs.2.2.2.2 (by simp) (fun sh hsh o ho => by
    rcases List.mem_cons.mp hsh with rfl | hsh
    · have := hro o ho
      show o < S.length + (List.replicate NN (100, KK, ([] : xF))).length.succ
      rw [List.length_replicate]
      omega
    · rw [(List.mem_replicate.mp hsh).2] at ho
      exact absurd ho List.not_mem_nil) (fun a j ha => if_neg (by omega)) hl hlo hs.1 (by rw [hw2]; exact hP) (by rw [hw2]; exact hD) hS
  rw [List.map_cons, em_growL (by rw [hal]; exact hso)] at h
  have e3 : em (al ++ (q :: (List.range NN).map r)) sa (vR (some S.length)) = .ref q := by
    show Value.ref _ = _
    have := e1 0
    rw [Nat.add_zero] at this
    rw [this]
    rfl
  rw [e3] at h
  exact h
end VB
theorem xapp {P T : xS} {n o k : Nat} {e : Nat × Nat × xF} (hP : P.length = n) (ho : o = n + k) (h : T[k]? = some e) : (P ++ T)[o]? = some e := by
  subst hP; subst ho
  rw [List.getElem?_append_right (by omega), Nat.add_sub_cancel_left]
  exact h
theorem xset {P T : xS} {n o k : Nat} {e : Nat × Nat × xF} (hP : P.length = n) (ho : o = n + k) : (P ++ T).set o e = P ++ T.set k e := by
  subst hP; subst ho
  rw [List.set_append_right _ _ (by omega), Nat.add_sub_cancel_left]
theorem xlenS {P T : xS} {n q : Nat} (hP : P.length = n) (h : n + T.length = q) : (P ++ T).length = q := by
  rw [List.length_append, hP, h]
section VD
variable {Y Y' : xY} {d ca sl pc n idx : Nat} {ls : List (Nat × xV)} {st st0 as : List xV} {S : xS} {M M2 : xM} {Q : Option xV → xS → xM → Prop}
theorem T_callIN {o mc1 ms1 q : Nat} {host : String} {S2 : xS} (dg : decode Y.2.1 pc = .ok (.invokespecial idx, 3)) (hy : xYok Y' n) (hyn : Y'.1.name = "<init>" ∧ Y'.2.2.2.1 = none) (hlk : (Y.1.cls, idx, Y'.1, host) ∈ xNM) (hin : Cond.instanceMethod Y'.1 ∈ xT) (hV : V Y' d mc1 ms1 0 (xarg 0 (vR (some o) :: as)) [] S M (xqR S2 M2 none)) (hn : as.length = n) (harg : ((vR (some o) :: as).map xcat).sum ≤ Y'.2.2.1) (he : as.reverse ++ vR (some o) :: st = st0) (hw : (st.map xcat).sum ≤ 8) (hq : S.length = q) (hlo : ls.all (fun x => xokv q x.2) = true) (hso : st.all (xokv q) = true) (kk : V Y (d + 1) ca sl (pc + 3) ls st S2 M2 Q) : V Y (d + 1) (ca + mc1) (sl + ms1) pc ls st0 S M Q := by
  subst hq
  exact V_callIN dg hy hyn hlk hin hV hn harg he hw hlo hso kk
theorem T_callI {o mc1 ms1 q : Nat} {S2 : xS} (dg : decode Y.2.1 pc = .ok (.invokespecial idx, 3)) (hy : xYok Y' n) (hyn : Y'.1.name = "<init>" ∧ Y'.2.2.2.1 = none) (hlk : Cond.methodLink Y.1.cls idx Y'.1 ∈ xT) (hin : Cond.instanceMethod Y'.1 ∈ xT) (hV : V Y' d mc1 ms1 0 (xarg 0 (vR (some o) :: as)) [] S M (xqR S2 M2 none)) (hn : as.length = n) (harg : ((vR (some o) :: as).map xcat).sum ≤ Y'.2.2.1) (he : as.reverse ++ vR (some o) :: st = st0) (hw : (st.map xcat).sum ≤ 8) (hq : S.length = q) (hlo : ls.all (fun x => xokv q x.2) = true) (hso : st.all (xokv q) = true) (kk : V Y (d + 1) ca sl (pc + 3) ls st S2 M2 Q) : V Y (d + 1) (ca + mc1) (sl + ms1) pc ls st0 S M Q := by
  subst hq
  exact V_callI dg hy hyn hlk hin hV hn harg he hw hlo hso kk
theorem V_ifnonnull {o tgt : Nat} {off : Int} (dg : decode Y.2.1 pc = .ok (.ifnonnull off, 3)) (ht : (pc : Int) + off = (tgt : Int)) (kk : V Y d ca sl tgt ls st S M Q) : V Y d ca sl pc ls (vR (some o) :: st) S M Q := by
  intro p l e R s m args below meth c H locs cells slots G cA sa A al lc mc ms Z C g1 g2 g3 g4 gz hs hl
  exact lv_ifnonnull C.1 C.2.1 dg ht (kk p l e R s m args below meth c H locs cells slots G cA sa A al lc mc ms Z C g1 g2 g3 g4 gz hs hl)
theorem V_ifnonnullN {off : Int} (dg : decode Y.2.1 pc = .ok (.ifnonnull off, 3)) (kk : V Y d ca sl (pc + 3) ls st S M Q) : V Y d ca sl pc ls (vR none :: st) S M Q := by
  intro p l e R s m args below meth c H locs cells slots G cA sa A al lc mc ms Z C g1 g2 g3 g4 gz hs hl
  exact lv_ifnonnullN C.1 C.2.1 dg (kk p l e R s m args below meth c H locs cells slots G cA sa A al lc mc ms Z C g1 g2 g3 g4 gz hs hl)
theorem V_putN {ci k n o idx : Nat} {rs : xF} {r0 : Option (Option Nat)} {ty : FieldType} (dg : decode Y.2.1 pc = .ok (.putfield idx, 3)) (hf : xFp Y.1.cls idx ci k ty false) (hty : narrow ty .null = .null ∧ fits ty .null = true) (ho : S[o]? = some (ci, n, rs)) (hr : rs[k]? = some r0) (kk : V Y d ca sl (pc + 3) ls st (S.set o (ci, n, rs.set k (some none))) M Q) : V Y d ca sl pc ls (vR none :: vR (some o) :: st) S M Q := by
  intro p l e R s m args below meth c H locs cells slots G cA sa A al lc mc ms Z C g1 g2 g3 g4 gz hs hl
  obtain ⟨C1, T, N, h1, h2, h3, h4, h5, h6⟩ := hf
  obtain ⟨⟨ty0, hty0⟩, hnm⟩ := xUt h1
  have hob := xOb (G := G) (cA := cA) (A := A) (s := s) (al := al) (M := M) (H := H) (locs := locs) h2 ho
  have hkl : k < (xfl al M o rs).length := by rw [xfl_len]; exact (List.getElem?_eq_some_iff.mp hr).1
  refine va_put C.1 C.2.1 C.2.2.2.2.1 (xUw h1) ty0 hty0 hnm C.2.2.2.1 hs.1 hs.2.1 hs.2.2.1 hs.2.2.2.1 o hob h1 k h3 (C.2.2.2.2.1 _ h4) (fun _ h => h) h5 h6 hty.1 hty.2 hkl dg (fun H1 locs1 hP hD hS => ?_)
  have e9 : (al.getD o 0, (Sum.inr (ci, (xfl al M o rs).set k (em al sa (vR none))) : va_E)) = (al.getD o 0, xcell cA al M o (ci, n, rs.set k (some none))) := by
    rw [xcell_O h2, ← xfl_setR hr]
    rfl
  rw [e9, xws_setR ho] at hP hD
  exact kk p l e R s m args below meth c H1 locs1 cells slots G cA sa A al lc mc ms Z C g1 g2 g3 g4 gz ⟨hs.1, hP, hD, hS, by rw [List.length_set]; exact hs.2.2.2.2.1, xokS_set hs.2.2.2.2.2 (xok_setR (hs.2.2.2.2.2 _ (List.mem_of_getElem? ho)) (fun q hq => by cases hq))⟩ hl
end VD
