/-! what is made: new cells come behind the others -/
theorem xgetD {al ex : List Nat} {o : Nat} (h : o < al.length) : (al ++ ex).getD o 0 = al.getD o 0 := by
  rw [List.getD_eq_getElem?_getD, List.getD_eq_getElem?_getD, List.getElem?_append_left h]
theorem xgetD_mid {al ex : List Nat} {q : Nat} : (al ++ q :: ex).getD al.length 0 = q := by
  rw [List.getD_eq_getElem?_getD, List.getElem?_append_right (Nat.le_refl _), Nat.sub_self]
  rfl
theorem xcell_grow {cA : Nat → ClassId} {al ex : List Nat} {M M2 : xM} {i : Nat} {sh : Nat × Nat × xF} (hok : ∀ o : Nat, some (some o) ∈ sh.2.2 → o < al.length) (hM : ∀ j, M2 i j = M i j) : xcell cA (al ++ ex) M2 i sh = xcell cA al M i sh := by
  have e1 : xfl (al ++ ex) M2 i sh.2.2 = xfl al M i sh.2.2 := by
    apply List.ext_getElem?
    intro k
    unfold xfl
    rw [List.getElem?_mapIdx, List.getElem?_mapIdx]
    cases hk : sh.2.2[k]? with
    | none => rfl
    | some r =>
      show some _ = some _
      congr 1
      rcases r with _ | r
      · unfold xfv; rw [hM]
      · cases r with
        | none => rfl
        | some o =>
          show Value.ref _ = Value.ref _
          rw [xgetD (hok o (List.mem_of_getElem? hk))]
  have e2 : ∀ j : Nat, xrf (al ++ ex) (sh.2.2.getD j none) = xrf al (sh.2.2.getD j none) := by
    intro j
    rw [List.getD_eq_getElem?_getD]
    cases hk : sh.2.2[j]? with
    | none => rfl
    | some r =>
      rcases r with _ | r
      · rfl
      · cases r with
        | none => rfl
        | some o =>
          show some _ = some _
          rw [xgetD (hok o (List.mem_of_getElem? hk))]
  unfold xcell
  simp only [e1, e2, hM]
theorem xws_push {cA : Nat → ClassId} {al ex : List Nat} {S S1 : xS} {M M2 : xM} (hln : xLn al S) (hM : ∀ a j, a < S.length → M2 a j = M a j) : xws cA (al ++ ex) (S ++ S1) M2 = xws cA al S M ++ S1.mapIdx (fun i sh => ((al ++ ex).getD (S.length + i) 0, xcell cA (al ++ ex) M2 (S.length + i) sh)) := by
  apply List.ext_getElem?
  intro k
  by_cases hk : k < S.length
  · rw [List.getElem?_append_left (by rw [xws_len]; exact hk)]
    unfold xws
    rw [List.getElem?_mapIdx, List.getElem?_mapIdx, List.getElem?_append_left hk]
    cases h : S[k]? with
    | none => rfl
    | some sh =>
      show some ((al ++ ex).getD k 0, xcell cA (al ++ ex) M2 k sh) = some (al.getD k 0, xcell cA al M k sh)
      rw [xgetD (by rw [hln.1]; exact hk), xcell_grow (hln.2 sh (List.mem_of_getElem? h)) (fun j => hM k j hk)]
  · rw [List.getElem?_append_right (by rw [xws_len]; omega), xws_len]
    unfold xws
    rw [List.getElem?_mapIdx, List.getElem?_mapIdx, List.getElem?_append_right (by omega)]
    rw [show S.length + (k - S.length) = k by omega]
def xz (M : xM) (q n : Nat) : xM := fun a j => if q ≤ a ∧ a < q + n then 0 else M a j
def xokv (n : Nat) (v : xV) : Bool := match v with
  | .inr (.inr (.inl (some i))) => decide (i < n)
  | _ => true
theorem em_grow {al ex : List Nat} {sa : Nat → Nat} {v : xV} (h : xokv al.length v = true) : em (al ++ ex) sa v = em al sa v := by
  rcases v with x | x | x | x
  · rfl
  · rfl
  · cases x with
    | none => rfl
    | some i =>
      show Value.ref _ = Value.ref _
      rw [xgetD (of_decide_eq_true h)]
  · rfl
theorem em_growL {al ex : List Nat} {sa : Nat → Nat} {st : List xV} (h : st.all (xokv al.length) = true) : st.map (em (al ++ ex) sa) = st.map (em al sa) := by
  apply List.map_congr_left
  intro v hv
  exact em_grow (List.all_eq_true.mp h v hv)
theorem xlv_grow {al ex : List Nat} {sa : Nat → Nat} {ls : List (Nat × xV)} (h : ls.all (fun q => xokv al.length q.2) = true) : xlv (al ++ ex) sa ls = xlv al sa ls := by
  apply List.map_congr_left
  intro q hq
  rw [em_grow (List.all_eq_true.mp h q hq)]
theorem xEnd_grow {p : Program} {l : Launch} {e : Env} {R : Room} {s : State} {m : MethodId} {args : Array Value} {below : List Frame} {meth : Method} {c : Code} {Y : xY} {G : va_G} {cA : Nat → ClassId} {sa : Nat → Nat} {A : Nat → Prop} {al : List Nat} {mc ms : Nat} {Q : Option xV → xS → xM → Prop} {Z : State → Prop} (h : xEnd p l e R s m args below meth c Y G cA sa A al mc ms Q Z) (ex : List Nat) : xEnd p l e R s m args below meth c Y G cA sa A (al ++ ex) mc ms Q Z := by
  intro H locs cells slots ex2 S M rv pc lc hq hs
  rw [List.append_assoc] at hs ⊢
  exact h H locs cells slots (ex ++ ex2) S M rv pc lc hq hs
/-- behind a making: the walk goes on over the grown world -/
theorem V.grown {Y : xY} {d ca sl pc : Nat} {ls : List (Nat × xV)} {st : List xV} {S S1 : xS} {M M2 : xM} {Q : Option xV → xS → xM → Prop} (k : V Y d ca sl pc ls st (S ++ S1) M2 Q) {p : Program} {l : Launch} {e : Env} {R : Room} {s : State} {m : MethodId} {args : Array Value} {below : List Frame} {meth : Method} {c : Code} {H1 : Heap} {locs : List Loc} {cells slots : Nat} {G : va_G} {cA : Nat → ClassId} {sa : Nat → Nat} {A : Nat → Prop} {al ex : List Nat} {lc : Array Slot} {mc ms : Nat} {Z : State → Prop}
    (C : xC Y d p R s m args meth c sa A) (g1 : cells + ca ≤ mc) (g2 : slots + sl ≤ ms) (g3 : mc ≤ R.cells) (g4 : ms ≤ R.slots) (gz : xEnd p l e R s m args below meth c Y G cA sa A al mc ms Q Z) (hln : xLn al S) (hex : ex.length = S1.length) (hS1 : xokS (S.length + S1.length) S1) (hM : ∀ a j, a < S.length → M2 a j = M a j) (hl : lv_has lc Y.2.2.1 (xlv al sa ls)) (hlo : ls.all (fun q => xokv S.length q.2) = true)
    (hK : va_K G vwCl (xtys cA) s) (hP : va_P G vwCl (xws cA al S M ++ S1.mapIdx (fun i sh => ((al ++ ex).getD (S.length + i) 0, xcell cA (al ++ ex) M2 (S.length + i) sh))) H1) (hD : va_D A (xws cA al S M ++ S1.mapIdx (fun i sh => ((al ++ ex).getD (S.length + i) 0, xcell cA (al ++ ex) M2 (S.length + i) sh)))) (hS : va_S A s.heap H1 locs) :
    W p l e R s m args below meth c H1 locs cells slots Z (F0 m pc lc (st.map (em (al ++ ex) sa))) := by
  rw [← xws_push hln hM] at hP hD
  refine k p l e R s m args below meth c H1 locs cells slots G cA sa A (al ++ ex) lc mc ms Z C g1 g2 g3 g4 (xEnd_grow gz ex) ⟨hK, hP, hD, hS, ?_, ?_⟩ ?_
  · rw [List.length_append, List.length_append, hex, hln.1]
  · intro sh hsh o ho
    rw [List.length_append, hex, hln.1]
    rcases List.mem_append.mp hsh with h | h
    · have := hln.2 sh h o ho
      rw [hln.1] at this
      omega
    · exact hS1 sh h o ho
  · rw [xlv_grow (by rw [hln.1]; exact hlo)]
    exact hl
section VA
variable {Y Y' : xY} {d ca sl pc n idx : Nat} {ls : List (Nat × xV)} {st st0 as : List xV} {S : xS} {M M2 : xM} {Q Q' : Option xV → xS → xM → Prop}
theorem V_new {ci N q : Nat} {C : String} {T : u_T} {rs : xF} (dg : decode Y.2.1 pc = .ok (.new idx, 3)) (hc : vwCl[ci]? = some (C, T, N)) (hci : ci < 100) (hlk : Cond.classLink Y.1.cls idx C ∈ xT ∧ Cond.instantiable C N ∈ xT ∧ Cond.initialized C ∈ xT) (ty : Nat → FieldType) (hty : ∀ k, k < N → parseFieldDescriptor (T k).2.2.1 = some (ty k)) (hrs : ∀ j, j < N → (rs[j]? = some none ∧ defaultValue (ty j) = .int 0) ∨ (rs[j]? = some (some none) ∧ defaultValue (ty j) = .null)) (hro : ∀ o : Nat, some (some o) ∉ rs) (hq : S.length = q) (hlo : ls.all (fun x => xokv q x.2) = true) (hso : st.all (xokv q) = true) (kk : V Y d ca sl (pc + 3) ls (vR (some q) :: st) (S ++ [(ci, N, rs)]) (xz M q 1) Q) : V Y d (ca + 1) (sl + N) pc ls st S M Q := by
  subst hq
  intro p l e R s m args below meth c H locs cells slots G cA sa A al lc mc ms Z C0 g1 g2 g3 g4 gz hs hl
  refine va_new (ci := ci) (fs := xfl al (xz M S.length 1) S.length rs) C0.1 C0.2.1 C0.2.2.2.2.1 (xUw hc) ty hty C0.2.2.2.1 (C0.2.2.2.2.1 _ hlk.1) (C0.2.2.2.2.1 _ hlk.2.1) (C0.2.2.2.2.1 _ hlk.2.2) hs.1 hs.2.1 hs.2.2.1 hs.2.2.2.1 C0.2.2.2.2.2.2.2.2.1 hc ?_ (by omega) (by omega) dg (fun q H1 hP hD hS => ?_)
  · intro j hj
    unfold vp_V
    rw [List.getD_eq_getElem?_getD]
    rcases hrs j hj with ⟨h1, h2⟩ | ⟨h1, h2⟩
    · rw [xfl_get h1, h2]
      show _ = Value.int (Int32.ofInt (xz M S.length 1 S.length j))
      rw [show xz M S.length 1 S.length (j : Int) = 0 from if_pos ⟨Nat.le_refl _, by omega⟩]
      rfl
    · rw [xfl_get h1, h2]
      rfl
  · have e1 : (al ++ [q]).getD S.length 0 = q := by rw [← hs.2.2.2.2.1]; exact xgetD_mid
    have e2 : xcell cA (al ++ [q]) (xz M S.length 1) S.length (ci, N, rs) = .inr (ci, xfl al (xz M S.length 1) S.length rs) := by
      rw [xcell_grow (M := xz M S.length 1) (fun o ho => absurd ho (hro o)) (fun _ => rfl), xcell_O hci]
    have hw : (xws cA al S M ++ [(S.length, (ci, N, rs))].map (fun z => ((al ++ [q]).getD z.1 0, xcell cA (al ++ [q]) (xz M S.length 1) z.1 z.2))) = xws cA al S M ++ [(q, .inr (ci, xfl al (xz M S.length 1) S.length rs))] := by
      show _ ++ [(_, _)] = _
      rw [e1, e2]
    have h := kk.grown (p := p) (l := l) (e := e) (below := below) (H1 := H1) (locs := locs) (cells := cells + 1) (slots := slots + N) (G := G) (cA := cA) (al := al) (ex := [q]) (lc := lc) (mc := mc) (ms := ms) (Z := Z) (M := M) C0 (by omega) (by omega) g3 g4 gz hs.2.2.2.2 rfl (fun sh hsh o ho => by rcases List.mem_singleton.mp hsh with rfl; exact absurd ho (hro o)) (fun a j ha => if_neg (by omega)) hl hlo hs.1 (by rw [← hw] at hP; exact hP) (by rw [← hw] at hD; exact hD) hS
    rw [List.map_cons, em_growL (by rw [hs.2.2.2.2.1]; exact hso)] at h
    have e3 : em (al ++ [q]) sa (vR (some S.length)) = .ref q := by show Value.ref _ = _; rw [e1]
    rw [e3] at h
    exact h
theorem V_newa {kd q NN : Nat} {x : Int} {atype : ArrayType} {ty : FieldType} (dg : decode Y.2.1 pc = .ok (.newarray atype, 2)) (hk : (kd = 100 ∧ ty = .int) ∨ (kd = 101 ∧ ty = .long) ∨ (kd = 102 ∧ ty = .boolean) ∨ (kd = 103 ∧ ty = .char)) (hty : newarray.typeOf atype = ty) (hw : Cond.arrayClass ty ∈ xT) (hx : wr x = (NN : Int)) (hN : NN ≤ 10000) (hq : S.length = q) (hlo : ls.all (fun x => xokv q x.2) = true) (hso : st.all (xokv q) = true) (kk : V Y d ca sl (pc + 2) ls (vR (some q) :: st) (S ++ [(kd, NN, [])]) (xz M q 1) Q) : V Y d (ca + 1) (sl + NN) pc ls (vI x :: st) S M Q := by
  subst hq
  intro p l e R s m args below meth c H locs cells slots G cA sa A al lc mc ms Z C0 g1 g2 g3 g4 gz hs hl
  have hcl : (Int32.ofInt x).toNatClampNeg = NN := by rw [wr_clamp, hx]; omega
  have hnn : ¬ Int32.ofInt x < 0 := by intro z; have := (wr_lt x 0).mp z; rw [wr_0, hx] at this; omega
  have hcell : ∃ a0 : vp_A, (∀ cB : ClassId, vp_cell cB a0 = arrV cB NN (fun _ => defaultValue ty)) ∧ ∀ q, xcell cA (al ++ [q]) (xz M S.length 1) S.length (kd, NN, []) = .inl (cA kd, a0) := by
    have ez : ∀ j : Int, xz M S.length 1 S.length j = 0 := fun j => if_pos ⟨Nat.le_refl _, by omega⟩
    rcases hk with ⟨rfl, rfl⟩ | ⟨rfl, rfl⟩ | ⟨rfl, rfl⟩ | ⟨rfl, rfl⟩
    · exact ⟨(NN, .inl (fun _ => 0)), fun cB => rfl, fun q => by rw [xcell_i]; simp only [ez]; rfl⟩
    · exact ⟨(NN, .inr (.inl (fun _ => 0))), fun cB => rfl, fun q => by rw [xcell_l]; simp only [ez]; rfl⟩
    · exact ⟨(NN, .inl (fun _ => 0)), fun cB => rfl, fun q => by rw [xcell_z]; simp only [ez]; rfl⟩
    · exact ⟨(NN, .inl (fun _ => 0)), fun cB => rfl, fun q => by rw [xcell_c]; simp only [ez]; rfl⟩
  obtain ⟨a0, ha0, hce⟩ := hcell
  have hcb : componentBytes ty ≤ 8 := by rcases hk with ⟨-, rfl⟩ | ⟨-, rfl⟩ | ⟨-, rfl⟩ | ⟨-, rfl⟩ <;> decide
  refine va_newa C0.1 C0.2.1 (by rw [hty]; exact C0.2.2.2.2.1 _ hw) hty hs.1 hs.2.1 hs.2.2.1 hs.2.2.2.1 C0.2.2.2.2.2.2.2.2.1 (a0 := a0) ha0 hnn hcl (Nat.le_trans (Nat.mul_le_mul hN hcb) (by decide)) (by omega) (by omega) dg (fun q cB H1 hKq hP hD hS => ?_)
  have hB : cB = cA kd := by
    have h1 := (hKq.2 6 _ rfl).2
    rcases hk with ⟨rfl, rfl⟩ | ⟨rfl, rfl⟩ | ⟨rfl, rfl⟩ | ⟨rfl, rfl⟩
    · exact Option.some.inj (h1.symm.trans (hKq.2 0 _ rfl).2)
    · exact Option.some.inj (h1.symm.trans (hKq.2 1 _ rfl).2)
    · exact Option.some.inj (h1.symm.trans (hKq.2 2 _ rfl).2)
    · exact Option.some.inj (h1.symm.trans (hKq.2 3 _ rfl).2)
  subst hB
  have e1 : (al ++ [q]).getD S.length 0 = q := by rw [← hs.2.2.2.2.1]; exact xgetD_mid
  have hw2 : (xws cA al S M ++ [(S.length, (kd, NN, ([] : xF)))].map (fun z => ((al ++ [q]).getD z.1 0, xcell cA (al ++ [q]) (xz M S.length 1) z.1 z.2))) = xws cA al S M ++ [(q, .inl (cA kd, a0))] := by
    show _ ++ [(_, _)] = _
    rw [e1, hce]
  have h := kk.grown (p := p) (l := l) (e := e) (below := below) (H1 := H1) (locs := locs) (cells := cells + 1) (slots := slots + NN) (G := G) (cA := cA) (al := al) (ex := [q]) (lc := lc) (mc := mc) (ms := ms) (Z := Z) (M := M) C0 (by omega) (by omega) g3 g4 gz hs.2.2.2.2 rfl (fun sh hsh o ho => by rcases List.mem_singleton.mp hsh with rfl; exact absurd ho List.not_mem_nil) (fun a j ha => if_neg (by omega)) hl hlo hs.1 (by rw [← hw2] at hP; exact hP) (by rw [← hw2] at hD; exact hD) hS
  rw [List.map_cons, em_growL (by rw [hs.2.2.2.2.1]; exact hso)] at h
  have e3 : em (al ++ [q]) sa (vR (some S.length)) = .ref q := by show Value.ref _ = _; rw [e1]
  rw [e3] at h
  exact h
theorem V_objInit {o : Nat} (dg : decode Y.2.1 pc = .ok (.invokespecial idx, 3)) (hlk : Cond.methodLink Y.1.cls idx Lib.objectInit ∈ xT ∧ Cond.instanceMethod Lib.objectInit ∈ xT ∧ Cond.code Lib.objectInit ⟨#[0xb1]⟩ 1 none ∈ xT) (hd : 1 ≤ d) (hw : (st.map xcat).sum ≤ 8) (kk : V Y d ca sl (pc + 3) ls st S M Q) : V Y d ca sl pc ls (vR (some o) :: st) S M Q := by
  intro p l e R s m args below meth c H locs cells slots G cA sa A al lc mc ms Z C g1 g2 g3 g4 gz hs hl
  have hc7 := C.2.2.2.2.2.2.1
  have hc8 := C.2.2.2.2.2.2.2.1
  have hcat := xcats al sa st
  exact W.objInit C.1 C.2.1 C.2.2.2.1 (C.2.2.2.2.1 _ hlk.1) (C.2.2.2.2.1 _ hlk.2.1) (C.2.2.2.2.1 _ hlk.2.2) rfl (hl.1.trans C.2.2.1.symm) (rest := st.map (em al sa)) rfl dg (by omega) (by rw [hcat]; show 2 * 0 + _ + 12 ≤ _; omega) (kk p l e R s m args below meth c H locs cells slots G cA sa A al lc mc ms Z C g1 g2 g3 g4 gz hs hl)
theorem xokS_set {n o ci m : Nat} {S : xS} {rs : xF} (h : xokS n S) (hr : ∀ q : Nat, some (some q) ∈ rs → q < n) : xokS n (S.set o (ci, m, rs)) := by
  intro e he q hq
  rcases List.mem_or_eq_of_mem_set he with h1 | rfl
  · exact h e h1 q hq
  · exact hr q hq
theorem xok_setR {n k : Nat} {rs : xF} {r : Option Nat} (h : ∀ q : Nat, some (some q) ∈ rs → q < n) (hr : ∀ q, r = some q → q < n) : ∀ q : Nat, some (some q) ∈ rs.set k (some r) → q < n := by
  intro q hq
  rcases List.mem_or_eq_of_mem_set hq with h1 | h1
  · exact h q h1
  · exact hr q (Option.some.inj h1).symm
/-- a reference into a field: in a constructor, or into a field that is not final -/
theorem V_putR {ci k n o idx r : Nat} {rs : xF} {r0 : Option (Option Nat)} {ty : FieldType} {fin : Bool} (dg : decode Y.2.1 pc = .ok (.putfield idx, 3)) (hf : xFp Y.1.cls idx ci k ty fin) (hfin : fin = true → Y.1.name = "<init>" ∧ ∃ (C : String) (T : u_T) (N : Nat), vwCl[ci]? = some (C, T, N) ∧ (T k).1 = Y.1.cls) (hty : ∀ a : Nat, narrow ty (.ref a) = .ref a ∧ fits ty (.ref a) = true) (ho : S[o]? = some (ci, n, rs)) (hr : rs[k]? = some r0) (hrq : r < S.length) (kk : V Y d ca sl (pc + 3) ls st (S.set o (ci, n, rs.set k (some (some r)))) M Q) : V Y d ca sl pc ls (vR (some r) :: vR (some o) :: st) S M Q := by
  intro p l e R s m args below meth c H locs cells slots G cA sa A al lc mc ms Z C g1 g2 g3 g4 gz hs hl
  obtain ⟨C1, T, N, h1, h2, h3, h4, h5, h6⟩ := hf
  obtain ⟨⟨ty0, hty0⟩, hnm⟩ := xUt h1
  have hob := xOb (G := G) (cA := cA) (A := A) (s := s) (al := al) (M := M) (H := H) (locs := locs) h2 ho
  have hkl : k < (xfl al M o rs).length := by rw [xfl_len]; exact (List.getElem?_eq_some_iff.mp hr).1
  have hn := hs.2.2.2.2.1
  have go : ∀ (H1 : Heap) (locs1 : List Loc), va_P G vwCl ((xws cA al S M).set o (al.getD o 0, .inr (ci, (xfl al M o rs).set k (.ref (al.getD r 0))))) H1 → va_D A ((xws cA al S M).set o (al.getD o 0, .inr (ci, (xfl al M o rs).set k (.ref (al.getD r 0))))) → va_S A s.heap H1 locs1 → W p l e R s m args below meth c H1 locs1 cells slots Z (F0 m (pc + 3) lc (st.map (em al sa))) := by
    intro H1 locs1 hP hD hS
    have e9 : (al.getD o 0, (Sum.inr (ci, (xfl al M o rs).set k (.ref (al.getD r 0))) : va_E)) = (al.getD o 0, xcell cA al M o (ci, n, rs.set k (some (some r)))) := by
      rw [xcell_O h2, ← xfl_setR hr]
      rfl
    rw [e9, xws_setR ho] at hP hD
    refine kk p l e R s m args below meth c H1 locs1 cells slots G cA sa A al lc mc ms Z C g1 g2 g3 g4 gz ⟨hs.1, hP, hD, hS, by rw [List.length_set]; exact hn, xokS_set hs.2.2.2.2.2 (xok_setR (hs.2.2.2.2.2 _ (List.mem_of_getElem? ho)) (fun q hq => by cases hq; rw [hn]; exact hrq))⟩ hl
  cases fin with
  | false => exact va_put C.1 C.2.1 C.2.2.2.2.1 (xUw h1) ty0 hty0 hnm C.2.2.2.1 hs.1 hs.2.1 hs.2.2.1 hs.2.2.2.1 o hob h1 k h3 (C.2.2.2.2.1 _ h4) (fun _ h => h) h5 h6 (hty _).1 (hty _).2 hkl dg go
  | true =>
    obtain ⟨q1, C2, T2, N2, q2, q3⟩ := hfin rfl
    cases h1.symm.trans q2
    exact va_putF C.1 C.2.1 C.2.2.2.2.1 (xUw h1) ty0 hty0 hnm C.2.2.2.1 hs.1 hs.2.1 hs.2.2.1 hs.2.2.2.1 o hob h1 k h3 (C.2.2.2.2.1 _ h4) (fun _ h => h) h5 (C.2.2.2.2.2.1.trans q1) q3 h6 (hty _).1 (hty _).2 hkl dg go
/-- behind a call that may make: ids of the caller's values stay -/
theorem xBackA {p : Program} {l : Launch} {e : Env} {R : Room} {s : State} {m : MethodId} {args : Array Value} {below : List Frame} {meth : Method} {c : Code} {cells slots mc1 ms1 : Nat} {G : va_G} {cA : Nat → ClassId} {sa : Nat → Nat} {A : Nat → Prop} {al : List Nat} {lc : Array Slot} {mc ms : Nat} {Z : State → Prop} {S2 : xS}
    (C : xC Y (d + 1) p R s m args meth c sa A) (g1 : cells + (ca + mc1) ≤ mc) (g2 : slots + (sl + ms1) ≤ ms) (g3 : mc ≤ R.cells) (g4 : ms ≤ R.slots) (gz : xEnd p l e R s m args below meth c Y G cA sa A al mc ms Q Z) (hal : al.length = S.length) (hl : lv_has lc Y.2.2.1 (xlv al sa ls)) (hlo : ls.all (fun x => xokv S.length x.2) = true) (hso : st.all (xokv S.length) = true) (kk : V Y (d + 1) ca sl (pc + 3) ls st S2 M2 Q) :
    ∀ (rv : Option xV) (S' : xS) (M' : xM) (ex : List Nat) (H1 : Heap) (locs1 : List Loc), xqR S2 M2 none rv S' M' → xSim G cA A s (al ++ ex) S' M' H1 locs1 → W p l e R s m args below meth c H1 locs1 (cells + mc1) (slots + ms1) Z (F0 m (pc + 3) lc ((rv.map (em (al ++ ex) sa)).toList ++ st.map (em al sa))) := by
  intro rv S' M' ex H1 locs1 hq hs
  obtain ⟨h1, h2, h3⟩ := hq
  subst h1; subst h2; subst h3
  have h := kk p l e R s m args below meth c H1 locs1 (cells + mc1) (slots + ms1) G cA sa A (al ++ ex) lc mc ms Z C (by omega) (by omega) g3 g4 (xEnd_grow gz ex) hs (by rw [xlv_grow (by rw [hal]; exact hlo)]; exact hl)
  rw [em_growL (by rw [hal]; exact hso)] at h
  exact h
theorem V_callIN {o mc1 ms1 : Nat} {host : String} {S2 : xS} (dg : decode Y.2.1 pc = .ok (.invokespecial idx, 3)) (hy : xYok Y' n) (hyn : Y'.1.name = "<init>" ∧ Y'.2.2.2.1 = none) (hlk : (Y.1.cls, idx, Y'.1, host) ∈ xNM) (hin : Cond.instanceMethod Y'.1 ∈ xT) (hV : V Y' d mc1 ms1 0 (xarg 0 (vR (some o) :: as)) [] S M (xqR S2 M2 none)) (hn : as.length = n) (harg : ((vR (some o) :: as).map xcat).sum ≤ Y'.2.2.1) (he : as.reverse ++ vR (some o) :: st = st0) (hw : (st.map xcat).sum ≤ 8) (hlo : ls.all (fun x => xokv S.length x.2) = true) (hso : st.all (xokv S.length) = true) (kk : V Y (d + 1) ca sl (pc + 3) ls st S2 M2 Q) : V Y (d + 1) (ca + mc1) (sl + ms1) pc ls st0 S M Q := by
  subst he
  intro p l e R s m args below meth c H locs cells slots G cA sa A al lc mc ms Z C g1 g2 g3 g4 gz hs hl
  have hc7 := C.2.2.2.2.2.2.1
  have hc8 := C.2.2.2.2.2.2.2.1
  have hy45 := hy.2.2.2.2.1
  obtain ⟨y1, y2, y3, y4, y5⟩ := Y'
  obtain ⟨hyn1, hyn2⟩ := hyn
  cases hyn2
  refine xGo (va_runIN (As := as.map (em al sa)) (b := al.getD o 0) (rest := st.map (em al sa)) (n := n) ⟨C.1, C.2.1, C.2.2.1, C.2.2.2.1, C.2.2.2.2.1⟩ (xMet hy harg hV l G cA sa al H.size hs.2.2.2.2) ⟨va_cnB n C.2.2.2.2.1 (xGood (l := []) hy (fun w h => absurd h List.not_mem_nil)) rfl rfl rfl (C.2.2.2.2.2.2.2.2.2.1.1 _ hlk) (C.2.2.2.2.1 _ hy.2.2.1) hy.2.2.2.1 ⟨hc7, by show 8 + (y3 + 11) + 64 * d ≤ R.locals; have : y3 ≤ 45 := hy45; omega⟩, hyn1, C.2.2.2.2.1 _ hin⟩ ⟨xPc_blind, fun U hU hW => xPcOf C hs _ U hU hW⟩ rfl (by rw [List.length_map]; exact hn) hl.1 (by show List.map _ _ = _; rw [List.map_append, List.map_reverse]; rfl) (lv_room (by rw [xcats]; exact hw)) dg ⟨by omega, by omega⟩) hs C.2.2.2.2.2.2.2.2.1 (xBackA C g1 g2 g3 g4 gz hs.2.2.2.2.1 hl hlo hso kk)
theorem V_callI {o mc1 ms1 : Nat} {S2 : xS} (dg : decode Y.2.1 pc = .ok (.invokespecial idx, 3)) (hy : xYok Y' n) (hyn : Y'.1.name = "<init>" ∧ Y'.2.2.2.1 = none) (hlk : Cond.methodLink Y.1.cls idx Y'.1 ∈ xT) (hin : Cond.instanceMethod Y'.1 ∈ xT) (hV : V Y' d mc1 ms1 0 (xarg 0 (vR (some o) :: as)) [] S M (xqR S2 M2 none)) (hn : as.length = n) (harg : ((vR (some o) :: as).map xcat).sum ≤ Y'.2.2.1) (he : as.reverse ++ vR (some o) :: st = st0) (hw : (st.map xcat).sum ≤ 8) (hlo : ls.all (fun x => xokv S.length x.2) = true) (hso : st.all (xokv S.length) = true) (kk : V Y (d + 1) ca sl (pc + 3) ls st S2 M2 Q) : V Y (d + 1) (ca + mc1) (sl + ms1) pc ls st0 S M Q := by
  subst he
  intro p l e R s m args below meth c H locs cells slots G cA sa A al lc mc ms Z C g1 g2 g3 g4 gz hs hl
  have hc7 := C.2.2.2.2.2.2.1
  have hc8 := C.2.2.2.2.2.2.2.1
  have hy45 := hy.2.2.2.2.1
  obtain ⟨y1, y2, y3, y4, y5⟩ := Y'
  obtain ⟨hyn1, hyn2⟩ := hyn
  cases hyn2
  refine xGo (va_runI (As := as.map (em al sa)) (b := al.getD o 0) (rest := st.map (em al sa)) (n := n) ⟨C.1, C.2.1, C.2.2.1, C.2.2.2.1, C.2.2.2.2.1⟩ (xMet hy harg hV l G cA sa al H.size hs.2.2.2.2) ⟨callB_of n C.2.2.2.2.1 (xGood (l := []) hy (fun w h => absurd h List.not_mem_nil)) rfl rfl rfl (C.2.2.2.2.1 _ hy.2.2.1) (C.2.2.2.2.1 _ hlk) hy.2.2.2.1 ⟨hc7, by show 8 + (y3 + 11) + 64 * d ≤ R.locals; have : y3 ≤ 45 := hy45; omega⟩, hyn1, C.2.2.2.2.1 _ hin⟩ ⟨xPc_blind, fun U hU hW => xPcOf C hs _ U hU hW⟩ rfl (by rw [List.length_map]; exact hn) hl.1 (by show List.map _ _ = _; rw [List.map_append, List.map_reverse]; rfl) (lv_room (by rw [xcats]; exact hw)) dg ⟨by omega, by omega⟩) hs C.2.2.2.2.2.2.2.2.1 (xBackA C g1 g2 g3 g4 gz hs.2.2.2.2.1 hl hlo hso kk)
end VA
