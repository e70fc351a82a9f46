/-! more rules: switches, answers, skeletons -/
theorem xif {α : Type} {c : Prop} [Decidable c] {X1 X2 E : α} {G : Prop} (h : (if c then X1 else X2) = E) (k1 : c → X1 = E → G) (k2 : ¬ c → X2 = E → G) : G := by
  by_cases hc : c
  · rw [if_pos hc] at h; exact k1 hc h
  · rw [if_neg hc] at h; exact k2 hc h
theorem xchr_chr (a : Int) : xchr (xchr a) = xchr a := by unfold xchr; omega
section VM
variable {Y : xY} {d ca sl pc : Nat} {ls : List (Nat × xV)} {st : List xV} {S : xS} {M : xM} {Q : Option xV → xS → xM → Prop}
theorem V_tabIn {x v off dflt lo hi : Int} {tgt len : Nat} {offs : Array Int} (dg : decode Y.2.1 pc = .ok (.tableswitch dflt lo hi offs, len)) (hx : wr x = v) (h1 : ¬ v < lo) (h2 : ¬ hi < v) (ho : offs[(v - lo).toNat]? = some off) (ht : (pc : Int) + off = (tgt : Int)) (k : V Y d ca sl tgt ls st S M Q) : V Y d ca sl pc ls (vI x :: st) S M Q := by
  intro p l e R s m args below meth c H locs cells slots G cA sa A al lc mc ms Z C g1 g2 g3 g4 gz hs hl
  exact lv_tableIn C.1 C.2.1 dg (by rw [wr_toInt, hx]; exact h1) (by rw [wr_toInt, hx]; exact h2) (by rw [wr_toInt, hx]; exact ho) ht (k p l e R s m args below meth c H locs cells slots G cA sa A al lc mc ms Z C g1 g2 g3 g4 gz hs hl)
theorem V_tabOut {x dflt lo hi : Int} {tgt len : Nat} {offs : Array Int} (dg : decode Y.2.1 pc = .ok (.tableswitch dflt lo hi offs, len)) (hx : wr x < lo ∨ hi < wr x) (ht : (pc : Int) + dflt = (tgt : Int)) (k : V Y d ca sl tgt ls st S M Q) : V Y d ca sl pc ls (vI x :: st) S M Q := by
  intro p l e R s m args below meth c H locs cells slots G cA sa A al lc mc ms Z C g1 g2 g3 g4 gz hs hl
  exact lv_tableOut C.1 C.2.1 dg (by rw [wr_toInt]; exact hx) ht (k p l e R s m args below meth c H locs cells slots G cA sa A al lc mc ms Z C g1 g2 g3 g4 gz hs hl)
end VM
section VQ
variable {S : xS} {M M1 M2 : xM} {x : Int} {b : Bool}
theorem q_tI {E : Int} (h : x = E) : xqR S M (some (vI E)) (some (vI x)) S M := ⟨by rw [h], rfl, rfl⟩
theorem q_pI {E : Int} (h : some x = some E) : xqR S M (some (vI E)) (some (vI x)) S M := ⟨by rw [Option.some.inj h], rfl, rfl⟩
theorem q_wI {E : Int × xM} (h : some (x, M1) = some E) : xqR S E.2 (some (vI E.1)) (some (vI x)) S M1 := by cases h; exact ⟨rfl, rfl, rfl⟩
theorem q_tL {E : Int} (h : x = E) : xqR S M (some (vL E)) (some (vL x)) S M := ⟨by rw [h], rfl, rfl⟩
theorem q_pL {E : Int} (h : some x = some E) : xqR S M (some (vL E)) (some (vL x)) S M := ⟨by rw [Option.some.inj h], rfl, rfl⟩
theorem q_wL {E : Int × xM} (h : some (x, M1) = some E) : xqR S E.2 (some (vL E.1)) (some (vL x)) S M1 := by cases h; exact ⟨rfl, rfl, rfl⟩
theorem q_tB {E : Bool} (h : b = E) : xqR S M (some (vI (b2i E))) (some (vI (b2i b))) S M := ⟨by rw [h], rfl, rfl⟩
theorem q_pB {E : Bool} (h : some b = some E) : xqR S M (some (vI (b2i E))) (some (vI (b2i b))) S M := ⟨by rw [Option.some.inj h], rfl, rfl⟩
theorem q_wB {E : Bool × xM} (h : some (b, M1) = some E) : xqR S E.2 (some (vI (b2i E.1))) (some (vI (b2i b))) S M1 := by cases h; exact ⟨rfl, rfl, rfl⟩
theorem q_v {E : xM} (h : some M1 = some E) : xqR S E none none S M1 := by cases h; exact ⟨rfl, rfl, rfl⟩
end VQ
def xfuel : Nat := 1000000
def xsub : List Cond → List Cond → Bool
  | [], _ => true
  | _ :: _, [] => false
  | a :: l, b :: m => if a = b then xsub l m else xsub (a :: l) m
theorem xsub_mem : ∀ (m l : List Cond), xsub l m = true → ∀ w ∈ l, w ∈ m
  | _, [], _, w, hw => absurd hw List.not_mem_nil
  | [], _ :: _, h, w, hw => by cases h
  | b :: m, a :: l, h, w, hw => by
    unfold xsub at h
    by_cases hab : a = b
    · rw [if_pos hab] at h
      rcases List.mem_cons.mp hw with rfl | hw
      · rw [hab]; exact List.mem_cons_self
      · exact List.mem_cons_of_mem _ (xsub_mem m l h w hw)
    · rw [if_neg hab] at h
      exact List.mem_cons_of_mem _ (xsub_mem m (a :: l) h w hw)
theorem xin {w : Cond} (i : Nat) (h1 : lw_tbl[i]? = some w) (h2 : goodWord w = true) : w ∈ xT := List.mem_filter.mpr ⟨List.mem_of_getElem? h1, h2⟩
/-! texts that stand as constants -/
def xln (k : Nat) : Int := ((xlen.getD k 0 : Nat) : Int)
def xbv (k : Nat) (i : Int) : Int := ((xbyt.getD k []).getD (wr i).toNat 0).toInt
def xby {α : Type} (k : Nat) (i : Int) (F : Int → Option α) : Option α := if 0 ≤ wr i ∧ wr i < xln k then F (xbv k i) else none
theorem xbyE {α : Type} {k : Nat} {i : Int} {F : Int → Option α} {E : α} (h : xby k i F = some E) : (0 ≤ wr i ∧ wr i < xln k) ∧ F (xbv k i) = some E := by
  unfold xby at h
  split at h
  · exact ⟨by assumption, h⟩
  · cases h
def xi2b (a : Int) : Int := (a + 128) % 256 - 128
theorem xi2b_of (a : Int) : (Int32.ofInt a).toInt8.toInt32 = Int32.ofInt (xi2b a) := by
  rw [← Int32.toInt_inj, wr_toInt]
  rw [Int8.toInt_toInt32, Int32.toInt_toInt8, wr_toInt]
  show Int.bmod (wr a) 256 = wr (xi2b a)
  rw [Int.bmod_def]
  unfold wr xi2b
  split <;> omega
section VX
variable {Y Y' : xY} {d ca sl pc n idx : Nat} {ls : List (Nat × xV)} {st st0 as : List xV} {S : xS} {M M2 : xM} {Q Q' : Option xV → xS → xM → Prop}
theorem V_i2b {a : Int} (dg : decode Y.2.1 pc = .ok (.i2b, 1)) (kk : V Y d ca sl (pc + 1) ls (vI (xi2b a) :: st) S M Q) : V Y d ca sl pc ls (vI a :: st) S M Q := by
  intro p l e R s m args below meth c H locs cells slots G cA sa A al lc mc ms Z C g1 g2 g3 g4 gz hs hl
  exact lv_i2b C.1 C.2.1 dg (xi2b_of a) (kk p l e R s m args below meth c H locs cells slots G cA sa A al lc mc ms Z C g1 g2 g3 g4 gz hs hl)
theorem V_iretk {x : Int} {ty : FieldType} (dg : decode Y.2.1 pc = .ok (.ireturn, 1)) (hr : Y.2.2.2.1 = some ty) (hx : narrow ty (.int (Int32.ofInt x)) = .int (Int32.ofInt x)) (hq : Q (some (vI x)) S M) : V Y d ca sl pc ls [vI x] S M Q := by
  intro p l e R s m args below meth c H locs cells slots G cA sa A al lc mc ms Z C g1 g2 g3 g4 gz hs hl
  have z := gz H locs cells slots [] S M (some (vI x)) pc lc hq (by rw [List.append_nil]; exact hs) (by omega) (by omega) (Or.inr (Or.inl ⟨x, ty, rfl, hr, hx, dg⟩))
  exact z
theorem V_ldcS {tx : String} {k : Nat} (dg : decode Y.2.1 pc = .ok (.ldc idx, 2)) (hz : (Y.1.cls, idx, tx, k) ∈ xSR) (kk : V Y d ca sl (pc + 2) ls (vS (10 + k) :: st) S M Q) : V Y d ca sl pc ls st S M Q := by
  intro p l e R s m args below meth c H locs cells slots G cA sa A al lc mc ms Z C g1 g2 g3 g4 gz hs hl
  exact va_ldcS C.1 C.2.1 C.2.2.2.1 (C.2.2.2.2.2.2.2.2.2.1.2.2.2.2.2.2.1 _ hz) dg (kk p l e R s m args below meth c H locs cells slots G cA sa A al lc mc ms Z C g1 g2 g3 g4 gz hs hl)
theorem V_sgetV {k : Nat} (dg : decode Y.2.1 pc = .ok (.getfield idx, 3)) (hk : k < 14) (hf : Cond.fieldLink Y.1.cls idx "java/lang/String" "value" "[B" ∈ xT) (kk : V Y d ca sl (pc + 3) ls (vS (30 + k) :: st) S M Q) : V Y d ca sl pc ls (vS (10 + k) :: st) S M Q := by
  intro p l e R s m args below meth c H locs cells slots G cA sa A al lc mc ms Z C g1 g2 g3 g4 gz hs hl
  have h8 := C.2.2.2.2.2.2.2.2.2.1.2.2.2.2.2.2.2
  exact vk_getf C.1 C.2.1 (h8.1 k hk).2.2.1 hs.2.2.2.1 C.2.2.2.1 (C.2.2.2.2.1 _ hf) (fun _ h => h) dg (kk p l e R s m args below meth c H locs cells slots G cA sa A al lc mc ms Z C g1 g2 g3 g4 gz hs hl)
theorem V_sgetC {k : Nat} (dg : decode Y.2.1 pc = .ok (.getfield idx, 3)) (hk : k < 14) (hf : Cond.fieldLink Y.1.cls idx "java/lang/String" "coder" "B" ∈ xT) (kk : V Y d ca sl (pc + 3) ls (vI 0 :: st) S M Q) : V Y d ca sl pc ls (vS (10 + k) :: st) S M Q := by
  intro p l e R s m args below meth c H locs cells slots G cA sa A al lc mc ms Z C g1 g2 g3 g4 gz hs hl
  have h8 := C.2.2.2.2.2.2.2.2.2.1.2.2.2.2.2.2.2
  exact vk_getf C.1 C.2.1 (h8.1 k hk).2.1 hs.2.2.2.1 C.2.2.2.1 (C.2.2.2.2.1 _ hf) (fun _ h => h) dg (kk p l e R s m args below meth c H locs cells slots G cA sa A al lc mc ms Z C g1 g2 g3 g4 gz hs hl)
theorem T_bald {α : Type} {E : α} {k : Nat} {i : Int} {F : Int → Option α} (dg : decode Y.2.1 pc = .ok (.baload, 1)) (hk : k < 14) (h : xby k i F = some E) (kk : ∀ v, F v = some E → V Y d ca sl (pc + 1) ls (vI v :: st) S M Q) : V Y d ca sl pc ls (vI i :: vS (30 + k) :: st) S M Q := by
  obtain ⟨hc, h⟩ := xbyE h
  intro p l e R s m args below meth c H locs cells slots G cA sa A al lc mc ms Z C g1 g2 g3 g4 gz hs hl
  have h8 := C.2.2.2.2.2.2.2.2.2.1.2.2.2.2.2.2.2
  exact va_tb C.1 C.2.1 (h8.1 k hk).2.2.2 hs.2.2.2.1 (wr_in hc) (by rw [wr_clamp]; show Value.int _ = Value.int (Int32.ofInt (xbv k i)); unfold xbv; rw [Int32.ofInt_toInt]) dg (kk _ h p l e R s m args below meth c H locs cells slots G cA sa A al lc mc ms Z C g1 g2 g3 g4 gz hs hl)
theorem V_blen {k : Nat} (dg : decode Y.2.1 pc = .ok (.arraylength, 1)) (hk : k < 14) (kk : V Y d ca sl (pc + 1) ls (vI (xln k) :: st) S M Q) : V Y d ca sl pc ls (vS (30 + k) :: st) S M Q := by
  intro p l e R s m args below meth c H locs cells slots G cA sa A al lc mc ms Z C g1 g2 g3 g4 gz hs hl
  have h8 := C.2.2.2.2.2.2.2.2.2.1.2.2.2.2.2.2.2
  exact va_tlen C.1 C.2.1 (h8.1 k hk).2.2.2 hs.2.2.2.1 (by show Int32.ofNat _ = Int32.ofInt _; unfold xln; rw [Int32.ofInt_eq_ofNat]) dg (kk p l e R s m args below meth c H locs cells slots G cA sa A al lc mc ms Z C g1 g2 g3 g4 gz hs hl)
theorem V_getCS (dg : decode Y.2.1 pc = .ok (.getstatic idx, 3)) (hf : Cond.fieldLink Y.1.cls idx "java/lang/String" "COMPACT_STRINGS" "Z" ∈ xT) (kk : V Y d ca sl (pc + 3) ls (vI 1 :: st) S M Q) : V Y d ca sl pc ls st S M Q := by
  intro p l e R s m args below meth c H locs cells slots G cA sa A al lc mc ms Z C g1 g2 g3 g4 gz hs hl
  exact va_gets C.1 C.2.1 C.2.2.2.2.2.2.2.2.2.1.2.2.2.2.1.1 hs.2.2.2.1 C.2.2.2.1 (C.2.2.2.2.1 _ hf) (fun _ h => h) dg (kk p l e R s m args below meth c H locs cells slots G cA sa A al lc mc ms Z C g1 g2 g3 g4 gz hs hl)
theorem V_getSF (dg : decode Y.2.1 pc = .ok (.getstatic idx, 3)) (hf : Cond.fieldLink Y.1.cls idx "jdk/internal/util/Preconditions" "SIOOBE_FORMATTER" "Ljava/util/function/BiFunction;" ∈ xT) (kk : ∀ f : xV, xw2 f = false → V Y d ca sl (pc + 3) ls (f :: st) S M Q) : V Y d ca sl pc ls st S M Q := by
  intro p l e R s m args below meth c H locs cells slots G cA sa A al lc mc ms Z C g1 g2 g3 g4 gz hs hl
  rcases C.2.2.2.2.2.2.2.2.2.1.2.2.2.2.2.1 with hz | hz
  · exact va_gets C.1 C.2.1 hz hs.2.2.2.1 C.2.2.2.1 (C.2.2.2.2.1 _ hf) (fun _ h => h) dg (kk (vR none) rfl p l e R s m args below meth c H locs cells slots G cA sa A al lc mc ms Z C g1 g2 g3 g4 gz hs hl)
  · exact va_gets C.1 C.2.1 hz hs.2.2.2.1 C.2.2.2.1 (C.2.2.2.2.1 _ hf) (fun _ h => h) dg (kk (vS 4) rfl p l e R s m args below meth c H locs cells slots G cA sa A al lc mc ms Z C g1 g2 g3 g4 gz hs hl)
theorem V_callVS {k : Nat} (dg : decode Y.2.1 pc = .ok (.invokevirtual idx, 3)) (hy : xYok Y' n) (hn : as.length = n) (harg : ((vS (10 + k) :: as).map xcat).sum ≤ Y'.2.2.1) (hw : (st.map xcat).sum ≤ 8) (hk : k < 14) (hcl : Y'.1.cls = "java/lang/String") (hlk : Cond.methodLink Y.1.cls idx Y'.1 ∈ xT) (hin : Cond.instanceMethod Y'.1 ∈ xT) (hse : Cond.selects Y'.1.cls Y'.1 Y'.1 ∈ xT) (hV : V Y' d 0 0 0 (xarg 0 (vS (10 + k) :: as)) [] S M Q') (hS : ∀ rv S' M', Q' rv S' M' → S' = S) (kk : ∀ rv M', Q' rv S M' → V Y (d + 1) ca sl (pc + 3) ls (rv.toList ++ st) S M' Q) : V Y (d + 1) ca sl pc ls (as.reverse ++ vS (10 + k) :: st) S M Q := by
  intro p l e R s m args below meth c H locs cells slots G cA sa A al lc mc ms Z C g1 g2 g3 g4 gz hs hl
  have hc7 := C.2.2.2.2.2.2.1
  have hc8 := C.2.2.2.2.2.2.2.1
  have hy45 := hy.2.2.2.2.1
  have h8 := C.2.2.2.2.2.2.2.2.2.1.2.2.2.2.2.2.2
  have hG : GoodIn xT (wsV Y.1.cls idx Y'.1.cls Y'.1 (xwd Y')) := xGood hy (l := [.methodLink Y.1.cls idx Y'.1, .instanceMethod Y'.1, .selects Y'.1.cls Y'.1 Y'.1, .initialized Y'.1.cls]) (by
    intro w h
    simp only [List.mem_cons, List.not_mem_nil, or_false] at h
    rcases h with rfl | rfl | rfl | rfl
    · exact hlk
    · exact hin
    · exact hse
    · exact hy.2.2.1)
  refine xGo (va_runV (C := Y'.1.cls) (As := as.map (em al sa)) (b := sa (10 + k)) (rest := st.map (em al sa)) (n := n) ⟨C.1, C.2.1, C.2.2.1, C.2.2.2.1, C.2.2.2.2.1⟩ (xMet hy harg hV l G cA sa al H.size hs.2.2.2.2) (cwV n C.2.2.2.2.1 hG rfl rfl rfl ⟨rfl, hy.2.2.2.1⟩ ⟨hc7, by show 8 + (Y'.2.2.1 + 11) + 64 * d ≤ R.locals; omega⟩) ⟨xPc_blind, by rw [hcl]; exact vk_recv (adK := fun i => sa (10 + i)) (i := k) h8 hk hs.2.2.2.1, fun U hU hW => xPcOf C hs _ U hU hW⟩ rfl (by rw [List.length_map]; exact hn) hl.1 (by show List.map _ _ = _; rw [List.map_append, List.map_reverse]; rfl) (lv_room (by rw [xcats]; exact hw)) dg ⟨by omega, by omega⟩) hs C.2.2.2.2.2.2.2.2.1 (xBack C g1 g2 g3 g4 gz hs.2.2.2.2.1 hl hS kk)
theorem T_callVSI {k : Nat} {r : Int} (dg : decode Y.2.1 pc = .ok (.invokevirtual idx, 3)) (hy : xYok Y' n) (hlk : Cond.methodLink Y.1.cls idx Y'.1 ∈ xT) (hin : Cond.instanceMethod Y'.1 ∈ xT ∧ Cond.selects Y'.1.cls Y'.1 Y'.1 ∈ xT) (hk : k < 14) (hV : V Y' d 0 0 0 (xarg 0 (vS (10 + k) :: as)) [] S M (xqR S M2 (some (vI r)))) (hcl : Y'.1.cls = "java/lang/String") (hn : as.length = n) (harg : ((vS (10 + k) :: as).map xcat).sum ≤ Y'.2.2.1) (he : as.reverse ++ vS (10 + k) :: st = st0) (hw : (st.map xcat).sum ≤ 8) (kk : V Y (d + 1) ca sl (pc + 3) ls (vI r :: st) S M2 Q) : V Y (d + 1) ca sl pc ls st0 S M Q := by
  subst he
  exact V_callVS dg hy hn harg hw hk hcl hlk hin.1 hin.2 hV (fun rv S' M' h => h.2.1) (fun rv M' h => by obtain ⟨h1, -, h3⟩ := h; subst h1; subst h3; exact kk)
/-! arraycopy between two int arrays -/
theorem V_copy {o1 n1 o2 n2 : Nat} {r1 r2 : xF} {sp dp nn : Int} (dg : decode Y.2.1 pc = .ok (.invokestatic idx, 3)) (hlk : Cond.methodLink Y.1.cls idx arraycopyName ∈ xT ∧ Cond.native arraycopyName ∈ xT ∧ Cond.static arraycopyName ∈ xT ∧ Cond.initialized "java/lang/System" ∈ xT) (h1 : S[o1]? = some (100, n1, r1)) (h2 : S[o2]? = some (100, n2, r2)) (hd : 1 ≤ d) (hw : (st.map xcat).sum ≤ 8) (c1 : 0 ≤ wr sp) (c2 : 0 ≤ wr dp) (c3 : 0 ≤ wr nn) (c4 : wr sp + wr nn ≤ (n1 : Int)) (c5 : wr dp + wr nn ≤ (n2 : Int))
    (kk : V Y d ca sl (pc + 3) ls st S (fun a j => if a = o2 ∧ wr dp ≤ j ∧ j < wr dp + wr nn then M o1 (wr sp + (j - wr dp)) else M a j) Q) : V Y d ca sl pc ls (vI nn :: vI dp :: vR (some o2) :: vI sp :: vR (some o1) :: st) S M Q := by
  intro p l e R s m args below meth c H locs cells slots G cA sa A al lc mc ms Z C g1 g2 g3 g4 gz hs hl
  have ha1 : (xws cA al S M)[o1]? = some (al.getD o1 0, .inl (cA 100, n1, .inl (fun j => Int32.ofInt (M o1 (j : Int))))) := by rw [xws_get h1, xcell_i]
  have ha2 : (xws cA al S M)[o2]? = some (al.getD o2 0, .inl (cA 100, n2, .inl (fun j => Int32.ofInt (M o2 (j : Int))))) := by rw [xws_get h2, xcell_i]
  have neg : ∀ z : Int, 0 ≤ wr z → ¬ Int32.ofInt z < 0 := by
    intro z hz q
    have q2 := (wr_lt z 0).mp q
    rw [wr_0] at q2
    omega
  have hc7 := C.2.2.2.2.2.2.1
  have hc8 := C.2.2.2.2.2.2.2.1
  have hcat := xcats al sa st
  have e1 := wr_clamp sp
  have e2 := wr_clamp dp
  have e3 := wr_clamp nn
  have hnw : nativeFrameWords "java/lang/System" "arraycopy" 5 + 11 + 8 ≤ 64 := by decide +kernel
  refine va_copyi C.1 C.2.1 (C.2.2.1.trans hl.1.symm) C.2.2.2.1 (C.2.2.2.2.1 _ hlk.1) (C.2.2.2.2.1 _ hlk.2.1) (C.2.2.2.2.1 _ hlk.2.2.1) (C.2.2.2.2.1 _ hlk.2.2.2) hs.1 hs.2.1 hs.2.2.1 hs.2.2.2.1 o1 o2 0 0 ha1 ha2 rfl rfl (ty := .int) rfl (neg sp c1) (neg dp c2) (neg nn c3) (by rw [e1, e3]; omega) (by rw [e2, e3]; omega) (fun _ _ => rfl) (by omega) (by rw [hcat]; omega) dg (fun H1 locs1 hP hD hS => ?_)
  have hx : (xws cA al S M).set o2 (al.getD o2 0, .inl (cA 100, n2, .inl (va_cpy (fun j : Nat => Int32.ofInt (M o1 (j : Int))) (fun j : Nat => Int32.ofInt (M o2 (j : Int))) (Int32.ofInt sp).toNatClampNeg (Int32.ofInt dp).toNatClampNeg (Int32.ofInt nn).toNatClampNeg))) = xws cA al S (fun a j => if a = o2 ∧ wr dp ≤ j ∧ j < wr dp + wr nn then M o1 (wr sp + (j - wr dp)) else M a j) := by
    apply List.ext_getElem?
    intro k
    by_cases hk : o2 = k
    · subst hk
      rw [List.getElem?_set_self (by rw [xws_len]; exact (List.getElem?_eq_some_iff.mp h2).1), xws_get h2, xcell_i]
      congr 5
      refine congrArg Sum.inl ?_
      funext j
      unfold va_cpy
      rw [e1, e2, e3]
      by_cases hj : (wr dp).toNat ≤ j ∧ j < (wr dp).toNat + (wr nn).toNat
      · rw [if_pos hj, if_pos ⟨rfl, by omega, by omega⟩]
        have e7 : (((wr sp).toNat + (j - (wr dp).toNat) : Nat) : Int) = wr sp + ((j : Int) - wr dp) := by omega
        show Int32.ofInt (M o1 (((wr sp).toNat + (j - (wr dp).toNat) : Nat) : Int)) = _
        rw [e7]
      · rw [if_neg hj, if_neg (fun q => hj ⟨by omega, by omega⟩)]
    · rw [List.getElem?_set_ne hk]
      unfold xws
      rw [List.getElem?_mapIdx, List.getElem?_mapIdx]
      cases S[k]? with
      | none => rfl
      | some sh2 =>
        show some _ = some _
        congr 2
        have e : ∀ j : Int, (if k = o2 ∧ wr dp ≤ j ∧ j < wr dp + wr nn then M o1 (wr sp + (j - wr dp)) else M k j) = M k j := fun j => if_neg (fun q => hk q.1.symm)
        unfold xcell xfl xfv
        simp only [e]
  rw [hx] at hP hD
  exact kk p l e R s m args below meth c H1 locs1 cells slots G cA sa A al lc mc ms Z C g1 g2 g3 g4 gz ⟨hs.1, hP, hD, hS, hs.2.2.2.2⟩ hl
def xcpM (M : xM) (o1 : Nat) (sp : Int) (o2 : Nat) (dp nn : Int) : xM := fun a j => if a = o2 ∧ wr dp ≤ j ∧ j < wr dp + wr nn then M o1 (wr sp + (j - wr dp)) else M a j
def xcp {α : Type} (M : xM) (o1 : Nat) (l1 sp : Int) (o2 : Nat) (l2 dp nn : Int) (F : xM → Option α) : Option α := if (0 ≤ wr sp ∧ 0 ≤ wr dp ∧ 0 ≤ wr nn) ∧ wr sp + wr nn ≤ l1 ∧ wr dp + wr nn ≤ l2 then F (xcpM M o1 sp o2 dp nn) else none
theorem T_copy {α : Type} {E : α} {o1 n1 o2 n2 : Nat} {l1 l2 : Int} {r1 r2 : xF} {sp dp nn : Int} {F : xM → Option α} (dg : decode Y.2.1 pc = .ok (.invokestatic idx, 3)) (hlk : Cond.methodLink Y.1.cls idx arraycopyName ∈ xT ∧ Cond.native arraycopyName ∈ xT ∧ Cond.static arraycopyName ∈ xT ∧ Cond.initialized "java/lang/System" ∈ xT) (h1 : S[o1]? = some (100, n1, r1)) (h2 : S[o2]? = some (100, n2, r2)) (hl1 : (n1 : Int) = l1) (hl2 : (n2 : Int) = l2) (hd : 1 ≤ d) (hw : (st.map xcat).sum ≤ 8) (h : xcp M o1 l1 sp o2 l2 dp nn F = some E) (kk : ∀ M2, F M2 = some E → V Y d ca sl (pc + 3) ls st S M2 Q) : V Y d ca sl pc ls (vI nn :: vI dp :: vR (some o2) :: vI sp :: vR (some o1) :: st) S M Q := by
  unfold xcp at h
  split at h
  case isFalse => cases h
  case isTrue hc =>
    subst hl1; subst hl2
    exact V_copy dg hlk h1 h2 hd hw hc.1.1 hc.1.2.1 hc.1.2.2 hc.2.1 hc.2.2 (kk _ h)
end VX
def xmax (a b : Int) : Int := if wr a < wr b then b else a
def xmin (a b : Int) : Int := if wr b < wr a then b else a
def xmaxL (a b : Int) : Int := if wl b < wl a then a else b
def xminL (a b : Int) : Int := if wl b < wl a then b else a
section VMM
variable {Y : xY} {d ca sl pc idx : Nat} {ls : List (Nat × xV)} {st : List xV} {S : xS} {M : xM} {Q : Option xV → xS → xM → Prop}
theorem V_mmax {a b : Int} (dg : decode Y.2.1 pc = .ok (.invokestatic idx, 3)) (hlk : Cond.methodLink Y.1.cls idx Lib.Math.max.name ∈ xT ∧ Cond.static Lib.Math.max.name ∈ xT ∧ Cond.initialized "java/lang/Math" ∈ xT ∧ Cond.code Lib.Math.max.name Lib.Math.max.code 2 (some .int) ∈ xT) (hd : 1 ≤ d) (hw : (st.map xcat).sum ≤ 8) (kk : V Y d ca sl (pc + 3) ls (vI (xmax a b) :: st) S M Q) : V Y d ca sl pc ls (vI b :: vI a :: st) S M Q := by
  intro p l e R s m args below meth c H locs cells slots G cA sa A al lc mc ms Z C g1 g2 g3 g4 gz hs hl
  have hc7 := C.2.2.2.2.2.2.1
  have hc8 := C.2.2.2.2.2.2.2.1
  have hcat := xcats al sa st
  have kk := kk p l e R s m args below meth c H locs cells slots G cA sa A al lc mc ms Z C g1 g2 g3 g4 gz hs hl
  refine va_mmax C.1 C.2.1 (C.2.2.1.trans hl.1.symm) C.2.2.2.1 (C.2.2.2.2.1 _ hlk.1) (C.2.2.2.2.1 _ hlk.2.1) (C.2.2.2.2.1 _ hlk.2.2.1) (C.2.2.2.2.1 _ hlk.2.2.2) (by omega) (by rw [hcat]; omega) (by omega) (by omega) dg ?_
  simp only [wr_lt]
  have e9 : em al sa (vI (xmax a b)) :: st.map (em al sa) = _ := rfl
  unfold xmax at kk
  by_cases hc : wr a < wr b
  · rw [if_pos hc] at kk ⊢; exact kk
  · rw [if_neg hc] at kk ⊢; exact kk
theorem V_mmin {a b : Int} (dg : decode Y.2.1 pc = .ok (.invokestatic idx, 3)) (hlk : Cond.methodLink Y.1.cls idx Lib.Math.min.name ∈ xT ∧ Cond.static Lib.Math.min.name ∈ xT ∧ Cond.initialized "java/lang/Math" ∈ xT ∧ Cond.code Lib.Math.min.name Lib.Math.min.code 2 (some .int) ∈ xT) (hd : 1 ≤ d) (hw : (st.map xcat).sum ≤ 8) (kk : V Y d ca sl (pc + 3) ls (vI (xmin a b) :: st) S M Q) : V Y d ca sl pc ls (vI b :: vI a :: st) S M Q := by
  intro p l e R s m args below meth c H locs cells slots G cA sa A al lc mc ms Z C g1 g2 g3 g4 gz hs hl
  have hc7 := C.2.2.2.2.2.2.1
  have hc8 := C.2.2.2.2.2.2.2.1
  have hcat := xcats al sa st
  have kk := kk p l e R s m args below meth c H locs cells slots G cA sa A al lc mc ms Z C g1 g2 g3 g4 gz hs hl
  refine va_mmin C.1 C.2.1 (C.2.2.1.trans hl.1.symm) C.2.2.2.1 (C.2.2.2.2.1 _ hlk.1) (C.2.2.2.2.1 _ hlk.2.1) (C.2.2.2.2.1 _ hlk.2.2.1) (C.2.2.2.2.1 _ hlk.2.2.2) (by omega) (by rw [hcat]; omega) (by omega) (by omega) dg ?_
  simp only [wr_lt]
  have e9 : em al sa (vI (xmin a b)) :: st.map (em al sa) = _ := rfl
  unfold xmin at kk
  by_cases hc : wr b < wr a
  · rw [if_pos hc] at kk ⊢; exact kk
  · rw [if_neg hc] at kk ⊢; exact kk
theorem V_mmaxL {a b : Int} (dg : decode Y.2.1 pc = .ok (.invokestatic idx, 3)) (hlk : Cond.methodLink Y.1.cls idx Lib.MathLoose.max_long.x ∈ xT ∧ Cond.static Lib.MathLoose.max_long.x ∈ xT ∧ Cond.initialized "java/lang/Math" ∈ xT ∧ Cond.code Lib.MathLoose.max_long.x Lib.MathLoose.max_long.code 4 (some .long) ∈ xT) (hd : 1 ≤ d) (hw : (st.map xcat).sum ≤ 8) (kk : V Y d ca sl (pc + 3) ls (vL (xmaxL a b) :: st) S M Q) : V Y d ca sl pc ls (vL b :: vL a :: st) S M Q := by
  intro p l e R s m args below meth c H locs cells slots G cA sa A al lc mc ms Z C g1 g2 g3 g4 gz hs hl
  have hc7 := C.2.2.2.2.2.2.1
  have hc8 := C.2.2.2.2.2.2.2.1
  have hcat := xcats al sa st
  have kk := kk p l e R s m args below meth c H locs cells slots G cA sa A al lc mc ms Z C g1 g2 g3 g4 gz hs hl
  refine va_mmax_long C.1 C.2.1 (C.2.2.1.trans hl.1.symm) C.2.2.2.1 (C.2.2.2.2.1 _ hlk.1) (C.2.2.2.2.1 _ hlk.2.1) (C.2.2.2.2.1 _ hlk.2.2.1) (C.2.2.2.2.1 _ hlk.2.2.2) (by omega) (by rw [hcat]; omega) (by omega) (by omega) dg ?_
  simp only [wl_lt]
  have e9 : em al sa (vL (xmaxL a b)) :: st.map (em al sa) = _ := rfl
  unfold xmaxL at kk
  by_cases hc : wl b < wl a
  · rw [if_pos hc] at kk ⊢; exact kk
  · rw [if_neg hc] at kk ⊢; exact kk
theorem V_mminL {a b : Int} (dg : decode Y.2.1 pc = .ok (.invokestatic idx, 3)) (hlk : Cond.methodLink Y.1.cls idx Lib.MathLoose.min_long.x ∈ xT ∧ Cond.static Lib.MathLoose.min_long.x ∈ xT ∧ Cond.initialized "java/lang/Math" ∈ xT ∧ Cond.code Lib.MathLoose.min_long.x Lib.MathLoose.min_long.code 4 (some .long) ∈ xT) (hd : 1 ≤ d) (hw : (st.map xcat).sum ≤ 8) (kk : V Y d ca sl (pc + 3) ls (vL (xminL a b) :: st) S M Q) : V Y d ca sl pc ls (vL b :: vL a :: st) S M Q := by
  intro p l e R s m args below meth c H locs cells slots G cA sa A al lc mc ms Z C g1 g2 g3 g4 gz hs hl
  have hc7 := C.2.2.2.2.2.2.1
  have hc8 := C.2.2.2.2.2.2.2.1
  have hcat := xcats al sa st
  have kk := kk p l e R s m args below meth c H locs cells slots G cA sa A al lc mc ms Z C g1 g2 g3 g4 gz hs hl
  refine va_mmin_long C.1 C.2.1 (C.2.2.1.trans hl.1.symm) C.2.2.2.1 (C.2.2.2.2.1 _ hlk.1) (C.2.2.2.2.1 _ hlk.2.1) (C.2.2.2.2.1 _ hlk.2.2.1) (C.2.2.2.2.1 _ hlk.2.2.2) (by omega) (by rw [hcat]; omega) (by omega) (by omega) dg ?_
  simp only [wl_lt]
  have e9 : em al sa (vL (xminL a b)) :: st.map (em al sa) = _ := rfl
  unfold xminL at kk
  by_cases hc : wl b < wl a
  · rw [if_pos hc] at kk ⊢; exact kk
  · rw [if_neg hc] at kk ⊢; exact kk
end VMM
