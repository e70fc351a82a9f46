set_option maxRecDepth 20000 in
theorem xUw0 : ∀ w ∈ u_ws RX0 TX0 6, w ∈ xT := by decide +kernel
set_option maxRecDepth 20000 in
theorem xUw1 : ∀ w ∈ u_ws RX1 TX1 14, w ∈ xT := by decide +kernel
set_option maxRecDepth 20000 in
theorem xUw2 : ∀ w ∈ u_ws RX2 TX2 4, w ∈ xT := by decide +kernel
set_option maxRecDepth 20000 in
theorem xUw3 : ∀ w ∈ u_ws RX3 TX3 12, w ∈ xT := by decide +kernel
set_option maxRecDepth 20000 in
theorem xUw4 : ∀ w ∈ u_ws RX4 TX4 7, w ∈ xT := by decide +kernel
set_option maxRecDepth 20000 in
theorem xUw5 : ∀ w ∈ u_ws RX5 TX5 7, w ∈ xT := by decide +kernel
set_option maxRecDepth 20000 in
theorem xUw6 : ∀ w ∈ u_ws RX6 TX6 5, w ∈ xT := by decide +kernel
set_option maxRecDepth 20000 in
theorem xUw7 : ∀ w ∈ u_ws RX7 TX7 10, w ∈ xT := by decide +kernel
set_option maxRecDepth 20000 in
theorem xUw8 : ∀ w ∈ u_ws RX8 TX8 5, w ∈ xT := by decide +kernel
set_option maxRecDepth 20000 in
theorem xUw9 : ∀ w ∈ u_ws RX9 TX9 4, w ∈ xT := by decide +kernel
set_option maxRecDepth 20000 in
theorem xUw10 : ∀ w ∈ u_ws RX10 TX10 7, w ∈ xT := by decide +kernel
set_option maxRecDepth 20000 in
theorem xUw11 : ∀ w ∈ u_ws RX11 TX11 7, w ∈ xT := by decide +kernel
set_option maxRecDepth 20000 in
theorem xUw12 : ∀ w ∈ u_ws RX12 TX12 33, w ∈ xT := by decide +kernel
theorem xUw {ci : Nat} {C : String} {T : u_T} {N : Nat} (h : vwCl[ci]? = some (C, T, N)) : ∀ w ∈ u_ws C T N, w ∈ xT := by
  match ci, h with
  | 0, h => cases h; exact xUw0
  | 1, h => cases h; exact xUw1
  | 2, h => cases h; exact xUw2
  | 3, h => cases h; exact xUw3
  | 4, h => cases h; exact xUw4
  | 5, h => cases h; exact xUw5
  | 6, h => cases h; exact xUw6
  | 7, h => cases h; exact xUw7
  | 8, h => cases h; exact xUw8
  | 9, h => cases h; exact xUw9
  | 10, h => cases h; exact xUw10
  | 11, h => cases h; exact xUw11
  | 12, h => cases h; exact xUw12
  | k + 13, h => simp [vwCl] at h
theorem xUt {ci : Nat} {C : String} {T : u_T} {N : Nat} (h : vwCl[ci]? = some (C, T, N)) : (∃ ty0 : Nat → FieldType, ∀ k, k < N → parseFieldDescriptor (T k).2.2.1 = some (ty0 k)) ∧ ∀ a, a < N → ∀ b, b < N → a ≠ b → (T a).2.1 ≠ (T b).2.1 := by
  match ci, h with
  | 0, h => cases h; exact ⟨⟨tyX0, tyX0_ok⟩, nmX0⟩
  | 1, h => cases h; exact ⟨⟨tyX1, tyX1_ok⟩, nmX1⟩
  | 2, h => cases h; exact ⟨⟨tyX2, tyX2_ok⟩, nmX2⟩
  | 3, h => cases h; exact ⟨⟨tyX3, tyX3_ok⟩, nmX3⟩
  | 4, h => cases h; exact ⟨⟨tyX4, tyX4_ok⟩, nmX4⟩
  | 5, h => cases h; exact ⟨⟨tyX5, tyX5_ok⟩, nmX5⟩
  | 6, h => cases h; exact ⟨⟨tyX6, tyX6_ok⟩, nmX6⟩
  | 7, h => cases h; exact ⟨⟨tyX7, tyX7_ok⟩, nmX7⟩
  | 8, h => cases h; exact ⟨⟨tyX8, tyX8_ok⟩, nmX8⟩
  | 9, h => cases h; exact ⟨⟨tyX9, tyX9_ok⟩, nmX9⟩
  | 10, h => cases h; exact ⟨⟨tyX10, tyX10_ok⟩, nmX10⟩
  | 11, h => cases h; exact ⟨⟨tyX11, tyX11_ok⟩, nmX11⟩
  | 12, h => cases h; exact ⟨⟨tyX12, tyX12_ok⟩, nmX12⟩
  | k + 13, h => simp [vwCl] at h
/-- the entry idx of class own's pool is field k of class ci -/
def xFl (own : String) (idx ci k : Nat) : Prop := ∃ (C : String) (T : u_T) (N : Nat), vwCl[ci]? = some (C, T, N) ∧ ci < 100 ∧ k < N ∧ Cond.fieldLink own idx (T k).1 (T k).2.1 (T k).2.2.1 ∈ xT
def xFp (own : String) (idx ci k : Nat) (ty : FieldType) (fin : Bool) : Prop := ∃ (C : String) (T : u_T) (N : Nat), vwCl[ci]? = some (C, T, N) ∧ ci < 100 ∧ k < N ∧ Cond.fieldLink own idx (T k).1 (T k).2.1 (T k).2.2.1 ∈ xT ∧ (T k).2.2.2 = fin ∧ parseFieldDescriptor (T k).2.2.1 = some ty
section VF
variable {Y : xY} {d ca sl pc : Nat} {ls ls' : List (Nat × xV)} {st : List xV} {S : xS} {M : xM} {Q : Option xV → xS → xM → Prop}
theorem xOb {G : va_G} {cA : Nat → ClassId} {A : Nat → Prop} {s : State} {al : List Nat} {S : xS} {M : xM} {H : Heap} {locs : List Loc} {o ci n : Nat} {rs : xF} (hi : ci < 100) (h : S[o]? = some (ci, n, rs)) : (xws cA al S M)[o]? = some (al.getD o 0, .inr (ci, xfl al M o rs)) := by
  rw [xws_get h, xcell_O hi]
theorem V_getI {ci k n o idx : Nat} {kI : Int} {rs : xF} (dg : decode Y.2.1 pc = .ok (.getfield idx, 3)) (hf : xFl Y.1.cls idx ci k) (ho : S[o]? = some (ci, n, rs)) (hr : rs[k]? = some none) (hk : (k : Int) = kI) (kk : V Y d ca sl (pc + 3) ls (vI (M o kI) :: st) S M Q) : V Y d ca sl pc ls (vR (some o) :: st) S M Q := by
  subst hk
  intro p l e R s m args below meth c H locs cells slots G cA sa A al lc mc ms Z C g1 g2 g3 g4 gz hs hl
  obtain ⟨C1, T, N, h1, h2, h3, h4⟩ := hf
  exact va_get C.1 C.2.1 C.2.2.2.2.1 (xUw h1) C.2.2.2.1 hs.1 hs.2.1 o (xOb (G := G) (A := A) (s := s) (H := H) (locs := locs) h2 ho) h1 k h3 (C.2.2.2.2.1 _ h4) (fun _ h => h) (xfl_get hr) dg (kk p l e R s m args below meth c H locs cells slots G cA sa A al lc mc ms Z C g1 g2 g3 g4 gz hs hl)
theorem V_getR {ci k n o idx : Nat} {rs : xF} {r : Option Nat} (dg : decode Y.2.1 pc = .ok (.getfield idx, 3)) (hf : xFl Y.1.cls idx ci k) (ho : S[o]? = some (ci, n, rs)) (hr : rs[k]? = some (some r)) (kk : V Y d ca sl (pc + 3) ls (vR r :: st) S M Q) : V Y d ca sl pc ls (vR (some o) :: st) S M Q := by
  intro p l e R s m args below meth c H locs cells slots G cA sa A al lc mc ms Z C g1 g2 g3 g4 gz hs hl
  obtain ⟨C1, T, N, h1, h2, h3, h4⟩ := hf
  have kk := kk p l e R s m args below meth c H locs cells slots G cA sa A al lc mc ms Z C g1 g2 g3 g4 gz hs hl
  refine va_get (v := em al sa (vR r)) C.1 C.2.1 C.2.2.2.2.1 (xUw h1) C.2.2.2.1 hs.1 hs.2.1 o (xOb (G := G) (A := A) (s := s) (H := H) (locs := locs) h2 ho) h1 k h3 (C.2.2.2.2.1 _ h4) (fun _ h => h) ?_ dg kk
  rw [xfl_get hr]
  cases r <;> rfl
theorem V_putI {ci k n o idx : Nat} {kI x : Int} {rs : xF} (dg : decode Y.2.1 pc = .ok (.putfield idx, 3)) (hf : xFp Y.1.cls idx ci k .int false) (ho : S[o]? = some (ci, n, rs)) (hr : rs[k]? = some none) (hk : (k : Int) = kI) (kk : V Y d ca sl (pc + 3) ls st S (xup M o kI x) Q) : V Y d ca sl pc ls (vI x :: vR (some o) :: st) S M Q := by
  subst hk
  intro p l e R s m args below meth c H locs cells slots G cA sa A al lc mc ms Z C g1 g2 g3 g4 gz hs hl
  obtain ⟨C1, T, N, h1, h2, h3, h4, h5, h6⟩ := hf
  obtain ⟨⟨ty0, hty⟩, hnm⟩ := xUt h1
  have hob := xOb (G := G) (cA := cA) (A := A) (s := s) (al := al) (M := M) (H := H) (locs := locs) h2 ho
  have hkl : k < (xfl al M o rs).length := by rw [xfl_len]; exact (List.getElem?_eq_some_iff.mp hr).1
  refine va_put C.1 C.2.1 C.2.2.2.2.1 (xUw h1) ty0 hty hnm C.2.2.2.1 hs.1 hs.2.1 hs.2.2.1 hs.2.2.2.1 o hob h1 k h3 (C.2.2.2.2.1 _ h4) (fun _ h => h) h5 h6 rfl rfl hkl dg (fun H1 locs1 hP hD hS => ?_)
  have e9 : (al.getD o 0, (Sum.inr (ci, (xfl al M o rs).set k (em al sa (vI x))) : va_E)) = (al.getD o 0, xcell cA al (xup M o (k : Int) x) o (ci, n, rs)) := by rw [xcell_O h2, ← xfl_up hr]; rfl
  rw [e9, xws_up ho] at hP hD
  exact kk p l e R s m args below meth c H1 locs1 cells slots G cA sa A al lc mc ms Z C g1 g2 g3 g4 gz ⟨hs.1, hP, hD, hS, hs.2.2.2.2⟩ hl
theorem V_putZ {ci k n o idx : Nat} {kI x : Int} {b : Bool} {rs : xF} (dg : decode Y.2.1 pc = .ok (.putfield idx, 3)) (hf : xFp Y.1.cls idx ci k .boolean false) (ho : S[o]? = some (ci, n, rs)) (hr : rs[k]? = some none) (hk : (k : Int) = kI) (hx : x = b2i b) (kk : V Y d ca sl (pc + 3) ls st S (xup M o kI x) Q) : V Y d ca sl pc ls (vI x :: vR (some o) :: st) S M Q := by
  subst hk; subst hx
  intro p l e R s m args below meth c H locs cells slots G cA sa A al lc mc ms Z C g1 g2 g3 g4 gz hs hl
  obtain ⟨C1, T, N, h1, h2, h3, h4, h5, h6⟩ := hf
  obtain ⟨⟨ty0, hty⟩, hnm⟩ := xUt h1
  have hob := xOb (G := G) (cA := cA) (A := A) (s := s) (al := al) (M := M) (H := H) (locs := locs) h2 ho
  have hkl : k < (xfl al M o rs).length := by rw [xfl_len]; exact (List.getElem?_eq_some_iff.mp hr).1
  refine va_put C.1 C.2.1 C.2.2.2.2.1 (xUw h1) ty0 hty hnm C.2.2.2.1 hs.1 hs.2.1 hs.2.2.1 hs.2.2.2.1 o hob h1 k h3 (C.2.2.2.2.1 _ h4) (fun _ h => h) h5 h6 (b2i_narrow b) (by show fits .boolean (.int (Int32.ofInt (b2i b))) = true; cases b <;> decide) hkl dg (fun H1 locs1 hP hD hS => ?_)
  have e9 : (al.getD o 0, (Sum.inr (ci, (xfl al M o rs).set k (em al sa (vI (b2i b)))) : va_E)) = (al.getD o 0, xcell cA al (xup M o (k : Int) (b2i b)) o (ci, n, rs)) := by rw [xcell_O h2, ← xfl_up hr]; rfl
  rw [e9, xws_up ho] at hP hD
  exact kk p l e R s m args below meth c H1 locs1 cells slots G cA sa A al lc mc ms Z C g1 g2 g3 g4 gz ⟨hs.1, hP, hD, hS, hs.2.2.2.2⟩ hl
theorem xcell_i {cA : Nat → ClassId} {al : List Nat} {M : xM} {i n : Nat} {rs : xF} : xcell cA al M i (100, n, rs) = .inl (cA 100, n, .inl (fun j => Int32.ofInt (M i (j : Int)))) := rfl
theorem V_iald0 {o n : Nat} {i : Int} {rs : xF} (dg : decode Y.2.1 pc = .ok (.iaload, 1)) (ho : S[o]? = some (100, n, rs)) (hc : 0 ≤ wr i ∧ wr i < (n : Int)) (k : V Y d ca sl (pc + 1) ls (vI (M o (wr i)) :: st) S M Q) : V Y d ca sl pc ls (vI i :: vR (some o) :: st) S M Q := by
  intro p l e R s m args below meth c H locs cells slots G cA sa A al lc mc ms Z C g1 g2 g3 g4 gz hs hl
  have hin := wr_in hc
  have ha : (xws cA al S M)[o]? = some (al.getD o 0, .inl (cA 100, n, .inl (fun j => Int32.ofInt (M o (j : Int))))) := by rw [xws_get ho, xcell_i]
  have k := k p l e R s m args below meth c H locs cells slots G cA sa A al lc mc ms Z C g1 g2 g3 g4 gz hs hl
  refine va_iald C.1 C.2.1 hs.1 hs.2.1 o 0 ha rfl hin dg ?_
  rw [wr_clI hc]
  exact k
theorem V_iald {α : Type} {X E N0 : α} {o n : Nat} {nI i : Int} {rs : xF} (dg : decode Y.2.1 pc = .ok (.iaload, 1)) (ho : S[o]? = some (100, n, rs)) (hn : (n : Int) = nI) (h : (if 0 ≤ wr i ∧ wr i < nI then X else N0) = E) (h0 : N0 ≠ E) (k : 0 ≤ wr i ∧ wr i < nI → X = E → V Y d ca sl (pc + 1) ls (vI (M o (wr i)) :: st) S M Q) : V Y d ca sl pc ls (vI i :: vR (some o) :: st) S M Q := by
  subst hn
  by_cases hc : 0 ≤ wr i ∧ wr i < (n : Int)
  · rw [if_pos hc] at h; exact V_iald0 dg ho hc (k hc h)
  · rw [if_neg hc] at h; exact absurd h h0
theorem V_ialdK {o n : Nat} {i j : Int} {rs : xF} (dg : decode Y.2.1 pc = .ok (.iaload, 1)) (ho : S[o]? = some (100, n, rs)) (hj : wr i = j) (hc : 0 ≤ j ∧ j < (n : Int)) (k : V Y d ca sl (pc + 1) ls (vI (M o j) :: st) S M Q) : V Y d ca sl pc ls (vI i :: vR (some o) :: st) S M Q := by
  subst hj; exact V_iald0 dg ho hc k
theorem V_iast0 {o n : Nat} {i x : Int} {rs : xF} (dg : decode Y.2.1 pc = .ok (.iastore, 1)) (ho : S[o]? = some (100, n, rs)) (hc : 0 ≤ wr i ∧ wr i < (n : Int)) (k : V Y d ca sl (pc + 1) ls st S (xup M o (wr i) x) Q) : V Y d ca sl pc ls (vI x :: vI i :: vR (some o) :: st) S M Q := by
  intro p l e R s m args below meth c H locs cells slots G cA sa A al lc mc ms Z C g1 g2 g3 g4 gz hs hl
  have hin := wr_in hc
  have ha : (xws cA al S M)[o]? = some (al.getD o 0, .inl (cA 100, n, .inl (fun j => Int32.ofInt (M o (j : Int))))) := by rw [xws_get ho, xcell_i]
  refine va_iast C.1 C.2.1 hs.1 hs.2.1 hs.2.2.1 hs.2.2.2.1 o 0 ha rfl hin dg (fun H1 locs1 hP hD hS => ?_)
  have nar : (Int32.ofInt x) = Int32.ofInt x := rfl
  have e9 : (al.getD o 0, (Sum.inl (cA 100, n, .inl (upd (fun j : Nat => Int32.ofInt (M o (j : Int))) (Int32.ofInt i).toNatClampNeg (Int32.ofInt x))) : va_E)) = (al.getD o 0, xcell cA al (xup M o (wr i) x) o (100, n, rs)) := by
    rw [xcell_i]
    refine congrArg (fun f : Nat → Int32 => (al.getD o 0, (Sum.inl (cA 100, n, .inl f) : va_E))) ?_
    funext j
    unfold upd xup
    rw [nar]
    by_cases hj : j = (Int32.ofInt i).toNatClampNeg
    · rw [if_pos hj, if_pos ⟨rfl, by rw [hj]; exact wr_clI hc⟩]
    · rw [if_neg hj, if_neg (fun q => hj (by have := wr_clI hc; omega))]
  rw [e9, xws_up ho] at hP hD
  exact k p l e R s m args below meth c H1 locs1 cells slots G cA sa A al lc mc ms Z C g1 g2 g3 g4 gz ⟨hs.1, hP, hD, hS, hs.2.2.2.2⟩ hl
theorem V_iast {α : Type} {X E N0 : α} {o n : Nat} {nI i x : Int} {rs : xF} (dg : decode Y.2.1 pc = .ok (.iastore, 1)) (ho : S[o]? = some (100, n, rs)) (hn : (n : Int) = nI) (h : (if 0 ≤ wr i ∧ wr i < nI then X else N0) = E) (h0 : N0 ≠ E) (k : 0 ≤ wr i ∧ wr i < nI → X = E → V Y d ca sl (pc + 1) ls st S (xup M o (wr i) x) Q) : V Y d ca sl pc ls (vI x :: vI i :: vR (some o) :: st) S M Q := by
  subst hn
  by_cases hc : 0 ≤ wr i ∧ wr i < (n : Int)
  · rw [if_pos hc] at h; exact V_iast0 dg ho hc (k hc h)
  · rw [if_neg hc] at h; exact absurd h h0
theorem V_iastK {o n : Nat} {i j x : Int} {rs : xF} (dg : decode Y.2.1 pc = .ok (.iastore, 1)) (ho : S[o]? = some (100, n, rs)) (hj : wr i = j) (hc : 0 ≤ j ∧ j < (n : Int)) (k : V Y d ca sl (pc + 1) ls st S (xup M o j x) Q) : V Y d ca sl pc ls (vI x :: vI i :: vR (some o) :: st) S M Q := by
  subst hj; exact V_iast0 dg ho hc k
theorem xcell_z {cA : Nat → ClassId} {al : List Nat} {M : xM} {i n : Nat} {rs : xF} : xcell cA al M i (102, n, rs) = .inl (cA 102, n, .inl (fun j => Int32.ofInt (M i (j : Int)))) := rfl
theorem V_zald0 {o n : Nat} {i : Int} {rs : xF} (dg : decode Y.2.1 pc = .ok (.baload, 1)) (ho : S[o]? = some (102, n, rs)) (hc : 0 ≤ wr i ∧ wr i < (n : Int)) (k : V Y d ca sl (pc + 1) ls (vI (M o (wr i)) :: st) S M Q) : V Y d ca sl pc ls (vI i :: vR (some o) :: st) S M Q := by
  intro p l e R s m args below meth c H locs cells slots G cA sa A al lc mc ms Z C g1 g2 g3 g4 gz hs hl
  have hin := wr_in hc
  have ha : (xws cA al S M)[o]? = some (al.getD o 0, .inl (cA 102, n, .inl (fun j => Int32.ofInt (M o (j : Int))))) := by rw [xws_get ho, xcell_z]
  have k := k p l e R s m args below meth c H locs cells slots G cA sa A al lc mc ms Z C g1 g2 g3 g4 gz hs hl
  refine va_zald C.1 C.2.1 hs.1 hs.2.1 o 2 ha rfl hin dg ?_
  rw [wr_clI hc]
  exact k
theorem V_zald {α : Type} {X E N0 : α} {o n : Nat} {nI i : Int} {rs : xF} (dg : decode Y.2.1 pc = .ok (.baload, 1)) (ho : S[o]? = some (102, n, rs)) (hn : (n : Int) = nI) (h : (if 0 ≤ wr i ∧ wr i < nI then X else N0) = E) (h0 : N0 ≠ E) (k : 0 ≤ wr i ∧ wr i < nI → X = E → V Y d ca sl (pc + 1) ls (vI (M o (wr i)) :: st) S M Q) : V Y d ca sl pc ls (vI i :: vR (some o) :: st) S M Q := by
  subst hn
  by_cases hc : 0 ≤ wr i ∧ wr i < (n : Int)
  · rw [if_pos hc] at h; exact V_zald0 dg ho hc (k hc h)
  · rw [if_neg hc] at h; exact absurd h h0
theorem V_zaldK {o n : Nat} {i j : Int} {rs : xF} (dg : decode Y.2.1 pc = .ok (.baload, 1)) (ho : S[o]? = some (102, n, rs)) (hj : wr i = j) (hc : 0 ≤ j ∧ j < (n : Int)) (k : V Y d ca sl (pc + 1) ls (vI (M o j) :: st) S M Q) : V Y d ca sl pc ls (vI i :: vR (some o) :: st) S M Q := by
  subst hj; exact V_zald0 dg ho hc k
theorem V_zast0 {o n : Nat} {i x : Int} {b : Bool} {rs : xF} (dg : decode Y.2.1 pc = .ok (.bastore, 1)) (ho : S[o]? = some (102, n, rs)) (hx : x = b2i b) (hc : 0 ≤ wr i ∧ wr i < (n : Int)) (k : V Y d ca sl (pc + 1) ls st S (xup M o (wr i) x) Q) : V Y d ca sl pc ls (vI x :: vI i :: vR (some o) :: st) S M Q := by
  intro p l e R s m args below meth c H locs cells slots G cA sa A al lc mc ms Z C g1 g2 g3 g4 gz hs hl
  have hin := wr_in hc
  have ha : (xws cA al S M)[o]? = some (al.getD o 0, .inl (cA 102, n, .inl (fun j => Int32.ofInt (M o (j : Int))))) := by rw [xws_get ho, xcell_z]
  refine va_zast C.1 C.2.1 hs.1 hs.2.1 hs.2.2.1 hs.2.2.2.1 o 2 ha rfl hin dg (fun H1 locs1 hP hD hS => ?_)
  have nar : (vp_nar .boolean (Int32.ofInt x)) = Int32.ofInt x := by subst hx; cases b <;> decide
  have e9 : (al.getD o 0, (Sum.inl (cA 102, n, .inl (upd (fun j : Nat => Int32.ofInt (M o (j : Int))) (Int32.ofInt i).toNatClampNeg (vp_nar .boolean (Int32.ofInt x)))) : va_E)) = (al.getD o 0, xcell cA al (xup M o (wr i) x) o (102, n, rs)) := by
    rw [xcell_z]
    refine congrArg (fun f : Nat → Int32 => (al.getD o 0, (Sum.inl (cA 102, n, .inl f) : va_E))) ?_
    funext j
    unfold upd xup
    rw [nar]
    by_cases hj : j = (Int32.ofInt i).toNatClampNeg
    · rw [if_pos hj, if_pos ⟨rfl, by rw [hj]; exact wr_clI hc⟩]
    · rw [if_neg hj, if_neg (fun q => hj (by have := wr_clI hc; omega))]
  rw [e9, xws_up ho] at hP hD
  exact k p l e R s m args below meth c H1 locs1 cells slots G cA sa A al lc mc ms Z C g1 g2 g3 g4 gz ⟨hs.1, hP, hD, hS, hs.2.2.2.2⟩ hl
theorem V_zast {α : Type} {X E N0 : α} {o n : Nat} {nI i x : Int} {b : Bool} {rs : xF} (dg : decode Y.2.1 pc = .ok (.bastore, 1)) (ho : S[o]? = some (102, n, rs)) (hx : x = b2i b) (hn : (n : Int) = nI) (h : (if 0 ≤ wr i ∧ wr i < nI then X else N0) = E) (h0 : N0 ≠ E) (k : 0 ≤ wr i ∧ wr i < nI → X = E → V Y d ca sl (pc + 1) ls st S (xup M o (wr i) x) Q) : V Y d ca sl pc ls (vI x :: vI i :: vR (some o) :: st) S M Q := by
  subst hn
  by_cases hc : 0 ≤ wr i ∧ wr i < (n : Int)
  · rw [if_pos hc] at h; exact V_zast0 dg ho hx hc (k hc h)
  · rw [if_neg hc] at h; exact absurd h h0
theorem V_zastK {o n : Nat} {i j x : Int} {b : Bool} {rs : xF} (dg : decode Y.2.1 pc = .ok (.bastore, 1)) (ho : S[o]? = some (102, n, rs)) (hx : x = b2i b) (hj : wr i = j) (hc : 0 ≤ j ∧ j < (n : Int)) (k : V Y d ca sl (pc + 1) ls st S (xup M o j x) Q) : V Y d ca sl pc ls (vI x :: vI i :: vR (some o) :: st) S M Q := by
  subst hj; exact V_zast0 dg ho hx hc k
theorem xcell_c {cA : Nat → ClassId} {al : List Nat} {M : xM} {i n : Nat} {rs : xF} : xcell cA al M i (103, n, rs) = .inl (cA 103, n, .inl (fun j => Int32.ofInt (M i (j : Int)))) := rfl
theorem V_cald0 {o n : Nat} {i : Int} {rs : xF} (dg : decode Y.2.1 pc = .ok (.caload, 1)) (ho : S[o]? = some (103, n, rs)) (hc : 0 ≤ wr i ∧ wr i < (n : Int)) (k : V Y d ca sl (pc + 1) ls (vI (M o (wr i)) :: st) S M Q) : V Y d ca sl pc ls (vI i :: vR (some o) :: st) S M Q := by
  intro p l e R s m args below meth c H locs cells slots G cA sa A al lc mc ms Z C g1 g2 g3 g4 gz hs hl
  have hin := wr_in hc
  have ha : (xws cA al S M)[o]? = some (al.getD o 0, .inl (cA 103, n, .inl (fun j => Int32.ofInt (M o (j : Int))))) := by rw [xws_get ho, xcell_c]
  have k := k p l e R s m args below meth c H locs cells slots G cA sa A al lc mc ms Z C g1 g2 g3 g4 gz hs hl
  refine va_cald C.1 C.2.1 hs.1 hs.2.1 o 3 ha rfl hin dg ?_
  rw [wr_clI hc]
  exact k
theorem V_cald {α : Type} {X E N0 : α} {o n : Nat} {nI i : Int} {rs : xF} (dg : decode Y.2.1 pc = .ok (.caload, 1)) (ho : S[o]? = some (103, n, rs)) (hn : (n : Int) = nI) (h : (if 0 ≤ wr i ∧ wr i < nI then X else N0) = E) (h0 : N0 ≠ E) (k : 0 ≤ wr i ∧ wr i < nI → X = E → V Y d ca sl (pc + 1) ls (vI (M o (wr i)) :: st) S M Q) : V Y d ca sl pc ls (vI i :: vR (some o) :: st) S M Q := by
  subst hn
  by_cases hc : 0 ≤ wr i ∧ wr i < (n : Int)
  · rw [if_pos hc] at h; exact V_cald0 dg ho hc (k hc h)
  · rw [if_neg hc] at h; exact absurd h h0
theorem V_caldK {o n : Nat} {i j : Int} {rs : xF} (dg : decode Y.2.1 pc = .ok (.caload, 1)) (ho : S[o]? = some (103, n, rs)) (hj : wr i = j) (hc : 0 ≤ j ∧ j < (n : Int)) (k : V Y d ca sl (pc + 1) ls (vI (M o j) :: st) S M Q) : V Y d ca sl pc ls (vI i :: vR (some o) :: st) S M Q := by
  subst hj; exact V_cald0 dg ho hc k
theorem V_cast0 {o n : Nat} {i x : Int} {rs : xF} (dg : decode Y.2.1 pc = .ok (.castore, 1)) (ho : S[o]? = some (103, n, rs)) (hx : xchr x = x) (hc : 0 ≤ wr i ∧ wr i < (n : Int)) (k : V Y d ca sl (pc + 1) ls st S (xup M o (wr i) x) Q) : V Y d ca sl pc ls (vI x :: vI i :: vR (some o) :: st) S M Q := by
  intro p l e R s m args below meth c H locs cells slots G cA sa A al lc mc ms Z C g1 g2 g3 g4 gz hs hl
  have hin := wr_in hc
  have ha : (xws cA al S M)[o]? = some (al.getD o 0, .inl (cA 103, n, .inl (fun j => Int32.ofInt (M o (j : Int))))) := by rw [xws_get ho, xcell_c]
  refine va_cast C.1 C.2.1 hs.1 hs.2.1 hs.2.2.1 hs.2.2.2.1 o 3 ha rfl hin dg (fun H1 locs1 hP hD hS => ?_)
  have nar : (vp_nar .char (Int32.ofInt x)) = Int32.ofInt x := by rw [← hx, ← xchr_of]; exact pk_vc _
  have e9 : (al.getD o 0, (Sum.inl (cA 103, n, .inl (upd (fun j : Nat => Int32.ofInt (M o (j : Int))) (Int32.ofInt i).toNatClampNeg (vp_nar .char (Int32.ofInt x)))) : va_E)) = (al.getD o 0, xcell cA al (xup M o (wr i) x) o (103, n, rs)) := by
    rw [xcell_c]
    refine congrArg (fun f : Nat → Int32 => (al.getD o 0, (Sum.inl (cA 103, n, .inl f) : va_E))) ?_
    funext j
    unfold upd xup
    rw [nar]
    by_cases hj : j = (Int32.ofInt i).toNatClampNeg
    · rw [if_pos hj, if_pos ⟨rfl, by rw [hj]; exact wr_clI hc⟩]
    · rw [if_neg hj, if_neg (fun q => hj (by have := wr_clI hc; omega))]
  rw [e9, xws_up ho] at hP hD
  exact k p l e R s m args below meth c H1 locs1 cells slots G cA sa A al lc mc ms Z C g1 g2 g3 g4 gz ⟨hs.1, hP, hD, hS, hs.2.2.2.2⟩ hl
theorem V_cast {α : Type} {X E N0 : α} {o n : Nat} {nI i x : Int} {rs : xF} (dg : decode Y.2.1 pc = .ok (.castore, 1)) (ho : S[o]? = some (103, n, rs)) (hx : xchr x = x) (hn : (n : Int) = nI) (h : (if 0 ≤ wr i ∧ wr i < nI then X else N0) = E) (h0 : N0 ≠ E) (k : 0 ≤ wr i ∧ wr i < nI → X = E → V Y d ca sl (pc + 1) ls st S (xup M o (wr i) x) Q) : V Y d ca sl pc ls (vI x :: vI i :: vR (some o) :: st) S M Q := by
  subst hn
  by_cases hc : 0 ≤ wr i ∧ wr i < (n : Int)
  · rw [if_pos hc] at h; exact V_cast0 dg ho hx hc (k hc h)
  · rw [if_neg hc] at h; exact absurd h h0
theorem V_castK {o n : Nat} {i j x : Int} {rs : xF} (dg : decode Y.2.1 pc = .ok (.castore, 1)) (ho : S[o]? = some (103, n, rs)) (hx : xchr x = x) (hj : wr i = j) (hc : 0 ≤ j ∧ j < (n : Int)) (k : V Y d ca sl (pc + 1) ls st S (xup M o j x) Q) : V Y d ca sl pc ls (vI x :: vI i :: vR (some o) :: st) S M Q := by
  subst hj; exact V_cast0 dg ho hx hc k
theorem xcell_l {cA : Nat → ClassId} {al : List Nat} {M : xM} {i n : Nat} {rs : xF} : xcell cA al M i (101, n, rs) = .inl (cA 101, n, .inr (.inl (fun j => Int64.ofInt (M i (j : Int))))) := rfl
theorem V_lald {α : Type} {X E N0 : α} {o n : Nat} {nI i : Int} {rs : xF} (dg : decode Y.2.1 pc = .ok (.laload, 1)) (ho : S[o]? = some (101, n, rs)) (hn : (n : Int) = nI) (h : (if 0 ≤ wr i ∧ wr i < nI then X else N0) = E) (h0 : N0 ≠ E) (k : 0 ≤ wr i ∧ wr i < nI → X = E → V Y d ca sl (pc + 1) ls (vL (M o (wr i)) :: st) S M Q) : V Y d ca sl pc ls (vI i :: vR (some o) :: st) S M Q := by
  subst hn
  by_cases hc : 0 ≤ wr i ∧ wr i < (n : Int)
  case neg => rw [if_neg hc] at h; exact absurd h h0
  rw [if_pos hc] at h
  intro p l e R s m args below meth c H locs cells slots G cA sa A al lc mc ms Z C g1 g2 g3 g4 gz hs hl
  have hin := wr_in hc
  have ha : (xws cA al S M)[o]? = some (al.getD o 0, .inl (cA 101, n, .inr (.inl (fun j => Int64.ofInt (M o (j : Int)))))) := by rw [xws_get ho, xcell_l]
  have k := k hc h p l e R s m args below meth c H locs cells slots G cA sa A al lc mc ms Z C g1 g2 g3 g4 gz hs hl
  refine va_lald C.1 C.2.1 hs.1 hs.2.1 o 1 ha rfl hin dg ?_
  rw [wr_clI hc]
  exact k
theorem V_last {α : Type} {X E N0 : α} {o n : Nat} {nI i x : Int} {rs : xF} (dg : decode Y.2.1 pc = .ok (.lastore, 1)) (ho : S[o]? = some (101, n, rs)) (hn : (n : Int) = nI) (h : (if 0 ≤ wr i ∧ wr i < nI then X else N0) = E) (h0 : N0 ≠ E) (k : 0 ≤ wr i ∧ wr i < nI → X = E → V Y d ca sl (pc + 1) ls st S (xup M o (wr i) x) Q) : V Y d ca sl pc ls (vL x :: vI i :: vR (some o) :: st) S M Q := by
  subst hn
  by_cases hc : 0 ≤ wr i ∧ wr i < (n : Int)
  case neg => rw [if_neg hc] at h; exact absurd h h0
  rw [if_pos hc] at h
  intro p l e R s m args below meth c H locs cells slots G cA sa A al lc mc ms Z C g1 g2 g3 g4 gz hs hl
  have hin := wr_in hc
  have ha : (xws cA al S M)[o]? = some (al.getD o 0, .inl (cA 101, n, .inr (.inl (fun j => Int64.ofInt (M o (j : Int)))))) := by rw [xws_get ho, xcell_l]
  refine va_last C.1 C.2.1 hs.1 hs.2.1 hs.2.2.1 hs.2.2.2.1 o 1 ha rfl hin dg (fun H1 locs1 hP hD hS => ?_)
  have e9 : (al.getD o 0, (Sum.inl (cA 101, n, .inr (.inl (vp_updL (fun j : Nat => Int64.ofInt (M o (j : Int))) (Int32.ofInt i).toNatClampNeg (Int64.ofInt x)))) : va_E)) = (al.getD o 0, xcell cA al (xup M o (wr i) x) o (101, n, rs)) := by
    rw [xcell_l]
    refine congrArg (fun f : Nat → Int64 => (al.getD o 0, (Sum.inl (cA 101, n, .inr (.inl f)) : va_E))) ?_
    funext j
    unfold vp_updL xup
    by_cases hj : j = (Int32.ofInt i).toNatClampNeg
    · rw [if_pos hj, if_pos ⟨rfl, by rw [hj]; exact wr_clI hc⟩]
    · rw [if_neg hj, if_neg (fun q => hj (by have := wr_clI hc; omega))]
  rw [e9, xws_up ho] at hP hD
  exact k hc h p l e R s m args below meth c H1 locs1 cells slots G cA sa A al lc mc ms Z C g1 g2 g3 g4 gz ⟨hs.1, hP, hD, hS, hs.2.2.2.2⟩ hl
theorem xcell_r {cA : Nat → ClassId} {al : List Nat} {M : xM} {i q n : Nat} {rs : xF} (hq : 104 ≤ q) : xcell cA al M i (q, n, rs) = .inl (cA q, n, .inr (.inr (.inr (.inr (fun j => xrf al (rs.getD j none)))))) := by
  unfold xcell
  rw [if_neg (by show ¬ q < 100; omega), if_neg (by show ¬ q = 101; omega), if_neg (by show ¬ q < 104; omega)]
theorem V_aald {o n q : Nat} {i : Int} {r : Nat} {rs : xF} (dg : decode Y.2.1 pc = .ok (.aaload, 1)) (ho : S[o]? = some (q, n, rs)) (hq : q = 104 ∨ q = 105) (hc : 0 ≤ wr i ∧ wr i < (n : Int)) (hr : rs.getD (wr i).toNat none = some (some r)) (k : V Y d ca sl (pc + 1) ls (vR (some r) :: st) S M Q) : V Y d ca sl pc ls (vI i :: vR (some o) :: st) S M Q := by
  intro p l e R s m args below meth c H locs cells slots G cA sa A al lc mc ms Z C g1 g2 g3 g4 gz hs hl
  have hin := wr_in hc
  have k := k p l e R s m args below meth c H locs cells slots G cA sa A al lc mc ms Z C g1 g2 g3 g4 gz hs hl
  have ha : (xws cA al S M)[o]? = some (al.getD o 0, .inl (cA q, n, .inr (.inr (.inr (.inr (fun j => xrf al (rs.getD j none))))))) := by rw [xws_get ho, xcell_r (by omega)]
  have hlt : (Int32.ofInt i).toNatClampNeg < n := Nat.not_le.mp fun q => hin (Or.inr q)
  have hv : va_rf (xrf al (rs.getD (Int32.ofInt i).toNatClampNeg none)) = em al sa (vR (some r)) := by rw [wr_clamp, hr]; rfl
  have hAr : ∃ ty : FieldType, ty.isReference = true ∧ ArrOfT s (cA q) ty := by
    rcases hq with rfl | rfl
    · exact ⟨.object "TurnedIsland$Want", rfl, (hs.1.2 4 _ rfl).1⟩
    · exact ⟨.array .int, rfl, (hs.1.2 5 _ rfl).1⟩
  obtain ⟨ty, hty, hAr⟩ := hAr
  exact W.aald (v := em al sa (vR (some r))) (ty := ty) C.1 C.2.1 (hs.2.1 o _ ha) (hAr n (fun j => va_rf (xrf al (rs.getD j none)))) hty (fun q => by cases q) (by show ¬ (_ ∨ (arrV _ _ _).slots.size ≤ _); rw [arrV_size]; exact hin) (by show (arrV _ _ _).slots[_]? = _; rw [arrV_read _ _ hlt, hv]) rfl rfl dg k
theorem V_alen {o n q : Nat} {x : Int} {rs : xF} (dg : decode Y.2.1 pc = .ok (.arraylength, 1)) (ho : S[o]? = some (q, n, rs)) (hq : 100 ≤ q ∧ q < 106) (hx : (n : Int) = x) (k : V Y d ca sl (pc + 1) ls (vI x :: st) S M Q) : V Y d ca sl pc ls (vR (some o) :: st) S M Q := by
  subst hx
  intro p l e R s m args below meth c H locs cells slots G cA sa A al lc mc ms Z C g1 g2 g3 g4 gz hs hl
  have k := k p l e R s m args below meth c H locs cells slots G cA sa A al lc mc ms Z C g1 g2 g3 g4 gz hs hl
  have ha : ∃ (x : vp_A) (ty : FieldType) (t0 : Nat), (xws cA al S M)[o]? = some (al.getD o 0, (Sum.inl (cA q, x) : va_E)) ∧ (xtys cA)[t0]? = some (cA q, ty) ∧ x.1 = n := by
    have hq' : q = 100 ∨ q = 101 ∨ q = 102 ∨ q = 103 ∨ q = 104 ∨ q = 105 := by omega
    rcases hq' with rfl | rfl | rfl | rfl | rfl | rfl
    · exact ⟨_, _, 0, xws_get ho, rfl, rfl⟩
    · exact ⟨_, _, 1, xws_get ho, rfl, rfl⟩
    · exact ⟨_, _, 2, xws_get ho, rfl, rfl⟩
    · exact ⟨_, _, 3, xws_get ho, rfl, rfl⟩
    · exact ⟨_, _, 4, xws_get ho, rfl, rfl⟩
    · exact ⟨_, _, 5, xws_get ho, rfl, rfl⟩
  obtain ⟨f, ty, t0, ha, ht, hn⟩ := ha
  exact va_alen C.1 C.2.1 hs.1 hs.2.1 o t0 ha ht (by rw [hn]; show Int32.ofNat n = Int32.ofInt (n : Int); rw [Int32.ofInt_eq_ofNat]) dg k
theorem V_gets {idx q : Nat} {C n dd : String} (dg : decode Y.2.1 pc = .ok (.getstatic idx, 3)) (hz : (C, n, dd, q) ∈ xZR) (hf : Cond.fieldLink Y.1.cls idx C n dd ∈ xT) (k : V Y d ca sl (pc + 3) ls (vS q :: st) S M Q) : V Y d ca sl pc ls st S M Q := by
  intro p l e R s m args below meth c H locs cells slots G cA sa A al lc mc ms Z C g1 g2 g3 g4 gz hs hl
  exact va_gets C.1 C.2.1 (C.2.2.2.2.2.2.2.2.2.1.2.2.1 _ hz) hs.2.2.2.1 C.2.2.2.1 (C.2.2.2.2.1 _ hf) (fun _ h => h) dg (k p l e R s m args below meth c H locs cells slots G cA sa A al lc mc ms Z C g1 g2 g3 g4 gz hs hl)
theorem V_getsN {idx q : Nat} {C n dd host : String} (dg : decode Y.2.1 pc = .ok (.getstatic idx, 3)) (hz : (C, n, dd, q) ∈ xZR) (hf : (Y.1.cls, idx, C, n, dd, host) ∈ xNF) (k : V Y d ca sl (pc + 3) ls (vS q :: st) S M Q) : V Y d ca sl pc ls st S M Q := by
  intro p l e R s m args below meth c H locs cells slots G cA sa A al lc mc ms Z C g1 g2 g3 g4 gz hs hl
  exact va_getsN C.1 C.2.1 (C.2.2.2.2.2.2.2.2.2.1.2.2.1 _ hz) hs.2.2.2.1 C.2.2.2.1 (va_Nw.use rfl (C.2.2.2.2.2.2.2.2.2.1.2.1 _ hf)) (fun _ h => h) dg (k p l e R s m args below meth c H locs cells slots G cA sa A al lc mc ms Z C g1 g2 g3 g4 gz hs hl)
theorem V_tald {α : Type} {X E N0 : α} {q : Nat} {nI i : Int} {tb : List Int} (dg : decode Y.2.1 pc = .ok (.iaload, 1)) (hz : (q, tb) ∈ xTI) (hn : (tb.length : Int) = nI) (h : (if 0 ≤ wr i ∧ wr i < nI then X else N0) = E) (h0 : N0 ≠ E) (k : 0 ≤ wr i ∧ wr i < nI → X = E → V Y d ca sl (pc + 1) ls (vI (tb.getD (wr i).toNat 0) :: st) S M Q) : V Y d ca sl pc ls (vI i :: vS q :: st) S M Q := by
  subst hn
  by_cases hc : 0 ≤ wr i ∧ wr i < (tb.length : Int)
  case neg => rw [if_neg hc] at h; exact absurd h h0
  rw [if_pos hc] at h
  intro p l e R s m args below meth c H locs cells slots G cA sa A al lc mc ms Z C g1 g2 g3 g4 gz hs hl
  exact va_ti C.1 C.2.1 (C.2.2.2.2.2.2.2.2.2.1.2.2.2.1 _ hz) hs.2.2.2.1 (wr_in hc) (by rw [wr_clamp]; rfl) dg (k hc h p l e R s m args below meth c H locs cells slots G cA sa A al lc mc ms Z C g1 g2 g3 g4 gz hs hl)
theorem V_tlen {q : Nat} {x : Int} {tb : List Int} (dg : decode Y.2.1 pc = .ok (.arraylength, 1)) (hz : (q, tb) ∈ xTI) (hx : (tb.length : Int) = x) (k : V Y d ca sl (pc + 1) ls (vI x :: st) S M Q) : V Y d ca sl pc ls (vS q :: st) S M Q := by
  subst hx
  intro p l e R s m args below meth c H locs cells slots G cA sa A al lc mc ms Z C g1 g2 g3 g4 gz hs hl
  exact va_tlen C.1 C.2.1 (C.2.2.2.2.2.2.2.2.2.1.2.2.2.1 _ hz) hs.2.2.2.1 (by show Int32.ofNat _ = Int32.ofInt _; rw [Int32.ofInt_eq_ofNat]) dg (k p l e R s m args below meth c H locs cells slots G cA sa A al lc mc ms Z C g1 g2 g3 g4 gz hs hl)
theorem V_sld {α : Type} {X E N0 : α} {L : Nat} {xs : Nat → Int32} {i : Int} (dg : decode Y.2.1 pc = .ok (.iaload, 1)) (hy : Y.2.2.2.2 = some (L, xs)) (h : (if 0 ≤ wr i ∧ wr i < (L : Int) then X else N0) = E) (h0 : N0 ≠ E) (k : 0 ≤ wr i ∧ wr i < (L : Int) → X = E → V Y d ca sl (pc + 1) ls (vI ((xs (wr i).toNat).toInt) :: st) S M Q) : V Y d ca sl pc ls (vI i :: vS 3 :: st) S M Q := by
  by_cases hc : 0 ≤ wr i ∧ wr i < (L : Int)
  case neg => rw [if_neg hc] at h; exact absurd h h0
  rw [if_pos hc] at h
  intro p l e R s m args below meth c H locs cells slots G cA sa A al lc mc ms Z C g1 g2 g3 g4 gz hs hl
  obtain ⟨x1, x2, x3⟩ := C.2.2.2.2.2.2.2.2.2.2 L xs hy
  have k := k hc h p l e R s m args below meth c H locs cells slots G cA sa A al lc mc ms Z C g1 g2 g3 g4 gz hs hl
  refine va_sld C.1 C.2.1 x1 x2 x3 hs.2.2.2.1 (wr_in hc) dg ?_
  rw [wr_clamp, ← Int32.ofInt_toInt (xs (wr i).toNat)]
  exact k
theorem V_slen {L : Nat} {xs : Nat → Int32} (dg : decode Y.2.1 pc = .ok (.arraylength, 1)) (hy : Y.2.2.2.2 = some (L, xs)) (k : V Y d ca sl (pc + 1) ls (vI (L : Int) :: st) S M Q) : V Y d ca sl pc ls (vS 3 :: st) S M Q := by
  intro p l e R s m args below meth c H locs cells slots G cA sa A al lc mc ms Z C g1 g2 g3 g4 gz hs hl
  obtain ⟨x1, x2, x3⟩ := C.2.2.2.2.2.2.2.2.2.2 L xs hy
  have k := k p l e R s m args below meth c H locs cells slots G cA sa A al lc mc ms Z C g1 g2 g3 g4 gz hs hl
  have e9 : em al sa (vI (L : Int)) = .int (nI L) := by show Value.int (Int32.ofInt (L : Int)) = _; rw [Int32.ofInt_eq_ofNat]; rfl
  rw [List.map_cons, e9] at k
  exact va_slen C.1 C.2.1 x1 x2 x3 hs.2.2.2.1 dg k
end VF
