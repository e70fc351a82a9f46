/-! the forms that a read-back function is made of -/
def xj {α β : Type} (K : β) (F : β → α) : α := F K
def xlet {α β : Type} (a : β) (F : β → α) : α := F a
def xrd {α : Type} (M : xM) (o : Nat) (n i : Int) (F : Int → Option α) : Option α := if 0 ≤ wr i ∧ wr i < n then F (M o (wr i)) else none
def xwt {α : Type} (M : xM) (o : Nat) (n i x : Int) (F : xM → Option α) : Option α := if 0 ≤ wr i ∧ wr i < n then F (xup M o (wr i) x) else none
def xtb {α : Type} (tb : List Int) (n i : Int) (F : Int → Option α) : Option α := if 0 ≤ wr i ∧ wr i < n then F (tb.getD (wr i).toNat 0) else none
def xix {α : Type} (n i : Int) (F : Option α) : Option α := if 0 ≤ wr i ∧ wr i < n then F else none
def xnz {α : Type} (b : Int) (F : Option α) : Option α := if wr b = 0 then none else F
def xbl {α : Type} (x : Int) (F : Bool → Option α) : Option α := if wr x = 0 then F false else if wr x = 1 then F true else none
theorem xjE {α β : Type} {K : β} {F : β → α} {E : α} {G : Prop} (h : xj K F = E) (k : ∀ j, j = K → F j = E → G) : G := k K rfl h
theorem xletE {α β : Type} {a : β} {F : β → α} {E : α} {G : Prop} (h : xlet a F = E) (k : ∀ j, j = a → F j = E → G) : G := k a rfl h
theorem xrdE {α : Type} {M : xM} {o : Nat} {n i : Int} {F : Int → Option α} {E : α} (h : xrd M o n i F = some E) : (0 ≤ wr i ∧ wr i < n) ∧ F (M o (wr i)) = some E := by
  unfold xrd at h
  split at h
  · exact ⟨by assumption, h⟩
  · cases h
theorem xwtE {α : Type} {M : xM} {o : Nat} {n i x : Int} {F : xM → Option α} {E : α} (h : xwt M o n i x F = some E) : (0 ≤ wr i ∧ wr i < n) ∧ F (xup M o (wr i) x) = some E := by
  unfold xwt at h
  split at h
  · exact ⟨by assumption, h⟩
  · cases h
theorem xtbE {α : Type} {tb : List Int} {n i : Int} {F : Int → Option α} {E : α} (h : xtb tb n i F = some E) : (0 ≤ wr i ∧ wr i < n) ∧ F (tb.getD (wr i).toNat 0) = some E := by
  unfold xtb at h
  split at h
  · exact ⟨by assumption, h⟩
  · cases h
theorem xixE {α : Type} {n i : Int} {F : Option α} {E : α} (h : xix n i F = some E) : (0 ≤ wr i ∧ wr i < n) ∧ F = some E := by
  unfold xix at h
  split at h
  · exact ⟨by assumption, h⟩
  · cases h
theorem xnzE {α : Type} {b : Int} {F : Option α} {E : α} (h : xnz b F = some E) : ¬ wr b = 0 ∧ F = some E := by
  unfold xnz at h
  split at h
  · cases h
  · exact ⟨by assumption, h⟩
theorem xblE {α : Type} {x : Int} {F : Bool → Option α} {E : α} (h : xbl x F = some E) : ∃ b : Bool, wr x = b2i b ∧ F b = some E := by
  unfold xbl at h
  split at h
  · exact ⟨false, by assumption, h⟩
  · split at h
    · exact ⟨true, by assumption, h⟩
    · cases h
theorem xrd_eq {α : Type} {M : xM} {o : Nat} {n i : Int} {F : Int → Option α} (h : 0 ≤ wr i ∧ wr i < n) : xrd M o n i F = F (M o (wr i)) := if_pos h
theorem xwt_eq {α : Type} {M : xM} {o : Nat} {n i x : Int} {F : xM → Option α} (h : 0 ≤ wr i ∧ wr i < n) : xwt M o n i x F = F (xup M o (wr i) x) := if_pos h
def xb {α β : Type} (o : Option α) (F : α → Option β) : Option β := match o with
  | none => none
  | some a => F a
theorem xbE {α β : Type} {o : Option α} {F : α → Option β} {E : β} {G : Prop} (h : xb o F = some E) (k : ∀ a, o = some a → F a = some E → G) : G := by
  cases o with
  | none => cases h
  | some a => exact k a rfl h
def xb2 {A1 A2 β : Type} (o : Option (A1 × A2)) (F : A1 → A2 → Option β) : Option β := match o with
  | none => none
  | some (a1, a2) => F a1 a2
theorem xb2E {A1 A2 β : Type} {o : Option (A1 × A2)} {F : A1 → A2 → Option β} {E : β} {G : Prop} (h : xb2 o F = some E) (k : ∀ a1 a2, o = some (a1, a2) → F a1 a2 = some E → G) : G := by
  cases o with
  | none => cases h
  | some q => obtain ⟨a1, a2⟩ := q; exact k a1 a2 rfl h
def xb3 {A1 A2 A3 β : Type} (o : Option (A1 × A2 × A3)) (F : A1 → A2 → A3 → Option β) : Option β := match o with
  | none => none
  | some (a1, a2, a3) => F a1 a2 a3
theorem xb3E {A1 A2 A3 β : Type} {o : Option (A1 × A2 × A3)} {F : A1 → A2 → A3 → Option β} {E : β} {G : Prop} (h : xb3 o F = some E) (k : ∀ a1 a2 a3, o = some (a1, a2, a3) → F a1 a2 a3 = some E → G) : G := by
  cases o with
  | none => cases h
  | some q => obtain ⟨a1, a2, a3⟩ := q; exact k a1 a2 a3 rfl h
def xb4 {A1 A2 A3 A4 β : Type} (o : Option (A1 × A2 × A3 × A4)) (F : A1 → A2 → A3 → A4 → Option β) : Option β := match o with
  | none => none
  | some (a1, a2, a3, a4) => F a1 a2 a3 a4
theorem xb4E {A1 A2 A3 A4 β : Type} {o : Option (A1 × A2 × A3 × A4)} {F : A1 → A2 → A3 → A4 → Option β} {E : β} {G : Prop} (h : xb4 o F = some E) (k : ∀ a1 a2 a3 a4, o = some (a1, a2, a3, a4) → F a1 a2 a3 a4 = some E → G) : G := by
  cases o with
  | none => cases h
  | some q => obtain ⟨a1, a2, a3, a4⟩ := q; exact k a1 a2 a3 a4 rfl h
def xb5 {A1 A2 A3 A4 A5 β : Type} (o : Option (A1 × A2 × A3 × A4 × A5)) (F : A1 → A2 → A3 → A4 → A5 → Option β) : Option β := match o with
  | none => none
  | some (a1, a2, a3, a4, a5) => F a1 a2 a3 a4 a5
theorem xb5E {A1 A2 A3 A4 A5 β : Type} {o : Option (A1 × A2 × A3 × A4 × A5)} {F : A1 → A2 → A3 → A4 → A5 → Option β} {E : β} {G : Prop} (h : xb5 o F = some E) (k : ∀ a1 a2 a3 a4 a5, o = some (a1, a2, a3, a4, a5) → F a1 a2 a3 a4 a5 = some E → G) : G := by
  cases o with
  | none => cases h
  | some q => obtain ⟨a1, a2, a3, a4, a5⟩ := q; exact k a1 a2 a3 a4 a5 rfl h
def xb6 {A1 A2 A3 A4 A5 A6 β : Type} (o : Option (A1 × A2 × A3 × A4 × A5 × A6)) (F : A1 → A2 → A3 → A4 → A5 → A6 → Option β) : Option β := match o with
  | none => none
  | some (a1, a2, a3, a4, a5, a6) => F a1 a2 a3 a4 a5 a6
theorem xb6E {A1 A2 A3 A4 A5 A6 β : Type} {o : Option (A1 × A2 × A3 × A4 × A5 × A6)} {F : A1 → A2 → A3 → A4 → A5 → A6 → Option β} {E : β} {G : Prop} (h : xb6 o F = some E) (k : ∀ a1 a2 a3 a4 a5 a6, o = some (a1, a2, a3, a4, a5, a6) → F a1 a2 a3 a4 a5 a6 = some E → G) : G := by
  cases o with
  | none => cases h
  | some q => obtain ⟨a1, a2, a3, a4, a5, a6⟩ := q; exact k a1 a2 a3 a4 a5 a6 rfl h
def xb7 {A1 A2 A3 A4 A5 A6 A7 β : Type} (o : Option (A1 × A2 × A3 × A4 × A5 × A6 × A7)) (F : A1 → A2 → A3 → A4 → A5 → A6 → A7 → Option β) : Option β := match o with
  | none => none
  | some (a1, a2, a3, a4, a5, a6, a7) => F a1 a2 a3 a4 a5 a6 a7
theorem xb7E {A1 A2 A3 A4 A5 A6 A7 β : Type} {o : Option (A1 × A2 × A3 × A4 × A5 × A6 × A7)} {F : A1 → A2 → A3 → A4 → A5 → A6 → A7 → Option β} {E : β} {G : Prop} (h : xb7 o F = some E) (k : ∀ a1 a2 a3 a4 a5 a6 a7, o = some (a1, a2, a3, a4, a5, a6, a7) → F a1 a2 a3 a4 a5 a6 a7 = some E → G) : G := by
  cases o with
  | none => cases h
  | some q => obtain ⟨a1, a2, a3, a4, a5, a6, a7⟩ := q; exact k a1 a2 a3 a4 a5 a6 a7 rfl h
def xb8 {A1 A2 A3 A4 A5 A6 A7 A8 β : Type} (o : Option (A1 × A2 × A3 × A4 × A5 × A6 × A7 × A8)) (F : A1 → A2 → A3 → A4 → A5 → A6 → A7 → A8 → Option β) : Option β := match o with
  | none => none
  | some (a1, a2, a3, a4, a5, a6, a7, a8) => F a1 a2 a3 a4 a5 a6 a7 a8
theorem xb8E {A1 A2 A3 A4 A5 A6 A7 A8 β : Type} {o : Option (A1 × A2 × A3 × A4 × A5 × A6 × A7 × A8)} {F : A1 → A2 → A3 → A4 → A5 → A6 → A7 → A8 → Option β} {E : β} {G : Prop} (h : xb8 o F = some E) (k : ∀ a1 a2 a3 a4 a5 a6 a7 a8, o = some (a1, a2, a3, a4, a5, a6, a7, a8) → F a1 a2 a3 a4 a5 a6 a7 a8 = some E → G) : G := by
  cases o with
  | none => cases h
  | some q => obtain ⟨a1, a2, a3, a4, a5, a6, a7, a8⟩ := q; exact k a1 a2 a3 a4 a5 a6 a7 a8 rfl h
def xb9 {A1 A2 A3 A4 A5 A6 A7 A8 A9 β : Type} (o : Option (A1 × A2 × A3 × A4 × A5 × A6 × A7 × A8 × A9)) (F : A1 → A2 → A3 → A4 → A5 → A6 → A7 → A8 → A9 → Option β) : Option β := match o with
  | none => none
  | some (a1, a2, a3, a4, a5, a6, a7, a8, a9) => F a1 a2 a3 a4 a5 a6 a7 a8 a9
theorem xb9E {A1 A2 A3 A4 A5 A6 A7 A8 A9 β : Type} {o : Option (A1 × A2 × A3 × A4 × A5 × A6 × A7 × A8 × A9)} {F : A1 → A2 → A3 → A4 → A5 → A6 → A7 → A8 → A9 → Option β} {E : β} {G : Prop} (h : xb9 o F = some E) (k : ∀ a1 a2 a3 a4 a5 a6 a7 a8 a9, o = some (a1, a2, a3, a4, a5, a6, a7, a8, a9) → F a1 a2 a3 a4 a5 a6 a7 a8 a9 = some E → G) : G := by
  cases o with
  | none => cases h
  | some q => obtain ⟨a1, a2, a3, a4, a5, a6, a7, a8, a9⟩ := q; exact k a1 a2 a3 a4 a5 a6 a7 a8 a9 rfl h
def xb10 {A1 A2 A3 A4 A5 A6 A7 A8 A9 A10 β : Type} (o : Option (A1 × A2 × A3 × A4 × A5 × A6 × A7 × A8 × A9 × A10)) (F : A1 → A2 → A3 → A4 → A5 → A6 → A7 → A8 → A9 → A10 → Option β) : Option β := match o with
  | none => none
  | some (a1, a2, a3, a4, a5, a6, a7, a8, a9, a10) => F a1 a2 a3 a4 a5 a6 a7 a8 a9 a10
theorem xb10E {A1 A2 A3 A4 A5 A6 A7 A8 A9 A10 β : Type} {o : Option (A1 × A2 × A3 × A4 × A5 × A6 × A7 × A8 × A9 × A10)} {F : A1 → A2 → A3 → A4 → A5 → A6 → A7 → A8 → A9 → A10 → Option β} {E : β} {G : Prop} (h : xb10 o F = some E) (k : ∀ a1 a2 a3 a4 a5 a6 a7 a8 a9 a10, o = some (a1, a2, a3, a4, a5, a6, a7, a8, a9, a10) → F a1 a2 a3 a4 a5 a6 a7 a8 a9 a10 = some E → G) : G := by
  cases o with
  | none => cases h
  | some q => obtain ⟨a1, a2, a3, a4, a5, a6, a7, a8, a9, a10⟩ := q; exact k a1 a2 a3 a4 a5 a6 a7 a8 a9 a10 rfl h
def xb11 {A1 A2 A3 A4 A5 A6 A7 A8 A9 A10 A11 β : Type} (o : Option (A1 × A2 × A3 × A4 × A5 × A6 × A7 × A8 × A9 × A10 × A11)) (F : A1 → A2 → A3 → A4 → A5 → A6 → A7 → A8 → A9 → A10 → A11 → Option β) : Option β := match o with
  | none => none
  | some (a1, a2, a3, a4, a5, a6, a7, a8, a9, a10, a11) => F a1 a2 a3 a4 a5 a6 a7 a8 a9 a10 a11
theorem xb11E {A1 A2 A3 A4 A5 A6 A7 A8 A9 A10 A11 β : Type} {o : Option (A1 × A2 × A3 × A4 × A5 × A6 × A7 × A8 × A9 × A10 × A11)} {F : A1 → A2 → A3 → A4 → A5 → A6 → A7 → A8 → A9 → A10 → A11 → Option β} {E : β} {G : Prop} (h : xb11 o F = some E) (k : ∀ a1 a2 a3 a4 a5 a6 a7 a8 a9 a10 a11, o = some (a1, a2, a3, a4, a5, a6, a7, a8, a9, a10, a11) → F a1 a2 a3 a4 a5 a6 a7 a8 a9 a10 a11 = some E → G) : G := by
  cases o with
  | none => cases h
  | some q => obtain ⟨a1, a2, a3, a4, a5, a6, a7, a8, a9, a10, a11⟩ := q; exact k a1 a2 a3 a4 a5 a6 a7 a8 a9 a10 a11 rfl h
def xb12 {A1 A2 A3 A4 A5 A6 A7 A8 A9 A10 A11 A12 β : Type} (o : Option (A1 × A2 × A3 × A4 × A5 × A6 × A7 × A8 × A9 × A10 × A11 × A12)) (F : A1 → A2 → A3 → A4 → A5 → A6 → A7 → A8 → A9 → A10 → A11 → A12 → Option β) : Option β := match o with
  | none => none
  | some (a1, a2, a3, a4, a5, a6, a7, a8, a9, a10, a11, a12) => F a1 a2 a3 a4 a5 a6 a7 a8 a9 a10 a11 a12
theorem xb12E {A1 A2 A3 A4 A5 A6 A7 A8 A9 A10 A11 A12 β : Type} {o : Option (A1 × A2 × A3 × A4 × A5 × A6 × A7 × A8 × A9 × A10 × A11 × A12)} {F : A1 → A2 → A3 → A4 → A5 → A6 → A7 → A8 → A9 → A10 → A11 → A12 → Option β} {E : β} {G : Prop} (h : xb12 o F = some E) (k : ∀ a1 a2 a3 a4 a5 a6 a7 a8 a9 a10 a11 a12, o = some (a1, a2, a3, a4, a5, a6, a7, a8, a9, a10, a11, a12) → F a1 a2 a3 a4 a5 a6 a7 a8 a9 a10 a11 a12 = some E → G) : G := by
  cases o with
  | none => cases h
  | some q => obtain ⟨a1, a2, a3, a4, a5, a6, a7, a8, a9, a10, a11, a12⟩ := q; exact k a1 a2 a3 a4 a5 a6 a7 a8 a9 a10 a11 a12 rfl h
def xs0 { ρ β : Type} (o : Option ((Unit) ⊕ ρ)) (F : Option β) (K : ρ → Option β) : Option β := match o with
  | none => none
  | some (.inl ()) => F 
  | some (.inr r) => K r
theorem xs0E { ρ β : Type} {o : Option ((Unit) ⊕ ρ)} {F : Option β} {K : ρ → Option β} {E : β} {G : Prop} (h : xs0 o F K = some E) (k1 :  o = some (.inl ()) → F  = some E → G) (k2 : ∀ r, o = some (.inr r) → K r = some E → G) : G := by
  cases o with
  | none => cases h
  | some q =>
    cases q with
    | inl q => exact k1 rfl h
    | inr r => exact k2 r rfl h
def xs1 {A1 ρ β : Type} (o : Option ((A1) ⊕ ρ)) (F : A1 → Option β) (K : ρ → Option β) : Option β := match o with
  | none => none
  | some (.inl a1) => F a1
  | some (.inr r) => K r
theorem xs1E {A1 ρ β : Type} {o : Option ((A1) ⊕ ρ)} {F : A1 → Option β} {K : ρ → Option β} {E : β} {G : Prop} (h : xs1 o F K = some E) (k1 : ∀ a1, o = some (.inl a1) → F a1 = some E → G) (k2 : ∀ r, o = some (.inr r) → K r = some E → G) : G := by
  cases o with
  | none => cases h
  | some q =>
    cases q with
    | inl q => exact k1 q rfl h
    | inr r => exact k2 r rfl h
def xs2 {A1 A2 ρ β : Type} (o : Option ((A1 × A2) ⊕ ρ)) (F : A1 → A2 → Option β) (K : ρ → Option β) : Option β := match o with
  | none => none
  | some (.inl (a1, a2)) => F a1 a2
  | some (.inr r) => K r
theorem xs2E {A1 A2 ρ β : Type} {o : Option ((A1 × A2) ⊕ ρ)} {F : A1 → A2 → Option β} {K : ρ → Option β} {E : β} {G : Prop} (h : xs2 o F K = some E) (k1 : ∀ a1 a2, o = some (.inl (a1, a2)) → F a1 a2 = some E → G) (k2 : ∀ r, o = some (.inr r) → K r = some E → G) : G := by
  cases o with
  | none => cases h
  | some q =>
    cases q with
    | inl q => obtain ⟨a1, a2⟩ := q; exact k1 a1 a2 rfl h
    | inr r => exact k2 r rfl h
def xs3 {A1 A2 A3 ρ β : Type} (o : Option ((A1 × A2 × A3) ⊕ ρ)) (F : A1 → A2 → A3 → Option β) (K : ρ → Option β) : Option β := match o with
  | none => none
  | some (.inl (a1, a2, a3)) => F a1 a2 a3
  | some (.inr r) => K r
theorem xs3E {A1 A2 A3 ρ β : Type} {o : Option ((A1 × A2 × A3) ⊕ ρ)} {F : A1 → A2 → A3 → Option β} {K : ρ → Option β} {E : β} {G : Prop} (h : xs3 o F K = some E) (k1 : ∀ a1 a2 a3, o = some (.inl (a1, a2, a3)) → F a1 a2 a3 = some E → G) (k2 : ∀ r, o = some (.inr r) → K r = some E → G) : G := by
  cases o with
  | none => cases h
  | some q =>
    cases q with
    | inl q => obtain ⟨a1, a2, a3⟩ := q; exact k1 a1 a2 a3 rfl h
    | inr r => exact k2 r rfl h
def xs4 {A1 A2 A3 A4 ρ β : Type} (o : Option ((A1 × A2 × A3 × A4) ⊕ ρ)) (F : A1 → A2 → A3 → A4 → Option β) (K : ρ → Option β) : Option β := match o with
  | none => none
  | some (.inl (a1, a2, a3, a4)) => F a1 a2 a3 a4
  | some (.inr r) => K r
theorem xs4E {A1 A2 A3 A4 ρ β : Type} {o : Option ((A1 × A2 × A3 × A4) ⊕ ρ)} {F : A1 → A2 → A3 → A4 → Option β} {K : ρ → Option β} {E : β} {G : Prop} (h : xs4 o F K = some E) (k1 : ∀ a1 a2 a3 a4, o = some (.inl (a1, a2, a3, a4)) → F a1 a2 a3 a4 = some E → G) (k2 : ∀ r, o = some (.inr r) → K r = some E → G) : G := by
  cases o with
  | none => cases h
  | some q =>
    cases q with
    | inl q => obtain ⟨a1, a2, a3, a4⟩ := q; exact k1 a1 a2 a3 a4 rfl h
    | inr r => exact k2 r rfl h
def xs5 {A1 A2 A3 A4 A5 ρ β : Type} (o : Option ((A1 × A2 × A3 × A4 × A5) ⊕ ρ)) (F : A1 → A2 → A3 → A4 → A5 → Option β) (K : ρ → Option β) : Option β := match o with
  | none => none
  | some (.inl (a1, a2, a3, a4, a5)) => F a1 a2 a3 a4 a5
  | some (.inr r) => K r
theorem xs5E {A1 A2 A3 A4 A5 ρ β : Type} {o : Option ((A1 × A2 × A3 × A4 × A5) ⊕ ρ)} {F : A1 → A2 → A3 → A4 → A5 → Option β} {K : ρ → Option β} {E : β} {G : Prop} (h : xs5 o F K = some E) (k1 : ∀ a1 a2 a3 a4 a5, o = some (.inl (a1, a2, a3, a4, a5)) → F a1 a2 a3 a4 a5 = some E → G) (k2 : ∀ r, o = some (.inr r) → K r = some E → G) : G := by
  cases o with
  | none => cases h
  | some q =>
    cases q with
    | inl q => obtain ⟨a1, a2, a3, a4, a5⟩ := q; exact k1 a1 a2 a3 a4 a5 rfl h
    | inr r => exact k2 r rfl h
def xs6 {A1 A2 A3 A4 A5 A6 ρ β : Type} (o : Option ((A1 × A2 × A3 × A4 × A5 × A6) ⊕ ρ)) (F : A1 → A2 → A3 → A4 → A5 → A6 → Option β) (K : ρ → Option β) : Option β := match o with
  | none => none
  | some (.inl (a1, a2, a3, a4, a5, a6)) => F a1 a2 a3 a4 a5 a6
  | some (.inr r) => K r
theorem xs6E {A1 A2 A3 A4 A5 A6 ρ β : Type} {o : Option ((A1 × A2 × A3 × A4 × A5 × A6) ⊕ ρ)} {F : A1 → A2 → A3 → A4 → A5 → A6 → Option β} {K : ρ → Option β} {E : β} {G : Prop} (h : xs6 o F K = some E) (k1 : ∀ a1 a2 a3 a4 a5 a6, o = some (.inl (a1, a2, a3, a4, a5, a6)) → F a1 a2 a3 a4 a5 a6 = some E → G) (k2 : ∀ r, o = some (.inr r) → K r = some E → G) : G := by
  cases o with
  | none => cases h
  | some q =>
    cases q with
    | inl q => obtain ⟨a1, a2, a3, a4, a5, a6⟩ := q; exact k1 a1 a2 a3 a4 a5 a6 rfl h
    | inr r => exact k2 r rfl h
def xs7 {A1 A2 A3 A4 A5 A6 A7 ρ β : Type} (o : Option ((A1 × A2 × A3 × A4 × A5 × A6 × A7) ⊕ ρ)) (F : A1 → A2 → A3 → A4 → A5 → A6 → A7 → Option β) (K : ρ → Option β) : Option β := match o with
  | none => none
  | some (.inl (a1, a2, a3, a4, a5, a6, a7)) => F a1 a2 a3 a4 a5 a6 a7
  | some (.inr r) => K r
theorem xs7E {A1 A2 A3 A4 A5 A6 A7 ρ β : Type} {o : Option ((A1 × A2 × A3 × A4 × A5 × A6 × A7) ⊕ ρ)} {F : A1 → A2 → A3 → A4 → A5 → A6 → A7 → Option β} {K : ρ → Option β} {E : β} {G : Prop} (h : xs7 o F K = some E) (k1 : ∀ a1 a2 a3 a4 a5 a6 a7, o = some (.inl (a1, a2, a3, a4, a5, a6, a7)) → F a1 a2 a3 a4 a5 a6 a7 = some E → G) (k2 : ∀ r, o = some (.inr r) → K r = some E → G) : G := by
  cases o with
  | none => cases h
  | some q =>
    cases q with
    | inl q => obtain ⟨a1, a2, a3, a4, a5, a6, a7⟩ := q; exact k1 a1 a2 a3 a4 a5 a6 a7 rfl h
    | inr r => exact k2 r rfl h
def xs8 {A1 A2 A3 A4 A5 A6 A7 A8 ρ β : Type} (o : Option ((A1 × A2 × A3 × A4 × A5 × A6 × A7 × A8) ⊕ ρ)) (F : A1 → A2 → A3 → A4 → A5 → A6 → A7 → A8 → Option β) (K : ρ → Option β) : Option β := match o with
  | none => none
  | some (.inl (a1, a2, a3, a4, a5, a6, a7, a8)) => F a1 a2 a3 a4 a5 a6 a7 a8
  | some (.inr r) => K r
theorem xs8E {A1 A2 A3 A4 A5 A6 A7 A8 ρ β : Type} {o : Option ((A1 × A2 × A3 × A4 × A5 × A6 × A7 × A8) ⊕ ρ)} {F : A1 → A2 → A3 → A4 → A5 → A6 → A7 → A8 → Option β} {K : ρ → Option β} {E : β} {G : Prop} (h : xs8 o F K = some E) (k1 : ∀ a1 a2 a3 a4 a5 a6 a7 a8, o = some (.inl (a1, a2, a3, a4, a5, a6, a7, a8)) → F a1 a2 a3 a4 a5 a6 a7 a8 = some E → G) (k2 : ∀ r, o = some (.inr r) → K r = some E → G) : G := by
  cases o with
  | none => cases h
  | some q =>
    cases q with
    | inl q => obtain ⟨a1, a2, a3, a4, a5, a6, a7, a8⟩ := q; exact k1 a1 a2 a3 a4 a5 a6 a7 a8 rfl h
    | inr r => exact k2 r rfl h
def xs9 {A1 A2 A3 A4 A5 A6 A7 A8 A9 ρ β : Type} (o : Option ((A1 × A2 × A3 × A4 × A5 × A6 × A7 × A8 × A9) ⊕ ρ)) (F : A1 → A2 → A3 → A4 → A5 → A6 → A7 → A8 → A9 → Option β) (K : ρ → Option β) : Option β := match o with
  | none => none
  | some (.inl (a1, a2, a3, a4, a5, a6, a7, a8, a9)) => F a1 a2 a3 a4 a5 a6 a7 a8 a9
  | some (.inr r) => K r
theorem xs9E {A1 A2 A3 A4 A5 A6 A7 A8 A9 ρ β : Type} {o : Option ((A1 × A2 × A3 × A4 × A5 × A6 × A7 × A8 × A9) ⊕ ρ)} {F : A1 → A2 → A3 → A4 → A5 → A6 → A7 → A8 → A9 → Option β} {K : ρ → Option β} {E : β} {G : Prop} (h : xs9 o F K = some E) (k1 : ∀ a1 a2 a3 a4 a5 a6 a7 a8 a9, o = some (.inl (a1, a2, a3, a4, a5, a6, a7, a8, a9)) → F a1 a2 a3 a4 a5 a6 a7 a8 a9 = some E → G) (k2 : ∀ r, o = some (.inr r) → K r = some E → G) : G := by
  cases o with
  | none => cases h
  | some q =>
    cases q with
    | inl q => obtain ⟨a1, a2, a3, a4, a5, a6, a7, a8, a9⟩ := q; exact k1 a1 a2 a3 a4 a5 a6 a7 a8 a9 rfl h
    | inr r => exact k2 r rfl h
def xs10 {A1 A2 A3 A4 A5 A6 A7 A8 A9 A10 ρ β : Type} (o : Option ((A1 × A2 × A3 × A4 × A5 × A6 × A7 × A8 × A9 × A10) ⊕ ρ)) (F : A1 → A2 → A3 → A4 → A5 → A6 → A7 → A8 → A9 → A10 → Option β) (K : ρ → Option β) : Option β := match o with
  | none => none
  | some (.inl (a1, a2, a3, a4, a5, a6, a7, a8, a9, a10)) => F a1 a2 a3 a4 a5 a6 a7 a8 a9 a10
  | some (.inr r) => K r
theorem xs10E {A1 A2 A3 A4 A5 A6 A7 A8 A9 A10 ρ β : Type} {o : Option ((A1 × A2 × A3 × A4 × A5 × A6 × A7 × A8 × A9 × A10) ⊕ ρ)} {F : A1 → A2 → A3 → A4 → A5 → A6 → A7 → A8 → A9 → A10 → Option β} {K : ρ → Option β} {E : β} {G : Prop} (h : xs10 o F K = some E) (k1 : ∀ a1 a2 a3 a4 a5 a6 a7 a8 a9 a10, o = some (.inl (a1, a2, a3, a4, a5, a6, a7, a8, a9, a10)) → F a1 a2 a3 a4 a5 a6 a7 a8 a9 a10 = some E → G) (k2 : ∀ r, o = some (.inr r) → K r = some E → G) : G := by
  cases o with
  | none => cases h
  | some q =>
    cases q with
    | inl q => obtain ⟨a1, a2, a3, a4, a5, a6, a7, a8, a9, a10⟩ := q; exact k1 a1 a2 a3 a4 a5 a6 a7 a8 a9 a10 rfl h
    | inr r => exact k2 r rfl h
def xs11 {A1 A2 A3 A4 A5 A6 A7 A8 A9 A10 A11 ρ β : Type} (o : Option ((A1 × A2 × A3 × A4 × A5 × A6 × A7 × A8 × A9 × A10 × A11) ⊕ ρ)) (F : A1 → A2 → A3 → A4 → A5 → A6 → A7 → A8 → A9 → A10 → A11 → Option β) (K : ρ → Option β) : Option β := match o with
  | none => none
  | some (.inl (a1, a2, a3, a4, a5, a6, a7, a8, a9, a10, a11)) => F a1 a2 a3 a4 a5 a6 a7 a8 a9 a10 a11
  | some (.inr r) => K r
theorem xs11E {A1 A2 A3 A4 A5 A6 A7 A8 A9 A10 A11 ρ β : Type} {o : Option ((A1 × A2 × A3 × A4 × A5 × A6 × A7 × A8 × A9 × A10 × A11) ⊕ ρ)} {F : A1 → A2 → A3 → A4 → A5 → A6 → A7 → A8 → A9 → A10 → A11 → Option β} {K : ρ → Option β} {E : β} {G : Prop} (h : xs11 o F K = some E) (k1 : ∀ a1 a2 a3 a4 a5 a6 a7 a8 a9 a10 a11, o = some (.inl (a1, a2, a3, a4, a5, a6, a7, a8, a9, a10, a11)) → F a1 a2 a3 a4 a5 a6 a7 a8 a9 a10 a11 = some E → G) (k2 : ∀ r, o = some (.inr r) → K r = some E → G) : G := by
  cases o with
  | none => cases h
  | some q =>
    cases q with
    | inl q => obtain ⟨a1, a2, a3, a4, a5, a6, a7, a8, a9, a10, a11⟩ := q; exact k1 a1 a2 a3 a4 a5 a6 a7 a8 a9 a10 a11 rfl h
    | inr r => exact k2 r rfl h
def xs12 {A1 A2 A3 A4 A5 A6 A7 A8 A9 A10 A11 A12 ρ β : Type} (o : Option ((A1 × A2 × A3 × A4 × A5 × A6 × A7 × A8 × A9 × A10 × A11 × A12) ⊕ ρ)) (F : A1 → A2 → A3 → A4 → A5 → A6 → A7 → A8 → A9 → A10 → A11 → A12 → Option β) (K : ρ → Option β) : Option β := match o with
  | none => none
  | some (.inl (a1, a2, a3, a4, a5, a6, a7, a8, a9, a10, a11, a12)) => F a1 a2 a3 a4 a5 a6 a7 a8 a9 a10 a11 a12
  | some (.inr r) => K r
theorem xs12E {A1 A2 A3 A4 A5 A6 A7 A8 A9 A10 A11 A12 ρ β : Type} {o : Option ((A1 × A2 × A3 × A4 × A5 × A6 × A7 × A8 × A9 × A10 × A11 × A12) ⊕ ρ)} {F : A1 → A2 → A3 → A4 → A5 → A6 → A7 → A8 → A9 → A10 → A11 → A12 → Option β} {K : ρ → Option β} {E : β} {G : Prop} (h : xs12 o F K = some E) (k1 : ∀ a1 a2 a3 a4 a5 a6 a7 a8 a9 a10 a11 a12, o = some (.inl (a1, a2, a3, a4, a5, a6, a7, a8, a9, a10, a11, a12)) → F a1 a2 a3 a4 a5 a6 a7 a8 a9 a10 a11 a12 = some E → G) (k2 : ∀ r, o = some (.inr r) → K r = some E → G) : G := by
  cases o with
  | none => cases h
  | some q =>
    cases q with
    | inl q => obtain ⟨a1, a2, a3, a4, a5, a6, a7, a8, a9, a10, a11, a12⟩ := q; exact k1 a1 a2 a3 a4 a5 a6 a7 a8 a9 a10 a11 a12 rfl h
    | inr r => exact k2 r rfl h
def xqR (S : xS) (M : xM) (rv0 : Option xV) : Option xV → xS → xM → Prop := fun rv S' M' => rv = rv0 ∧ S' = S ∧ M' = M
theorem xqR_me {S : xS} {M : xM} {rv : Option xV} : xqR S M rv rv S M := ⟨rfl, rfl, rfl⟩
theorem xm {ls : List (Nat × xV)} {q : Nat × xV} (k : Nat) (h : ls[k]? = some q) : q ∈ ls := List.mem_of_getElem? h
section VT
variable {Y Y' : xY} {d ca sl pc n idx : Nat} {ls ls' : List (Nat × xV)} {st st0 as : List xV} {S : xS} {M M2 : xM} {Q : Option xV → xS → xM → Prop}
theorem V.pick (ks : List Nat) (h : ks.filterMap (fun k => ls[k]?) = ls') (k : V Y d ca sl pc ls' st S M Q) : V Y d ca sl pc ls st S M Q := by
  refine V.sub k (fun q hq => ?_)
  subst h
  obtain ⟨i, -, hi⟩ := List.mem_filterMap.mp hq
  exact List.mem_of_getElem? hi
theorem T_iald {α : Type} {E : α} {o n : Nat} {nI i : Int} {rs : xF} {F : Int → Option α} (dg : decode Y.2.1 pc = .ok (.iaload, 1)) (ho : S[o]? = some (100, n, rs)) (hn : (n : Int) = nI) (h : xrd M o nI i F = some E) (k : ∀ v, F v = some E → V Y d ca sl (pc + 1) ls (vI v :: st) S M Q) : V Y d ca sl pc ls (vI i :: vR (some o) :: st) S M Q := by
  subst hn
  obtain ⟨hc, h2⟩ := xrdE h
  exact V_iald0 dg ho hc (k _ h2)
theorem T_iast {α : Type} {E : α} {o n : Nat} {nI i x : Int} {rs : xF} {F : xM → Option α} (dg : decode Y.2.1 pc = .ok (.iastore, 1)) (ho : S[o]? = some (100, n, rs)) (hn : (n : Int) = nI) (h : xwt M o nI i x F = some E) (k : ∀ M2, F M2 = some E → V Y d ca sl (pc + 1) ls st S M2 Q) : V Y d ca sl pc ls (vI x :: vI i :: vR (some o) :: st) S M Q := by
  subst hn
  obtain ⟨hc, h2⟩ := xwtE h
  exact V_iast0 dg ho hc (k _ h2)
theorem T_zald {α : Type} {E : α} {o n : Nat} {nI i : Int} {rs : xF} {F : Int → Option α} (dg : decode Y.2.1 pc = .ok (.baload, 1)) (ho : S[o]? = some (102, n, rs)) (hn : (n : Int) = nI) (h : xrd M o nI i F = some E) (k : ∀ v, F v = some E → V Y d ca sl (pc + 1) ls (vI v :: st) S M Q) : V Y d ca sl pc ls (vI i :: vR (some o) :: st) S M Q := by
  subst hn
  obtain ⟨hc, h2⟩ := xrdE h
  exact V_zald0 dg ho hc (k _ h2)
theorem T_zast {α : Type} {E : α} {o n : Nat} {nI i x : Int} {b : Bool} {rs : xF} {F : xM → Option α} (dg : decode Y.2.1 pc = .ok (.bastore, 1)) (ho : S[o]? = some (102, n, rs)) (hx : x = b2i b) (hn : (n : Int) = nI) (h : xwt M o nI i x F = some E) (k : ∀ M2, F M2 = some E → V Y d ca sl (pc + 1) ls st S M2 Q) : V Y d ca sl pc ls (vI x :: vI i :: vR (some o) :: st) S M Q := by
  subst hn
  obtain ⟨hc, h2⟩ := xwtE h
  exact V_zast0 dg ho hx hc (k _ h2)
theorem T_cald {α : Type} {E : α} {o n : Nat} {nI i : Int} {rs : xF} {F : Int → Option α} (dg : decode Y.2.1 pc = .ok (.caload, 1)) (ho : S[o]? = some (103, n, rs)) (hn : (n : Int) = nI) (h : xrd M o nI i F = some E) (k : ∀ v, F v = some E → V Y d ca sl (pc + 1) ls (vI v :: st) S M Q) : V Y d ca sl pc ls (vI i :: vR (some o) :: st) S M Q := by
  subst hn
  obtain ⟨hc, h2⟩ := xrdE h
  exact V_cald0 dg ho hc (k _ h2)
theorem T_cast {α : Type} {E : α} {o n : Nat} {nI i x : Int} {rs : xF} {F : xM → Option α} (dg : decode Y.2.1 pc = .ok (.castore, 1)) (ho : S[o]? = some (103, n, rs)) (hx : xchr x = x) (hn : (n : Int) = nI) (h : xwt M o nI i x F = some E) (k : ∀ M2, F M2 = some E → V Y d ca sl (pc + 1) ls st S M2 Q) : V Y d ca sl pc ls (vI x :: vI i :: vR (some o) :: st) S M Q := by
  subst hn
  obtain ⟨hc, h2⟩ := xwtE h
  exact V_cast0 dg ho hx hc (k _ h2)
theorem T_lald {α : Type} {E : α} {o n : Nat} {nI i : Int} {rs : xF} {F : Int → Option α} (dg : decode Y.2.1 pc = .ok (.laload, 1)) (ho : S[o]? = some (101, n, rs)) (hn : (n : Int) = nI) (h : xrd M o nI i F = some E) (k : ∀ v, F v = some E → V Y d ca sl (pc + 1) ls (vL v :: st) S M Q) : V Y d ca sl pc ls (vI i :: vR (some o) :: st) S M Q := by
  obtain ⟨hc, h⟩ := xrdE h
  exact V_lald (X := F (M o (wr i))) (N0 := none) (E := some E) dg ho hn (by rw [if_pos hc]; exact h) (by simp) (fun _ h => k _ h)
theorem T_last {α : Type} {E : α} {o n : Nat} {nI i x : Int} {rs : xF} {F : xM → Option α} (dg : decode Y.2.1 pc = .ok (.lastore, 1)) (ho : S[o]? = some (101, n, rs)) (hn : (n : Int) = nI) (h : xwt M o nI i x F = some E) (k : ∀ M2, F M2 = some E → V Y d ca sl (pc + 1) ls st S M2 Q) : V Y d ca sl pc ls (vL x :: vI i :: vR (some o) :: st) S M Q := by
  obtain ⟨hc, h⟩ := xwtE h
  exact V_last (X := F (xup M o (wr i) x)) (N0 := none) (E := some E) dg ho hn (by rw [if_pos hc]; exact h) (by simp) (fun _ h => k _ h)
theorem T_tald {α : Type} {E : α} {q : Nat} {nI i : Int} {tb : List Int} {F : Int → Option α} (dg : decode Y.2.1 pc = .ok (.iaload, 1)) (hz : (q, tb) ∈ xTI) (hn : (tb.length : Int) = nI) (h : xtb tb nI i F = some E) (k : ∀ v, F v = some E → V Y d ca sl (pc + 1) ls (vI v :: st) S M Q) : V Y d ca sl pc ls (vI i :: vS q :: st) S M Q := by
  obtain ⟨hc, h⟩ := xtbE h
  exact V_tald (X := F (tb.getD (wr i).toNat 0)) (N0 := none) (E := some E) dg hz hn (by rw [if_pos hc]; exact h) (by simp) (fun _ h => k _ h)
theorem T_putI {α : Type} {E : α} {ci k n o idx : Nat} {kI x : Int} {rs : xF} {F : xM → α} (dg : decode Y.2.1 pc = .ok (.putfield idx, 3)) (hf : xFp Y.1.cls idx ci k .int false) (ho : S[o]? = some (ci, n, rs)) (hr : rs[k]? = some none) (hk : (k : Int) = kI) (h : xlet (xup M o kI x) F = E) (kk : ∀ M2, F M2 = E → V Y d ca sl (pc + 3) ls st S M2 Q) : V Y d ca sl pc ls (vI x :: vR (some o) :: st) S M Q := V_putI dg hf ho hr hk (kk _ h)
theorem T_putZ {α : Type} {E : α} {ci k n o idx : Nat} {kI x : Int} {b : Bool} {rs : xF} {F : xM → α} (dg : decode Y.2.1 pc = .ok (.putfield idx, 3)) (hf : xFp Y.1.cls idx ci k .boolean false) (ho : S[o]? = some (ci, n, rs)) (hr : rs[k]? = some none) (hk : (k : Int) = kI) (hx : x = b2i b) (h : xlet (xup M o kI x) F = E) (kk : ∀ M2, F M2 = E → V Y d ca sl (pc + 3) ls st S M2 Q) : V Y d ca sl pc ls (vI x :: vR (some o) :: st) S M Q := V_putZ dg hf ho hr hk hx (kk _ h)
theorem T_idiv {α : Type} {E : α} {a b : Int} {F : Option α} (dg : decode Y.2.1 pc = .ok (.idiv, 1)) (h : xnz b F = some E) (k : F = some E → V Y d ca sl (pc + 1) ls (vI (xdiv a b) :: st) S M Q) : V Y d ca sl pc ls (vI b :: vI a :: st) S M Q := V_idivK dg (xnzE h).1 (k (xnzE h).2)
theorem T_irem {α : Type} {E : α} {a b : Int} {F : Option α} (dg : decode Y.2.1 pc = .ok (.irem, 1)) (h : xnz b F = some E) (k : F = some E → V Y d ca sl (pc + 1) ls (vI (xrem a b) :: st) S M Q) : V Y d ca sl pc ls (vI b :: vI a :: st) S M Q := V_iremK dg (xnzE h).1 (k (xnzE h).2)
theorem T_iretb {α : Type} {E : α} {x : Int} {F : Bool → Option α} (dg : decode Y.2.1 pc = .ok (.ireturn, 1)) (hr : Y.2.2.2.1 = some .boolean) (h : xbl x F = some E) (hq : ∀ b, F b = some E → Q (some (vI (b2i b))) S M) : V Y d ca sl pc ls [vI x] S M Q := by
  obtain ⟨b, hx, h⟩ := xblE h
  have k := V_iretb (b := b) (Q := Q) (S := S) (M := M) (d := d) (ca := ca) (sl := sl) (ls := ls) dg hr rfl (hq b h)
  intro p l e R s m args below meth c H locs cells slots G cA sa A al lc mc ms Z C g1 g2 g3 g4 gz hs hl
  have k := k p l e R s m args below meth c H locs cells slots G cA sa A al lc mc ms Z C g1 g2 g3 g4 gz hs hl
  have e9 : Int32.ofInt (b2i b) = Int32.ofInt x := by rw [← hx, wr_of]
  have e8 : List.map (em al sa) [vI x] = List.map (em al sa) [vI (b2i b)] := by show [Value.int _] = [Value.int _]; rw [e9]
  rw [e8]
  exact k
theorem T_callSI {host : String} {r : Int} (dg : decode Y.2.1 pc = .ok (.invokestatic idx, 3)) (hy : xYok Y' n) (hlk : Cond.methodLink Y.1.cls idx Y'.1 ∈ xT) (hst : Cond.static Y'.1 ∈ xT) (hV : V Y' d 0 0 0 (xarg 0 as) [] S M (xqR S M2 (some (vI r)))) (hn : as.length = n) (harg : (as.map xcat).sum ≤ Y'.2.2.1) (he : as.reverse ++ st = st0) (hw : (st.map xcat).sum ≤ 8) (kk : V Y (d + 1) ca sl (pc + 3) ls (vI r :: st) S M2 Q) : V Y (d + 1) ca sl pc ls st0 S M Q := by
  subst he
  exact V_callS dg hy hn harg hw hlk hst hV (fun rv S' M' h => h.2.1) (fun rv M' h => by obtain ⟨h1, -, h3⟩ := h; subst h1; subst h3; exact kk)
theorem T_callSL {host : String} {r : Int} (dg : decode Y.2.1 pc = .ok (.invokestatic idx, 3)) (hy : xYok Y' n) (hlk : Cond.methodLink Y.1.cls idx Y'.1 ∈ xT) (hst : Cond.static Y'.1 ∈ xT) (hV : V Y' d 0 0 0 (xarg 0 as) [] S M (xqR S M2 (some (vL r)))) (hn : as.length = n) (harg : (as.map xcat).sum ≤ Y'.2.2.1) (he : as.reverse ++ st = st0) (hw : (st.map xcat).sum ≤ 8) (kk : V Y (d + 1) ca sl (pc + 3) ls (vL r :: st) S M2 Q) : V Y (d + 1) ca sl pc ls st0 S M Q := by
  subst he
  exact V_callS dg hy hn harg hw hlk hst hV (fun rv S' M' h => h.2.1) (fun rv M' h => by obtain ⟨h1, -, h3⟩ := h; subst h1; subst h3; exact kk)
theorem T_callSv {host : String} (dg : decode Y.2.1 pc = .ok (.invokestatic idx, 3)) (hy : xYok Y' n) (hlk : Cond.methodLink Y.1.cls idx Y'.1 ∈ xT) (hst : Cond.static Y'.1 ∈ xT) (hV : V Y' d 0 0 0 (xarg 0 as) [] S M (xqR S M2 (none))) (hn : as.length = n) (harg : (as.map xcat).sum ≤ Y'.2.2.1) (he : as.reverse ++ st = st0) (hw : (st.map xcat).sum ≤ 8) (kk : V Y (d + 1) ca sl (pc + 3) ls (st) S M2 Q) : V Y (d + 1) ca sl pc ls st0 S M Q := by
  subst he
  exact V_callS dg hy hn harg hw hlk hst hV (fun rv S' M' h => h.2.1) (fun rv M' h => by obtain ⟨h1, -, h3⟩ := h; subst h1; subst h3; exact kk)
theorem T_callSNI {host : String} {r : Int} (dg : decode Y.2.1 pc = .ok (.invokestatic idx, 3)) (hy : xYok Y' n) (hlk : (Y.1.cls, idx, Y'.1, host) ∈ xNM) (hst : Cond.static Y'.1 ∈ xT) (hV : V Y' d 0 0 0 (xarg 0 as) [] S M (xqR S M2 (some (vI r)))) (hn : as.length = n) (harg : (as.map xcat).sum ≤ Y'.2.2.1) (he : as.reverse ++ st = st0) (hw : (st.map xcat).sum ≤ 8) (kk : V Y (d + 1) ca sl (pc + 3) ls (vI r :: st) S M2 Q) : V Y (d + 1) ca sl pc ls st0 S M Q := by
  subst he
  exact V_callSN dg hy hn harg hw hlk hst hV (fun rv S' M' h => h.2.1) (fun rv M' h => by obtain ⟨h1, -, h3⟩ := h; subst h1; subst h3; exact kk)
theorem T_callSNL {host : String} {r : Int} (dg : decode Y.2.1 pc = .ok (.invokestatic idx, 3)) (hy : xYok Y' n) (hlk : (Y.1.cls, idx, Y'.1, host) ∈ xNM) (hst : Cond.static Y'.1 ∈ xT) (hV : V Y' d 0 0 0 (xarg 0 as) [] S M (xqR S M2 (some (vL r)))) (hn : as.length = n) (harg : (as.map xcat).sum ≤ Y'.2.2.1) (he : as.reverse ++ st = st0) (hw : (st.map xcat).sum ≤ 8) (kk : V Y (d + 1) ca sl (pc + 3) ls (vL r :: st) S M2 Q) : V Y (d + 1) ca sl pc ls st0 S M Q := by
  subst he
  exact V_callSN dg hy hn harg hw hlk hst hV (fun rv S' M' h => h.2.1) (fun rv M' h => by obtain ⟨h1, -, h3⟩ := h; subst h1; subst h3; exact kk)
theorem T_callSNv {host : String} (dg : decode Y.2.1 pc = .ok (.invokestatic idx, 3)) (hy : xYok Y' n) (hlk : (Y.1.cls, idx, Y'.1, host) ∈ xNM) (hst : Cond.static Y'.1 ∈ xT) (hV : V Y' d 0 0 0 (xarg 0 as) [] S M (xqR S M2 (none))) (hn : as.length = n) (harg : (as.map xcat).sum ≤ Y'.2.2.1) (he : as.reverse ++ st = st0) (hw : (st.map xcat).sum ≤ 8) (kk : V Y (d + 1) ca sl (pc + 3) ls (st) S M2 Q) : V Y (d + 1) ca sl pc ls st0 S M Q := by
  subst he
  exact V_callSN dg hy hn harg hw hlk hst hV (fun rv S' M' h => h.2.1) (fun rv M' h => by obtain ⟨h1, -, h3⟩ := h; subst h1; subst h3; exact kk)
theorem T_callVI {o ci nn : Nat} {rs : xF} {T : u_T} {N : Nat} {r : Int} (dg : decode Y.2.1 pc = .ok (.invokevirtual idx, 3)) (hy : xYok Y' n) (hcl : ci < 100 ∧ vwCl[ci]? = some (Y'.1.cls, T, N)) (hlk : Cond.methodLink Y.1.cls idx Y'.1 ∈ xT) (hin : Cond.instanceMethod Y'.1 ∈ xT ∧ Cond.selects Y'.1.cls Y'.1 Y'.1 ∈ xT) (ho : S[o]? = some (ci, nn, rs)) (hV : V Y' d 0 0 0 (xarg 0 (vR (some o) :: as)) [] S M (xqR S M2 (some (vI r)))) (hn : as.length = n) (harg : ((vR (some o) :: as).map xcat).sum ≤ Y'.2.2.1) (he : as.reverse ++ vR (some o) :: st = st0) (hw : (st.map xcat).sum ≤ 8) (kk : V Y (d + 1) ca sl (pc + 3) ls (vI r :: st) S M2 Q) : V Y (d + 1) ca sl pc ls st0 S M Q := by
  subst he
  exact V_callV dg hy hn harg hw ho hcl.1 hcl.2 hlk hin.1 hin.2 hV (fun rv S' M' h => h.2.1) (fun rv M' h => by obtain ⟨h1, -, h3⟩ := h; subst h1; subst h3; exact kk)
theorem T_callVL {o ci nn : Nat} {rs : xF} {T : u_T} {N : Nat} {r : Int} (dg : decode Y.2.1 pc = .ok (.invokevirtual idx, 3)) (hy : xYok Y' n) (hcl : ci < 100 ∧ vwCl[ci]? = some (Y'.1.cls, T, N)) (hlk : Cond.methodLink Y.1.cls idx Y'.1 ∈ xT) (hin : Cond.instanceMethod Y'.1 ∈ xT ∧ Cond.selects Y'.1.cls Y'.1 Y'.1 ∈ xT) (ho : S[o]? = some (ci, nn, rs)) (hV : V Y' d 0 0 0 (xarg 0 (vR (some o) :: as)) [] S M (xqR S M2 (some (vL r)))) (hn : as.length = n) (harg : ((vR (some o) :: as).map xcat).sum ≤ Y'.2.2.1) (he : as.reverse ++ vR (some o) :: st = st0) (hw : (st.map xcat).sum ≤ 8) (kk : V Y (d + 1) ca sl (pc + 3) ls (vL r :: st) S M2 Q) : V Y (d + 1) ca sl pc ls st0 S M Q := by
  subst he
  exact V_callV dg hy hn harg hw ho hcl.1 hcl.2 hlk hin.1 hin.2 hV (fun rv S' M' h => h.2.1) (fun rv M' h => by obtain ⟨h1, -, h3⟩ := h; subst h1; subst h3; exact kk)
theorem T_callVv {o ci nn : Nat} {rs : xF} {T : u_T} {N : Nat} (dg : decode Y.2.1 pc = .ok (.invokevirtual idx, 3)) (hy : xYok Y' n) (hcl : ci < 100 ∧ vwCl[ci]? = some (Y'.1.cls, T, N)) (hlk : Cond.methodLink Y.1.cls idx Y'.1 ∈ xT) (hin : Cond.instanceMethod Y'.1 ∈ xT ∧ Cond.selects Y'.1.cls Y'.1 Y'.1 ∈ xT) (ho : S[o]? = some (ci, nn, rs)) (hV : V Y' d 0 0 0 (xarg 0 (vR (some o) :: as)) [] S M (xqR S M2 (none))) (hn : as.length = n) (harg : ((vR (some o) :: as).map xcat).sum ≤ Y'.2.2.1) (he : as.reverse ++ vR (some o) :: st = st0) (hw : (st.map xcat).sum ≤ 8) (kk : V Y (d + 1) ca sl (pc + 3) ls (st) S M2 Q) : V Y (d + 1) ca sl pc ls st0 S M Q := by
  subst he
  exact V_callV dg hy hn harg hw ho hcl.1 hcl.2 hlk hin.1 hin.2 hV (fun rv S' M' h => h.2.1) (fun rv M' h => by obtain ⟨h1, -, h3⟩ := h; subst h1; subst h3; exact kk)
end VT
