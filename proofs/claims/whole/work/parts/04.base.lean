/-! abstract values, cells and worlds: what the walk of a method speaks of -/
abbrev xV : Type := Int ⊕ (Int ⊕ (Option Nat ⊕ Nat))
abbrev vI (x : Int) : xV := Sum.inl x
abbrev vL (x : Int) : xV := Sum.inr (Sum.inl x)
abbrev vR (o : Option Nat) : xV := Sum.inr (Sum.inr (Sum.inl o))
abbrev vS (k : Nat) : xV := Sum.inr (Sum.inr (Sum.inr k))
abbrev xF : Type := List (Option (Option Nat))
abbrev xS : Type := List (Nat × Nat × xF)
abbrev xM : Type := Nat → Int → Int
def xup (M : xM) (o : Nat) (i v : Int) : xM := fun a j => if a = o ∧ j = i then v else M a j
def wr (x : Int) : Int := (x + 2147483648) % 4294967296 - 2147483648
def wl (x : Int) : Int := (x + 9223372036854775808) % 18446744073709551616 - 9223372036854775808
def b2i (b : Bool) : Int := if b = true then 1 else 0
def em (al : List Nat) (sa : Nat → Nat) (v : xV) : Value := match v with
  | .inl x => .int (Int32.ofInt x)
  | .inr (.inl x) => .long (Int64.ofInt x)
  | .inr (.inr (.inl none)) => .null
  | .inr (.inr (.inl (some i))) => .ref (al.getD i 0)
  | .inr (.inr (.inr k)) => .ref (sa k)
/-- two words wide -/
def xw2 (v : xV) : Bool := match v with
  | .inr (.inl _) => true
  | _ => false
def xcat (v : xV) : Nat := if xw2 v then 2 else 1
theorem xcat_em (al : List Nat) (sa : Nat → Nat) (v : xV) : (em al sa v).category = xcat v := by
  rcases v with x | x | x | x
  · rfl
  · rfl
  · cases x <;> rfl
  · rfl
theorem wr_toInt (x : Int) : (Int32.ofInt x).toInt = wr x := by
  rw [Int32.toInt_ofInt]
  show Int.bmod x 4294967296 = _
  unfold wr
  rw [Int.bmod_def]
  split <;> omega
theorem wl_toInt (x : Int) : (Int64.ofInt x).toInt = wl x := by
  rw [Int64.toInt_ofInt]
  show Int.bmod x 18446744073709551616 = _
  unfold wl
  rw [Int.bmod_def]
  split <;> omega
theorem wr_rng (x : Int) : -2147483648 ≤ wr x ∧ wr x < 2147483648 := by unfold wr; omega
theorem wr_id {x : Int} (h1 : -2147483648 ≤ x) (h2 : x < 2147483648) : wr x = x := by unfold wr; omega
theorem wr_wr (x : Int) : wr (wr x) = wr x := wr_id (wr_rng x).1 (wr_rng x).2
theorem wr_of (x : Int) : Int32.ofInt (wr x) = Int32.ofInt x := by rw [← Int32.toInt_inj, wr_toInt, wr_toInt, wr_wr]
theorem wr_lt (a b : Int) : Int32.ofInt a < Int32.ofInt b ↔ wr a < wr b := by rw [Int32.lt_iff_toInt_lt, wr_toInt, wr_toInt]
theorem wr_le (a b : Int) : Int32.ofInt a ≤ Int32.ofInt b ↔ wr a ≤ wr b := by rw [Int32.le_iff_toInt_le, wr_toInt, wr_toInt]
theorem wr_eq (a b : Int) : Int32.ofInt a = Int32.ofInt b ↔ wr a = wr b := by rw [← Int32.toInt_inj, wr_toInt, wr_toInt]
theorem wl_lt (a b : Int) : Int64.ofInt a < Int64.ofInt b ↔ wl a < wl b := by rw [Int64.lt_iff_toInt_lt, wl_toInt, wl_toInt]
theorem wl_eq (a b : Int) : Int64.ofInt a = Int64.ofInt b ↔ wl a = wl b := by rw [← Int64.toInt_inj, wl_toInt, wl_toInt]
theorem wr_0 : wr 0 = 0 := by decide
theorem wr_clamp (x : Int) : (Int32.ofInt x).toNatClampNeg = (wr x).toNat := by show (Int32.ofInt x).toInt.toNat = _; rw [wr_toInt]
theorem wr_in {x : Int} {n : Nat} (h : 0 ≤ wr x ∧ wr x < (n : Int)) : vp_in (Int32.ofInt x) n := by
  rw [vp_in_iff, wr_toInt]
  exact h
theorem wr_clI {x : Int} {n : Nat} (h : 0 ≤ wr x ∧ wr x < (n : Int)) : (((Int32.ofInt x).toNatClampNeg : Nat) : Int) = wr x := by rw [wr_clamp]; omega
/-! operations -/
def xand (a b : Int) : Int := (Int32.ofInt a &&& Int32.ofInt b).toInt
def xor_ (a b : Int) : Int := (Int32.ofInt a ||| Int32.ofInt b).toInt
def xxor (a b : Int) : Int := (Int32.ofInt a ^^^ Int32.ofInt b).toInt
def xshl (a b : Int) : Int := (Int32.ofInt a <<< (Int32.ofInt b &&& 31)).toInt
def xshr (a b : Int) : Int := (Int32.ofInt a >>> (Int32.ofInt b &&& 31)).toInt
def xushr (a b : Int) : Int := ((Int32.ofInt a).toUInt32 >>> ((Int32.ofInt b).toUInt32 &&& Int32.toUInt32 31)).toInt32.toInt
def xdiv (a b : Int) : Int := (wr a).tdiv (wr b)
def xrem (a b : Int) : Int := (wr a).tmod (wr b)
def xchr (a : Int) : Int := a % 65536
def xlcmp (a b : Int) : Int := if wl a < wl b then -1 else if wl a = wl b then 0 else 1
theorem xdiv_of (a b : Int) : Int32.ofInt (xdiv a b) = Int32.ofInt a / Int32.ofInt b := by
  rw [← Int32.toInt_inj, Int32.toInt_div, Int32.toInt_ofInt, wr_toInt, wr_toInt]
  rfl
theorem xrem_of (a b : Int) : Int32.ofInt (xrem a b) = Int32.ofInt a - Int32.ofInt a / Int32.ofInt b * Int32.ofInt b := by
  have h : xrem a b = wr a - xdiv a b * wr b := by
    unfold xrem xdiv
    rw [Int.tmod_def, Int.mul_comm]
  rw [h, Int32.ofInt_sub, Int32.ofInt_mul, wr_of, wr_of, xdiv_of]
theorem xchr_of (a : Int) : ((Int32.ofInt a).toUInt32 % 65536).toInt32 = Int32.ofInt (xchr a) := by
  apply Int32.toBitVec.inj
  apply BitVec.eq_of_toNat_eq
  show ((Int32.ofInt a).toBitVec % 65536#32).toNat = (BitVec.ofInt 32 (xchr a)).toNat
  rw [BitVec.toNat_umod]
  show (BitVec.ofInt 32 a).toNat % 65536 = _
  rw [BitVec.toNat_ofInt, BitVec.toNat_ofInt]
  unfold xchr
  omega
/-! the cells of a world -/
def xrf (al : List Nat) (r : Option (Option Nat)) : Option Nat := match r with
  | some (some o) => some (al.getD o 0)
  | _ => none
def xfv (al : List Nat) (M : xM) (i k : Nat) (r : Option (Option Nat)) : Value := match r with
  | none => .int (Int32.ofInt (M i (k : Int)))
  | some none => .null
  | some (some o) => .ref (al.getD o 0)
def xfl (al : List Nat) (M : xM) (i : Nat) (rs : xF) : List Value := rs.mapIdx (fun k r => xfv al M i k r)
def xcell (cA : Nat → ClassId) (al : List Nat) (M : xM) (i : Nat) (sh : Nat × Nat × xF) : va_E :=
  if sh.1 < 100 then .inr (sh.1, xfl al M i sh.2.2)
  else if sh.1 = 101 then .inl (cA 101, sh.2.1, .inr (.inl (fun j => Int64.ofInt (M i (j : Int)))))
  else if sh.1 < 104 then .inl (cA sh.1, sh.2.1, .inl (fun j => Int32.ofInt (M i (j : Int))))
  else .inl (cA sh.1, sh.2.1, .inr (.inr (.inr (.inr (fun j => xrf al (sh.2.2.getD j none))))))
def xws (cA : Nat → ClassId) (al : List Nat) (S : xS) (M : xM) : va_W := S.mapIdx (fun i sh => (al.getD i 0, xcell cA al M i sh))
def xtys (cA : Nat → ClassId) : List (ClassId × FieldType) := [(cA 100, .int), (cA 101, .long), (cA 102, .boolean), (cA 103, .char), (cA 104, .object "TurnedIsland$Want"), (cA 105, .array .int)]
theorem xws_get {cA : Nat → ClassId} {al : List Nat} {S : xS} {M : xM} {o : Nat} {sh : Nat × Nat × xF} (h : S[o]? = some sh) : (xws cA al S M)[o]? = some (al.getD o 0, xcell cA al M o sh) := by
  unfold xws
  rw [List.getElem?_mapIdx, h]
  rfl
theorem xws_len {cA : Nat → ClassId} {al : List Nat} {S : xS} {M : xM} : (xws cA al S M).length = S.length := by
  unfold xws
  rw [List.length_mapIdx]
/-- a store in cell o changes cell o alone -/
theorem xws_up {cA : Nat → ClassId} {al : List Nat} {S : xS} {M : xM} {o : Nat} {sh : Nat × Nat × xF} (h : S[o]? = some sh) (i v : Int) : (xws cA al S M).set o (al.getD o 0, xcell cA al (xup M o i v) o sh) = xws cA al S (xup M o i v) := by
  apply List.ext_getElem?
  intro k
  by_cases hk : o = k
  · subst hk
    rw [xws_get h, List.getElem?_set_self (by rw [xws_len]; exact (List.getElem?_eq_some_iff.mp h).1)]
  · rw [List.getElem?_set_ne hk]
    unfold xws
    rw [List.getElem?_mapIdx, List.getElem?_mapIdx]
    cases S[k]? with
    | none => rfl
    | some sh2 =>
      show some _ = some _
      congr 2
      have e : ∀ j : Int, xup M o i v k j = M k j := fun j => if_neg (fun q => hk q.1.symm)
      unfold xcell xfl xfv
      simp only [e]
/-- a store of a reference in a field of cell o -/
theorem xws_setR {cA : Nat → ClassId} {al : List Nat} {S : xS} {M : xM} {o ci n : Nat} {rs : xF} (h : S[o]? = some (ci, n, rs)) (rs' : xF) : (xws cA al S M).set o (al.getD o 0, xcell cA al M o (ci, n, rs')) = xws cA al (S.set o (ci, n, rs')) M := by
  apply List.ext_getElem?
  intro k
  have hl := (List.getElem?_eq_some_iff.mp h).1
  by_cases hk : o = k
  · subst hk
    rw [List.getElem?_set_self (by rw [xws_len]; exact hl), xws_get (List.getElem?_set_self hl)]
  · rw [List.getElem?_set_ne hk]
    unfold xws
    rw [List.getElem?_mapIdx, List.getElem?_mapIdx, List.getElem?_set_ne hk]
theorem xcell_O {cA : Nat → ClassId} {al : List Nat} {M : xM} {i ci n : Nat} {rs : xF} (h : ci < 100) : xcell cA al M i (ci, n, rs) = .inr (ci, xfl al M i rs) := if_pos h
theorem xfl_get {al : List Nat} {M : xM} {i k : Nat} {rs : xF} {r : Option (Option Nat)} (h : rs[k]? = some r) : (xfl al M i rs)[k]? = some (xfv al M i k r) := by
  unfold xfl
  rw [List.getElem?_mapIdx, h]
  rfl
theorem xfl_len {al : List Nat} {M : xM} {i : Nat} {rs : xF} : (xfl al M i rs).length = rs.length := by
  unfold xfl
  rw [List.length_mapIdx]
theorem xfl_up {al : List Nat} {M : xM} {i k : Nat} {rs : xF} (h : rs[k]? = some none) (v : Int) : (xfl al M i rs).set k (.int (Int32.ofInt v)) = xfl al (xup M i (k : Int) v) i rs := by
  apply List.ext_getElem?
  intro j
  by_cases hk : k = j
  · subst hk
    rw [List.getElem?_set_self (by rw [xfl_len]; exact (List.getElem?_eq_some_iff.mp h).1), xfl_get h]
    show _ = some (Value.int (Int32.ofInt (xup M i k v i k)))
    rw [show xup M i (k : Int) v i (k : Int) = v from if_pos ⟨rfl, rfl⟩]
  · rw [List.getElem?_set_ne hk]
    unfold xfl
    rw [List.getElem?_mapIdx, List.getElem?_mapIdx]
    cases rs[j]? with
    | none => rfl
    | some r =>
      show some _ = some _
      congr 1
      unfold xfv
      rw [show xup M i (k : Int) v i (j : Int) = M i (j : Int) from if_neg (fun q => hk (by have := q.2; omega))]
theorem xfl_setR {al : List Nat} {M : xM} {i k : Nat} {rs : xF} {r0 : Option (Option Nat)} (h : rs[k]? = some r0) (r : Option Nat) : (xfl al M i rs).set k (xfv al M i k (some r)) = xfl al M i (rs.set k (some r)) := by
  have hl := (List.getElem?_eq_some_iff.mp h).1
  apply List.ext_getElem?
  intro j
  by_cases hk : k = j
  · subst hk
    rw [List.getElem?_set_self (by rw [xfl_len]; exact hl), xfl_get (List.getElem?_set_self hl)]
  · rw [List.getElem?_set_ne hk]
    unfold xfl
    rw [List.getElem?_mapIdx, List.getElem?_mapIdx, List.getElem?_set_ne hk]
