/-! what a want comes to -/
def sStep (F : Int → Int) (q : Int × Int) (st : List Int) : List Int :=
  if q.1 < 13 then (if q.1 = 0 then q.2 else F q.1) :: st
  else if q.1 = 16 then (match st with
    | a :: r => xdiv a q.2 :: r
    | [] => [])
  else if q.1 = 20 then (match st with
    | a :: r => (1 - a) :: r
    | [] => [])
  else (match st with
    | b :: a :: r => fX12_both q.1 a b :: r
    | _ => [])
def sRun (F : Int → Int) : List (Int × Int) → List Int → List Int
  | [], st => st
  | q :: l, st => sRun F l (sStep F q st)
def sF (W : Int → Int) (place day made s : Int) : Int :=
  if s = 1 then place else if s = 5 then day / 30 % 12 else if s = 6 then day else if s = 7 then made else if s = 2 ∨ s = 3 ∨ s = 4 then W (620 + 24 * (12 * (s - 2) + day / 30 % 12) + place) else 0
def sL (W : Int → Int) (k i : Int) : Nat → List (Int × Int)
  | 0 => []
  | n + 1 => (W (2540 + 820 * k + 2 * i), W (2540 + 820 * k + 2 * i + 1)) :: sL W k (i + 1) n
def sFr (W : Int → Int) (k i : Int) : Int := W (2330 + 16 * k + i)
def sMi (W : Int → Int) (k i : Int) : Int := W (2400 + 16 * k + i)
def sTo (W : Int → Int) (k i : Int) : Int := W (2470 + 16 * k + i)
def sVa (W : Int → Int) (k i : Int) : List (Int × Int) := sL W k (sFr W k i) (sMi W k i - sFr W k i).toNat
def sCo (W : Int → Int) (k i : Int) : List (Int × Int) := sL W k (sMi W k i) (sTo W k i - sMi W k i).toNat
def sLine (W : Int → Int) (F : Int → Int) (k i : Int) : Int :=
  if sTo W k i = sMi W k i ∨ wr ((sRun F (sCo W k i) []).headD 0) = 1 then wr ((sRun F (sVa W k i) []).headD 0) else 0
def sSum (W : Int → Int) (F : Int → Int) (k : Int) : Nat → Int
  | 0 => 0
  | n + 1 => sSum W F k n + sLine W F k n
def sClamp (v : Int) : Int := if v < -9999 then -9999 else if 9999 < v then 9999 else v
def sVal (W : Int → Int) (k place day made : Int) : Int := sClamp (sSum W (sF W place day made) k (W (2320 + k)).toNat)
def sWorth (W : Int → Int) (p day angle turn : Int) : Int :=
  if W (22 + 4 * p) = 4 then 0 else sVal W (W (22 + 4 * p)) ((W (20 + 4 * p) + angle) % W 0) day (if turn = 0 then 0 else 1)
theorem sClamp_rng (v : Int) : -9999 ≤ sClamp v ∧ sClamp v ≤ 9999 := by unfold sClamp; split <;> (try split) <;> omega
theorem sWorth_rng (W : Int → Int) (p day angle turn : Int) : -9999 ≤ sWorth W p day angle turn ∧ sWorth W p day angle turn ≤ 9999 := by
  unfold sWorth
  split
  · omega
  · exact sClamp_rng _
/-- steps typed: a number is false, a yes or no is true -/
def tyS (q : Int × Int) (h : List Bool) : Option (List Bool) :=
  if q.1 < 13 then (if (0 ≤ q.1 ∧ q.1 ≤ 7) ∧ (q.1 = 0 → 0 ≤ q.2 ∧ q.2 ≤ 9999) ∧ h.length < 26 then some (false :: h) else none)
  else if q.1 = 16 then (match h with
    | false :: r => if 0 < q.2 ∧ q.2 ≤ 9999 then some (false :: r) else none
    | _ => none)
  else if q.1 = 20 then (match h with
    | true :: r => some (true :: r)
    | _ => none)
  else if q.1 ≤ 15 then (match h with
    | false :: false :: r => some (false :: r)
    | _ => none)
  else if q.1 ≤ 19 then (match h with
    | false :: false :: r => some (true :: r)
    | _ => none)
  else if q.1 ≤ 22 then (match h with
    | true :: true :: r => some (true :: r)
    | _ => none)
  else none
def tyR : List (Int × Int) → List Bool → Option (List Bool)
  | [], h => some h
  | q :: l, h => match tyS q h with
    | none => none
    | some h' => tyR l h'
def gLine (W : Int → Int) (k i : Int) : Prop :=
  (0 ≤ sFr W k i ∧ sFr W k i ≤ sMi W k i ∧ sMi W k i ≤ sTo W k i ∧ sTo W k i ≤ 405) ∧ tyR (sVa W k i) [] = some [false] ∧ (sTo W k i = sMi W k i ∨ tyR (sCo W k i) [] = some [true])
def gWant (W : Int → Int) (k : Int) : Prop := (0 ≤ W (2320 + k) ∧ W (2320 + k) ≤ 16) ∧ ∀ i, 0 ≤ i → i < W (2320 + k) → gLine W k i
/-! the same as code -/
def trK (s : Int) : Int := if s ≤ 15 then s + 1 else if s ≤ 19 then s + 3 else 31 - s
def trS (q : Int × Int) : List Int := if q.1 = 0 then [q.2] else if q.1 ≤ 7 then [-q.1] else if q.1 = 16 then [q.2, -18] else [-(trK q.1) - 1]
def trL : List (Int × Int) → List Int
  | [] => []
  | q :: l => trS q ++ trL l
def cLine (W : Int → Int) (k i : Int) : List Int := trL (sVa W k i) ++ (trL (sCo W k i) ++ [if sTo W k i = sMi W k i then -14 else -9])
def cAll (W : Int → Int) (k : Int) : Nat → List Int
  | 0 => []
  | n + 1 => cAll W k n ++ cLine W k n
def cOf (W : Int → Int) (k : Int) : List Int := cAll W k (W (2320 + k)).toNat
def noDay (W : Int → Int) (k : Int) : Prop := ∀ i, 0 ≤ i → i < W (2320 + k) → (∀ q ∈ sVa W k i, q.1 ≠ 6) ∧ (∀ q ∈ sCo W k i, q.1 ≠ 6)
/-! the island as both hold it -/
def rB (A : xM) (W : Int → Int) : Prop := (A 1 0 = W 0 ∧ A 1 1 = W 1 ∧ A 1 2 = W 2 ∧ A 1 3 = W 3 ∧ A 1 4 = W 4 ∧ A 1 5 = min (W 9) 400) ∧ A 5 0 = W 5 ∧ A 12 0 = W 6 ∧ A 17 0 = W 7 ∧ A 23 0 = W 8
def rSky (A : xM) (W : Int → Int) : Prop := ∀ i, 0 ≤ i → i < 864 → A 2 i = W (620 + i)
def rBook (A : xM) (W : Int → Int) : Prop := ∀ i, 0 ≤ i → i < W 9 → A 3 ((W 2 - W 9 + i) % 410) = W (1491 + 2 * i)
def rPlan (A : xM) (W : Int → Int) : Prop := ∀ i, 0 ≤ i → i < 60 → A 4 i = W (70 + i)
def rPlot (A : xM) (W : Int → Int) : Prop := ∀ p, 0 ≤ p → p < W 5 → A 6 p = W (20 + 4 * p) ∧ A 7 p = W (21 + 4 * p) ∧ A 8 p = W (22 + 4 * p) ∧ A 9 p = W (23 + 4 * p) ∧ A 10 p = W (60 + p)
def rSale (A : xM) (W : Int → Int) : Prop := ∀ s, 0 ≤ s → s < W 6 → A 13 s = W (130 + 4 * s) ∧ A 14 s = W (131 + 4 * s) ∧ A 15 s = W (132 + 4 * s) ∧ A 16 s = W (133 + 4 * s)
def rProm (A : xM) (W : Int → Int) : Prop := (0 ≤ A 17 2 ∧ A 17 2 < 16777216) ∧ ∀ i, 0 ≤ i → i < W 7 → A 19 i = W (370 + 5 * i) ∧ A 18 i = W (371 + 5 * i) ∧ A 20 i = W (372 + 5 * i) ∧ A 21 i = W (373 + 5 * i) ∧ bt (A 17 2) i = W (374 + 5 * i)
def rLog (A : xM) (W : Int → Int) : Prop := ∀ i, 0 ≤ i → i < W 8 → A 24 i = W (490 + 3 * i) ∧ A 25 i = W (491 + 3 * i) ∧ A 26 i = W (492 + 3 * i)
def rWant (A : xM) (W : Int → Int) (k : Nat) : Prop :=
  A (28 + 2 * k) 0 = W (2320 + (k : Int)) ∧ A (28 + 2 * k) 1 = ((cOf W k).length : Int) ∧ (cOf W k).length ≤ 400 ∧ (∀ i : Nat, i < (cOf W k).length → A (29 + 2 * k) (i : Int) = (cOf W k).getD i 0) ∧ (A (28 + 2 * k) 2 = 0 ∨ A (28 + 2 * k) 2 = 1) ∧ (A (28 + 2 * k) 2 = 0 → noDay W k)
def rI (A : xM) (W : Int → Int) : Prop := rB A W ∧ rSky A W ∧ rBook A W ∧ rPlan A W ∧ rPlot A W ∧ rSale A W ∧ rProm A W ∧ rLog A W ∧ ∀ k, k < 4 → rWant A W k
/-- the reference's cells are such as they must be -/
def gB (W : Int → Int) : Prop := ((4 ≤ W 0 ∧ W 0 ≤ 24) ∧ (0 ≤ W 1 ∧ W 1 < W 0) ∧ (0 ≤ W 2 ∧ W 2 ≤ 9999) ∧ (0 ≤ W 3 ∧ W 3 ≤ 999) ∧ (0 ≤ W 4 ∧ W 4 ≤ 99)) ∧ ((0 ≤ W 5 ∧ W 5 ≤ 10) ∧ (0 ≤ W 6 ∧ W 6 ≤ 60) ∧ (0 ≤ W 7 ∧ W 7 ≤ 24) ∧ (0 ≤ W 8 ∧ W 8 ≤ 40) ∧ (0 ≤ W 9 ∧ W 9 ≤ 410 ∧ W 9 ≤ W 2))
def gSky (W : Int → Int) : Prop := ∀ i, 0 ≤ i → i < 864 → -9 ≤ W (620 + i) ∧ W (620 + i) ≤ 9
def gBook (W : Int → Int) : Prop := ∀ i, 0 ≤ i → i < W 9 → W (1490 + 2 * i) = W 2 - W 9 + i ∧ (-1 ≤ W (1491 + 2 * i) ∧ W (1491 + 2 * i) ≤ 1)
def gPlan (W : Int → Int) : Prop := ∀ i, 0 ≤ i → i < 60 → -1 ≤ W (70 + i) ∧ W (70 + i) ≤ 1
def gPlot (W : Int → Int) : Prop := ∀ p, 0 ≤ p → p < W 5 → (0 ≤ W (20 + 4 * p) ∧ W (20 + 4 * p) < W 0) ∧ (1 ≤ W (21 + 4 * p) ∧ W (21 + 4 * p) ≤ 9) ∧ (0 ≤ W (22 + 4 * p) ∧ W (22 + 4 * p) ≤ 4)
def gPay (W : Int → Int) : Prop := ∀ p, 0 ≤ p → p < 10 → (-99999 ≤ W (60 + p) ∧ W (60 + p) ≤ 99999) ∧ (W 5 ≤ p → W (60 + p) = 0)
def gSale (W : Int → Int) : Prop := ∀ s, 0 ≤ s → s < W 6 → (0 ≤ W (130 + 4 * s) ∧ W (130 + 4 * s) < W 5) ∧ (0 ≤ W (131 + 4 * s) ∧ W (131 + 4 * s) < W 5) ∧ (0 ≤ W (132 + 4 * s) ∧ W (132 + 4 * s) ≤ W (133 + 4 * s) ∧ W (133 + 4 * s) ≤ 9999)
/-- how many of the first n promises are an owner's -/
def nOwn (W : Int → Int) (o : Int) : Nat → Int
  | 0 => 0
  | n + 1 => nOwn W o n + (if W (370 + 5 * (n : Int)) = o then 1 else 0)
def gProm (W : Int → Int) : Prop := (∀ i, 0 ≤ i → i < W 7 → (0 ≤ W (370 + 5 * i) ∧ W (370 + 5 * i) < W 5) ∧ (-1 ≤ W (371 + 5 * i) ∧ W (371 + 5 * i) ≤ 1) ∧ (0 ≤ W (372 + 5 * i) ∧ W (372 + 5 * i) ≤ W (373 + 5 * i) ∧ W (373 + 5 * i) ≤ 9999) ∧ (W (374 + 5 * i) = 0 ∨ W (374 + 5 * i) = 1)) ∧ ∀ o, nOwn W o (W 7).toNat ≤ 10
def gLog (W : Int → Int) : Prop := ∀ i, 0 ≤ i → i < W 8 → (0 ≤ W (490 + 3 * i) ∧ W (490 + 3 * i) ≤ 9999) ∧ (0 ≤ W (491 + 3 * i) ∧ W (491 + 3 * i) < W 5) ∧ (0 ≤ W (492 + 3 * i) ∧ W (492 + 3 * i) < W 0)
def gW (W : Int → Int) : Prop := gB W ∧ gSky W ∧ gBook W ∧ gPlan W ∧ gPlot W ∧ gPay W ∧ gSale W ∧ gProm W ∧ gLog W ∧ ∀ k : Int, 0 ≤ k → k < 4 → gWant W k
/-- the tapes -/
def rTape (M : xM) : Prop := M 36 0 = M 94 12 ∧ (0 ≤ M 94 12 ∧ M 94 12 ≤ 400) ∧ M 36 1 = M 94 19 ∧ M 36 2 = M 94 21 ∧ ∀ i, 0 ≤ i → i < M 94 12 → M 37 i = M 100 i ∧ 0 ≤ M 100 i ∧ M 100 i ≤ 255
/-- the noons that may be undone -/
def rHist (M : xM) : Prop := M 79 0 = M 94 3 ∧ (0 ≤ M 94 3 ∧ M 94 3 ≤ 10 ∧ M 94 3 ≤ M 95 9) ∧ (0 ≤ M 79 1 ∧ M 79 1 < 10) ∧ ∀ i, 0 ≤ i → i < M 94 3 → ∀ q : Nat, (q : Int) = (M 79 1 - M 94 3 + i) % 10 → (M 80 q = M 97 (14 * i) ∧ 0 ≤ M 97 (14 * i) ∧ M 97 (14 * i) < M 95 0) ∧ M 97 (14 * i + 1) = M 95 2 - M 94 3 + i ∧ (M 81 q = M 97 (14 * i + 2) ∧ 0 ≤ M 97 (14 * i + 2) ∧ M 97 (14 * i + 2) ≤ 999) ∧ M 82 q = min (M 95 9 - M 94 3 + i) 400 ∧ ∀ p, 0 ≤ p → p < M 95 5 → M (84 + q) p = M 97 (14 * i + 3 + p)
/-- what the class keeps of worths -/
def rMemo (c : Int) (M : xM) (W : Int → Int) : Prop := (0 ≤ M 43 4 ∧ M 43 4 ≤ c) ∧ (∀ i, 0 ≤ i → i < 192 → 0 ≤ M 45 i ∧ M 45 i ≤ M 43 4) ∧ ∀ k : Nat, k < 4 → (0 ≤ M 46 k ∧ M 46 k ≤ M 43 4) ∧ (-1 ≤ M 47 k ∧ M 47 k ≤ 20012) ∧ ∀ place made day, (0 ≤ place ∧ place < 24) → (0 ≤ made ∧ made ≤ 1) → (0 ≤ day ∧ day ≤ 20000) → M 47 k = (if M (28 + 2 * k) 2 = 0 then day / 30 % 12 else 12 + day) → M 45 ((k * 24 + place) * 2 + made) = M 46 k → M 44 ((k * 24 + place) * 2 + made) = sVal W k place day made
/-- the reference's sums are nought between calls -/
def rSum0 (M : xM) : Prop := ∀ j : Nat, j < 10 → M 108 j = 0
def rKept (ph : Bool) (M : xM) : Prop := rSum0 M ∧ if ph = true then M 94 4 = 1 ∧ rI (fun o => M (o + 110)) (M 96) ∧ gW (M 96) else M 94 4 = 0
def Inv (ph : Bool) (c : Int) (M : xM) : Prop := rI M (M 95) ∧ gW (M 95) ∧ rTape M ∧ rHist M ∧ rMemo c M (M 95) ∧ rKept ph M
