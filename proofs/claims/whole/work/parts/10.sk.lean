/-! the objects that stand when the law has made its two: kinds, lengths, references -/
def SkK : xS := [(1, 14, [none, none, none, none, none, none, some (some 112), some (some 113), some (some 114), some (some 115), some (some 122), some (some 127), some (some 133), some (some 137)]), (100, 864, []), (100, 410, []), (100, 60, []), (4, 7, [none, some (some 116), some (some 117), some (some 118), some (some 119), some (some 120), some (some 121)]), (100, 10, []), (100, 10, []), (100, 10, []), (100, 10, []), (100, 10, []), (100, 10, []), (6, 5, [none, some (some 123), some (some 124), some (some 125), some (some 126)]), (100, 60, []), (100, 60, []), (100, 60, []), (100, 60, []), (5, 7, [none, some (some 128), none, some (some 129), some (some 130), some (some 131), some (some 132)]), (100, 24, []), (100, 24, []), (100, 24, []), (100, 24, []), (100, 24, []), (2, 4, [none, some (some 134), some (some 135), some (some 136)]), (100, 40, []), (100, 40, []), (100, 40, []), (104, 4, [some (some 138), some (some 140), some (some 142), some (some 144)]), (9, 4, [none, none, none, some (some 139)]), (100, 400, []), (9, 4, [none, none, none, some (some 141)]), (100, 400, []), (9, 4, [none, none, none, some (some 143)]), (100, 400, []), (9, 4, [none, none, none, some (some 145)]), (100, 400, [])]
def Sk0 (kp : Option Nat) : xS := [(11, 7, [some (some 1), some (some 36), some (some 43), some (some 50), some (some 75), some (some 79), some kp]), (1, 14, [none, none, none, none, none, none, some (some 2), some (some 3), some (some 4), some (some 5), some (some 12), some (some 17), some (some 23), some (some 27)]), (100, 864, []), (100, 410, []), (100, 60, []), (4, 7, [none, some (some 6), some (some 7), some (some 8), some (some 9), some (some 10), some (some 11)]), (100, 10, []), (100, 10, []), (100, 10, []), (100, 10, []), (100, 10, []), (100, 10, []), (6, 5, [none, some (some 13), some (some 14), some (some 15), some (some 16)]), (100, 60, []), (100, 60, []), (100, 60, []), (100, 60, []), (5, 7, [none, some (some 18), none, some (some 19), some (some 20), some (some 21), some (some 22)]), (100, 24, []), (100, 24, []), (100, 24, []), (100, 24, []), (100, 24, []), (2, 4, [none, some (some 24), some (some 25), some (some 26)]), (100, 40, []), (100, 40, []), (100, 40, []), (104, 4, [some (some 28), some (some 30), some (some 32), some (some 34)]), (9, 4, [none, none, none, some (some 29)]), (100, 400, []), (9, 4, [none, none, none, some (some 31)]), (100, 400, []), (9, 4, [none, none, none, some (some 33)]), (100, 400, []), (9, 4, [none, none, none, some (some 35)]), (100, 400, []), (7, 10, [none, none, none, some (some 37), some (some 38), some (some 39), some (some 40), none, none, some (some 41)]), (103, 400, []), (100, 401, []), (100, 401, [])]
def Sk1 (kp : Option Nat) : xS := [(100, 401, []), (9, 4, [none, none, none, some (some 42)]), (100, 400, []), (10, 7, [some (some 44), some (some 45), some (some 46), some (some 47), none, some (some 48), some (some 49)]), (100, 192, []), (100, 192, []), (100, 4, []), (100, 4, []), (100, 7, []), (100, 40, []), (3, 12, [some (some 43), none, some (some 51), some (some 52), some (some 63), some (some 64), some (some 65), some (some 66), some (some 74), none, none, none]), (100, 3660, []), (105, 10, [some (some 53), some (some 54), some (some 55), some (some 56), some (some 57), some (some 58), some (some 59), some (some 60), some (some 61), some (some 62)]), (100, 156, []), (100, 156, []), (100, 156, []), (100, 156, []), (100, 156, []), (100, 156, []), (100, 156, []), (100, 156, []), (100, 156, []), (100, 156, []), (100, 1891, []), (100, 30, []), (100, 6, []), (105, 7, [some (some 67), some (some 68), some (some 69), some (some 70), some (some 71), some (some 72), some (some 73)]), (100, 10, []), (100, 10, []), (100, 10, []), (100, 10, []), (100, 10, []), (100, 10, []), (100, 10, []), (100, 10, []), (8, 5, [none, some (some 76), none, some (some 77), some (some 78)]), (100, 40, []), (101, 984, []), (102, 960, []), (0, 6, [none, none, some (some 80), some (some 81), some (some 82), some (some 83)])]
def Sk2 (kp : Option Nat) : xS := [(100, 10, []), (100, 10, []), (100, 10, []), (105, 10, [some (some 84), some (some 85), some (some 86), some (some 87), some (some 88), some (some 89), some (some 90), some (some 91), some (some 92), some (some 93)]), (100, 10, []), (100, 10, []), (100, 10, []), (100, 10, []), (100, 10, []), (100, 10, []), (100, 10, []), (100, 10, []), (100, 10, []), (100, 10, []), (12, 33, [some (some 95), some (some 96), some (some 97), none, none, some (some 98), some (some 99), some (some 100), some (some 101), some (some 102), none, none, none, none, none, none, none, none, none, none, none, none, some (some 103), some (some 104), some (some 105), some (some 106), some (some 107), some (some 108), none, none, none, some (some 109), some (some 110)]), (100, 5820, []), (100, 5820, []), (100, 140, []), (100, 48, []), (100, 820, []), (100, 400, []), (100, 420, []), (100, 8, []), (100, 4320, []), (100, 1464, []), (100, 30, []), (100, 6, []), (100, 6, []), (100, 10, []), (100, 10, []), (101, 984, [])]
def Sk (kp : Option Nat) : xS := Sk0 kp ++ (Sk1 kp ++ (Sk2 kp ++ (match kp with | none => [] | some _ => SkK)))
def xSk (kp : Option Nat) (n : Nat) (S : xS) : Prop := ∀ i, i < n → (i = 0 → 93 < n) → S[i]? = (Sk kp)[i]?
theorem xSk.le {kp : Option Nat} {n m : Nat} {S : xS} (h : xSk kp n S) (hm : m ≤ n) : xSk kp m S := fun i hi h0 => h i (Nat.lt_of_lt_of_le hi hm) (fun e => Nat.lt_of_lt_of_le (h0 e) hm)
theorem sk_0 {kp : Option Nat} {n : Nat} {S : xS} (h : xSk kp n S) (hn : 93 < n) : S[0]? = some (11, 7, [some (some 1), some (some 36), some (some 43), some (some 50), some (some 75), some (some 79), some kp]) := h 0 (by omega) (fun _ => hn)
theorem sk_1 {kp : Option Nat} {n : Nat} {S : xS} (h : xSk kp n S) (hn : 1 < n) : S[1]? = some (1, 14, [none, none, none, none, none, none, some (some 2), some (some 3), some (some 4), some (some 5), some (some 12), some (some 17), some (some 23), some (some 27)]) := h 1 hn (fun e => absurd e (by decide))
theorem sk_2 {kp : Option Nat} {n : Nat} {S : xS} (h : xSk kp n S) (hn : 2 < n) : S[2]? = some (100, 864, []) := h 2 hn (fun e => absurd e (by decide))
theorem sk_3 {kp : Option Nat} {n : Nat} {S : xS} (h : xSk kp n S) (hn : 3 < n) : S[3]? = some (100, 410, []) := h 3 hn (fun e => absurd e (by decide))
theorem sk_4 {kp : Option Nat} {n : Nat} {S : xS} (h : xSk kp n S) (hn : 4 < n) : S[4]? = some (100, 60, []) := h 4 hn (fun e => absurd e (by decide))
theorem sk_5 {kp : Option Nat} {n : Nat} {S : xS} (h : xSk kp n S) (hn : 5 < n) : S[5]? = some (4, 7, [none, some (some 6), some (some 7), some (some 8), some (some 9), some (some 10), some (some 11)]) := h 5 hn (fun e => absurd e (by decide))
theorem sk_6 {kp : Option Nat} {n : Nat} {S : xS} (h : xSk kp n S) (hn : 6 < n) : S[6]? = some (100, 10, []) := h 6 hn (fun e => absurd e (by decide))
theorem sk_7 {kp : Option Nat} {n : Nat} {S : xS} (h : xSk kp n S) (hn : 7 < n) : S[7]? = some (100, 10, []) := h 7 hn (fun e => absurd e (by decide))
theorem sk_8 {kp : Option Nat} {n : Nat} {S : xS} (h : xSk kp n S) (hn : 8 < n) : S[8]? = some (100, 10, []) := h 8 hn (fun e => absurd e (by decide))
theorem sk_9 {kp : Option Nat} {n : Nat} {S : xS} (h : xSk kp n S) (hn : 9 < n) : S[9]? = some (100, 10, []) := h 9 hn (fun e => absurd e (by decide))
theorem sk_10 {kp : Option Nat} {n : Nat} {S : xS} (h : xSk kp n S) (hn : 10 < n) : S[10]? = some (100, 10, []) := h 10 hn (fun e => absurd e (by decide))
theorem sk_11 {kp : Option Nat} {n : Nat} {S : xS} (h : xSk kp n S) (hn : 11 < n) : S[11]? = some (100, 10, []) := h 11 hn (fun e => absurd e (by decide))
theorem sk_12 {kp : Option Nat} {n : Nat} {S : xS} (h : xSk kp n S) (hn : 12 < n) : S[12]? = some (6, 5, [none, some (some 13), some (some 14), some (some 15), some (some 16)]) := h 12 hn (fun e => absurd e (by decide))
theorem sk_13 {kp : Option Nat} {n : Nat} {S : xS} (h : xSk kp n S) (hn : 13 < n) : S[13]? = some (100, 60, []) := h 13 hn (fun e => absurd e (by decide))
theorem sk_14 {kp : Option Nat} {n : Nat} {S : xS} (h : xSk kp n S) (hn : 14 < n) : S[14]? = some (100, 60, []) := h 14 hn (fun e => absurd e (by decide))
theorem sk_15 {kp : Option Nat} {n : Nat} {S : xS} (h : xSk kp n S) (hn : 15 < n) : S[15]? = some (100, 60, []) := h 15 hn (fun e => absurd e (by decide))
theorem sk_16 {kp : Option Nat} {n : Nat} {S : xS} (h : xSk kp n S) (hn : 16 < n) : S[16]? = some (100, 60, []) := h 16 hn (fun e => absurd e (by decide))
theorem sk_17 {kp : Option Nat} {n : Nat} {S : xS} (h : xSk kp n S) (hn : 17 < n) : S[17]? = some (5, 7, [none, some (some 18), none, some (some 19), some (some 20), some (some 21), some (some 22)]) := h 17 hn (fun e => absurd e (by decide))
theorem sk_18 {kp : Option Nat} {n : Nat} {S : xS} (h : xSk kp n S) (hn : 18 < n) : S[18]? = some (100, 24, []) := h 18 hn (fun e => absurd e (by decide))
theorem sk_19 {kp : Option Nat} {n : Nat} {S : xS} (h : xSk kp n S) (hn : 19 < n) : S[19]? = some (100, 24, []) := h 19 hn (fun e => absurd e (by decide))
theorem sk_20 {kp : Option Nat} {n : Nat} {S : xS} (h : xSk kp n S) (hn : 20 < n) : S[20]? = some (100, 24, []) := h 20 hn (fun e => absurd e (by decide))
theorem sk_21 {kp : Option Nat} {n : Nat} {S : xS} (h : xSk kp n S) (hn : 21 < n) : S[21]? = some (100, 24, []) := h 21 hn (fun e => absurd e (by decide))
theorem sk_22 {kp : Option Nat} {n : Nat} {S : xS} (h : xSk kp n S) (hn : 22 < n) : S[22]? = some (100, 24, []) := h 22 hn (fun e => absurd e (by decide))
theorem sk_23 {kp : Option Nat} {n : Nat} {S : xS} (h : xSk kp n S) (hn : 23 < n) : S[23]? = some (2, 4, [none, some (some 24), some (some 25), some (some 26)]) := h 23 hn (fun e => absurd e (by decide))
theorem sk_24 {kp : Option Nat} {n : Nat} {S : xS} (h : xSk kp n S) (hn : 24 < n) : S[24]? = some (100, 40, []) := h 24 hn (fun e => absurd e (by decide))
theorem sk_25 {kp : Option Nat} {n : Nat} {S : xS} (h : xSk kp n S) (hn : 25 < n) : S[25]? = some (100, 40, []) := h 25 hn (fun e => absurd e (by decide))
theorem sk_26 {kp : Option Nat} {n : Nat} {S : xS} (h : xSk kp n S) (hn : 26 < n) : S[26]? = some (100, 40, []) := h 26 hn (fun e => absurd e (by decide))
theorem sk_27 {kp : Option Nat} {n : Nat} {S : xS} (h : xSk kp n S) (hn : 27 < n) : S[27]? = some (104, 4, [some (some 28), some (some 30), some (some 32), some (some 34)]) := h 27 hn (fun e => absurd e (by decide))
theorem sk_28 {kp : Option Nat} {n : Nat} {S : xS} (h : xSk kp n S) (hn : 28 < n) : S[28]? = some (9, 4, [none, none, none, some (some 29)]) := h 28 hn (fun e => absurd e (by decide))
theorem sk_29 {kp : Option Nat} {n : Nat} {S : xS} (h : xSk kp n S) (hn : 29 < n) : S[29]? = some (100, 400, []) := h 29 hn (fun e => absurd e (by decide))
theorem sk_30 {kp : Option Nat} {n : Nat} {S : xS} (h : xSk kp n S) (hn : 30 < n) : S[30]? = some (9, 4, [none, none, none, some (some 31)]) := h 30 hn (fun e => absurd e (by decide))
theorem sk_31 {kp : Option Nat} {n : Nat} {S : xS} (h : xSk kp n S) (hn : 31 < n) : S[31]? = some (100, 400, []) := h 31 hn (fun e => absurd e (by decide))
theorem sk_32 {kp : Option Nat} {n : Nat} {S : xS} (h : xSk kp n S) (hn : 32 < n) : S[32]? = some (9, 4, [none, none, none, some (some 33)]) := h 32 hn (fun e => absurd e (by decide))
theorem sk_33 {kp : Option Nat} {n : Nat} {S : xS} (h : xSk kp n S) (hn : 33 < n) : S[33]? = some (100, 400, []) := h 33 hn (fun e => absurd e (by decide))
theorem sk_34 {kp : Option Nat} {n : Nat} {S : xS} (h : xSk kp n S) (hn : 34 < n) : S[34]? = some (9, 4, [none, none, none, some (some 35)]) := h 34 hn (fun e => absurd e (by decide))
theorem sk_35 {kp : Option Nat} {n : Nat} {S : xS} (h : xSk kp n S) (hn : 35 < n) : S[35]? = some (100, 400, []) := h 35 hn (fun e => absurd e (by decide))
theorem sk_36 {kp : Option Nat} {n : Nat} {S : xS} (h : xSk kp n S) (hn : 36 < n) : S[36]? = some (7, 10, [none, none, none, some (some 37), some (some 38), some (some 39), some (some 40), none, none, some (some 41)]) := h 36 hn (fun e => absurd e (by decide))
theorem sk_37 {kp : Option Nat} {n : Nat} {S : xS} (h : xSk kp n S) (hn : 37 < n) : S[37]? = some (103, 400, []) := h 37 hn (fun e => absurd e (by decide))
theorem sk_38 {kp : Option Nat} {n : Nat} {S : xS} (h : xSk kp n S) (hn : 38 < n) : S[38]? = some (100, 401, []) := h 38 hn (fun e => absurd e (by decide))
theorem sk_39 {kp : Option Nat} {n : Nat} {S : xS} (h : xSk kp n S) (hn : 39 < n) : S[39]? = some (100, 401, []) := h 39 hn (fun e => absurd e (by decide))
theorem sk_40 {kp : Option Nat} {n : Nat} {S : xS} (h : xSk kp n S) (hn : 40 < n) : S[40]? = some (100, 401, []) := h 40 hn (fun e => absurd e (by decide))
theorem sk_41 {kp : Option Nat} {n : Nat} {S : xS} (h : xSk kp n S) (hn : 41 < n) : S[41]? = some (9, 4, [none, none, none, some (some 42)]) := h 41 hn (fun e => absurd e (by decide))
theorem sk_42 {kp : Option Nat} {n : Nat} {S : xS} (h : xSk kp n S) (hn : 42 < n) : S[42]? = some (100, 400, []) := h 42 hn (fun e => absurd e (by decide))
theorem sk_43 {kp : Option Nat} {n : Nat} {S : xS} (h : xSk kp n S) (hn : 43 < n) : S[43]? = some (10, 7, [some (some 44), some (some 45), some (some 46), some (some 47), none, some (some 48), some (some 49)]) := h 43 hn (fun e => absurd e (by decide))
theorem sk_44 {kp : Option Nat} {n : Nat} {S : xS} (h : xSk kp n S) (hn : 44 < n) : S[44]? = some (100, 192, []) := h 44 hn (fun e => absurd e (by decide))
theorem sk_45 {kp : Option Nat} {n : Nat} {S : xS} (h : xSk kp n S) (hn : 45 < n) : S[45]? = some (100, 192, []) := h 45 hn (fun e => absurd e (by decide))
theorem sk_46 {kp : Option Nat} {n : Nat} {S : xS} (h : xSk kp n S) (hn : 46 < n) : S[46]? = some (100, 4, []) := h 46 hn (fun e => absurd e (by decide))
theorem sk_47 {kp : Option Nat} {n : Nat} {S : xS} (h : xSk kp n S) (hn : 47 < n) : S[47]? = some (100, 4, []) := h 47 hn (fun e => absurd e (by decide))
theorem sk_48 {kp : Option Nat} {n : Nat} {S : xS} (h : xSk kp n S) (hn : 48 < n) : S[48]? = some (100, 7, []) := h 48 hn (fun e => absurd e (by decide))
theorem sk_49 {kp : Option Nat} {n : Nat} {S : xS} (h : xSk kp n S) (hn : 49 < n) : S[49]? = some (100, 40, []) := h 49 hn (fun e => absurd e (by decide))
theorem sk_50 {kp : Option Nat} {n : Nat} {S : xS} (h : xSk kp n S) (hn : 50 < n) : S[50]? = some (3, 12, [some (some 43), none, some (some 51), some (some 52), some (some 63), some (some 64), some (some 65), some (some 66), some (some 74), none, none, none]) := h 50 hn (fun e => absurd e (by decide))
theorem sk_51 {kp : Option Nat} {n : Nat} {S : xS} (h : xSk kp n S) (hn : 51 < n) : S[51]? = some (100, 3660, []) := h 51 hn (fun e => absurd e (by decide))
theorem sk_52 {kp : Option Nat} {n : Nat} {S : xS} (h : xSk kp n S) (hn : 52 < n) : S[52]? = some (105, 10, [some (some 53), some (some 54), some (some 55), some (some 56), some (some 57), some (some 58), some (some 59), some (some 60), some (some 61), some (some 62)]) := h 52 hn (fun e => absurd e (by decide))
theorem sk_53 {kp : Option Nat} {n : Nat} {S : xS} (h : xSk kp n S) (hn : 53 < n) : S[53]? = some (100, 156, []) := h 53 hn (fun e => absurd e (by decide))
theorem sk_54 {kp : Option Nat} {n : Nat} {S : xS} (h : xSk kp n S) (hn : 54 < n) : S[54]? = some (100, 156, []) := h 54 hn (fun e => absurd e (by decide))
theorem sk_55 {kp : Option Nat} {n : Nat} {S : xS} (h : xSk kp n S) (hn : 55 < n) : S[55]? = some (100, 156, []) := h 55 hn (fun e => absurd e (by decide))
theorem sk_56 {kp : Option Nat} {n : Nat} {S : xS} (h : xSk kp n S) (hn : 56 < n) : S[56]? = some (100, 156, []) := h 56 hn (fun e => absurd e (by decide))
theorem sk_57 {kp : Option Nat} {n : Nat} {S : xS} (h : xSk kp n S) (hn : 57 < n) : S[57]? = some (100, 156, []) := h 57 hn (fun e => absurd e (by decide))
theorem sk_58 {kp : Option Nat} {n : Nat} {S : xS} (h : xSk kp n S) (hn : 58 < n) : S[58]? = some (100, 156, []) := h 58 hn (fun e => absurd e (by decide))
theorem sk_59 {kp : Option Nat} {n : Nat} {S : xS} (h : xSk kp n S) (hn : 59 < n) : S[59]? = some (100, 156, []) := h 59 hn (fun e => absurd e (by decide))
theorem sk_60 {kp : Option Nat} {n : Nat} {S : xS} (h : xSk kp n S) (hn : 60 < n) : S[60]? = some (100, 156, []) := h 60 hn (fun e => absurd e (by decide))
theorem sk_61 {kp : Option Nat} {n : Nat} {S : xS} (h : xSk kp n S) (hn : 61 < n) : S[61]? = some (100, 156, []) := h 61 hn (fun e => absurd e (by decide))
theorem sk_62 {kp : Option Nat} {n : Nat} {S : xS} (h : xSk kp n S) (hn : 62 < n) : S[62]? = some (100, 156, []) := h 62 hn (fun e => absurd e (by decide))
theorem sk_63 {kp : Option Nat} {n : Nat} {S : xS} (h : xSk kp n S) (hn : 63 < n) : S[63]? = some (100, 1891, []) := h 63 hn (fun e => absurd e (by decide))
theorem sk_64 {kp : Option Nat} {n : Nat} {S : xS} (h : xSk kp n S) (hn : 64 < n) : S[64]? = some (100, 30, []) := h 64 hn (fun e => absurd e (by decide))
theorem sk_65 {kp : Option Nat} {n : Nat} {S : xS} (h : xSk kp n S) (hn : 65 < n) : S[65]? = some (100, 6, []) := h 65 hn (fun e => absurd e (by decide))
theorem sk_66 {kp : Option Nat} {n : Nat} {S : xS} (h : xSk kp n S) (hn : 66 < n) : S[66]? = some (105, 7, [some (some 67), some (some 68), some (some 69), some (some 70), some (some 71), some (some 72), some (some 73)]) := h 66 hn (fun e => absurd e (by decide))
theorem sk_67 {kp : Option Nat} {n : Nat} {S : xS} (h : xSk kp n S) (hn : 67 < n) : S[67]? = some (100, 10, []) := h 67 hn (fun e => absurd e (by decide))
theorem sk_68 {kp : Option Nat} {n : Nat} {S : xS} (h : xSk kp n S) (hn : 68 < n) : S[68]? = some (100, 10, []) := h 68 hn (fun e => absurd e (by decide))
theorem sk_69 {kp : Option Nat} {n : Nat} {S : xS} (h : xSk kp n S) (hn : 69 < n) : S[69]? = some (100, 10, []) := h 69 hn (fun e => absurd e (by decide))
theorem sk_70 {kp : Option Nat} {n : Nat} {S : xS} (h : xSk kp n S) (hn : 70 < n) : S[70]? = some (100, 10, []) := h 70 hn (fun e => absurd e (by decide))
theorem sk_71 {kp : Option Nat} {n : Nat} {S : xS} (h : xSk kp n S) (hn : 71 < n) : S[71]? = some (100, 10, []) := h 71 hn (fun e => absurd e (by decide))
theorem sk_72 {kp : Option Nat} {n : Nat} {S : xS} (h : xSk kp n S) (hn : 72 < n) : S[72]? = some (100, 10, []) := h 72 hn (fun e => absurd e (by decide))
theorem sk_73 {kp : Option Nat} {n : Nat} {S : xS} (h : xSk kp n S) (hn : 73 < n) : S[73]? = some (100, 10, []) := h 73 hn (fun e => absurd e (by decide))
theorem sk_74 {kp : Option Nat} {n : Nat} {S : xS} (h : xSk kp n S) (hn : 74 < n) : S[74]? = some (100, 10, []) := h 74 hn (fun e => absurd e (by decide))
theorem sk_75 {kp : Option Nat} {n : Nat} {S : xS} (h : xSk kp n S) (hn : 75 < n) : S[75]? = some (8, 5, [none, some (some 76), none, some (some 77), some (some 78)]) := h 75 hn (fun e => absurd e (by decide))
theorem sk_76 {kp : Option Nat} {n : Nat} {S : xS} (h : xSk kp n S) (hn : 76 < n) : S[76]? = some (100, 40, []) := h 76 hn (fun e => absurd e (by decide))
theorem sk_77 {kp : Option Nat} {n : Nat} {S : xS} (h : xSk kp n S) (hn : 77 < n) : S[77]? = some (101, 984, []) := h 77 hn (fun e => absurd e (by decide))
theorem sk_78 {kp : Option Nat} {n : Nat} {S : xS} (h : xSk kp n S) (hn : 78 < n) : S[78]? = some (102, 960, []) := h 78 hn (fun e => absurd e (by decide))
theorem sk_79 {kp : Option Nat} {n : Nat} {S : xS} (h : xSk kp n S) (hn : 79 < n) : S[79]? = some (0, 6, [none, none, some (some 80), some (some 81), some (some 82), some (some 83)]) := h 79 hn (fun e => absurd e (by decide))
theorem sk_80 {kp : Option Nat} {n : Nat} {S : xS} (h : xSk kp n S) (hn : 80 < n) : S[80]? = some (100, 10, []) := h 80 hn (fun e => absurd e (by decide))
theorem sk_81 {kp : Option Nat} {n : Nat} {S : xS} (h : xSk kp n S) (hn : 81 < n) : S[81]? = some (100, 10, []) := h 81 hn (fun e => absurd e (by decide))
theorem sk_82 {kp : Option Nat} {n : Nat} {S : xS} (h : xSk kp n S) (hn : 82 < n) : S[82]? = some (100, 10, []) := h 82 hn (fun e => absurd e (by decide))
theorem sk_83 {kp : Option Nat} {n : Nat} {S : xS} (h : xSk kp n S) (hn : 83 < n) : S[83]? = some (105, 10, [some (some 84), some (some 85), some (some 86), some (some 87), some (some 88), some (some 89), some (some 90), some (some 91), some (some 92), some (some 93)]) := h 83 hn (fun e => absurd e (by decide))
theorem sk_84 {kp : Option Nat} {n : Nat} {S : xS} (h : xSk kp n S) (hn : 84 < n) : S[84]? = some (100, 10, []) := h 84 hn (fun e => absurd e (by decide))
theorem sk_85 {kp : Option Nat} {n : Nat} {S : xS} (h : xSk kp n S) (hn : 85 < n) : S[85]? = some (100, 10, []) := h 85 hn (fun e => absurd e (by decide))
theorem sk_86 {kp : Option Nat} {n : Nat} {S : xS} (h : xSk kp n S) (hn : 86 < n) : S[86]? = some (100, 10, []) := h 86 hn (fun e => absurd e (by decide))
theorem sk_87 {kp : Option Nat} {n : Nat} {S : xS} (h : xSk kp n S) (hn : 87 < n) : S[87]? = some (100, 10, []) := h 87 hn (fun e => absurd e (by decide))
theorem sk_88 {kp : Option Nat} {n : Nat} {S : xS} (h : xSk kp n S) (hn : 88 < n) : S[88]? = some (100, 10, []) := h 88 hn (fun e => absurd e (by decide))
theorem sk_89 {kp : Option Nat} {n : Nat} {S : xS} (h : xSk kp n S) (hn : 89 < n) : S[89]? = some (100, 10, []) := h 89 hn (fun e => absurd e (by decide))
theorem sk_90 {kp : Option Nat} {n : Nat} {S : xS} (h : xSk kp n S) (hn : 90 < n) : S[90]? = some (100, 10, []) := h 90 hn (fun e => absurd e (by decide))
theorem sk_91 {kp : Option Nat} {n : Nat} {S : xS} (h : xSk kp n S) (hn : 91 < n) : S[91]? = some (100, 10, []) := h 91 hn (fun e => absurd e (by decide))
theorem sk_92 {kp : Option Nat} {n : Nat} {S : xS} (h : xSk kp n S) (hn : 92 < n) : S[92]? = some (100, 10, []) := h 92 hn (fun e => absurd e (by decide))
theorem sk_93 {kp : Option Nat} {n : Nat} {S : xS} (h : xSk kp n S) (hn : 93 < n) : S[93]? = some (100, 10, []) := h 93 hn (fun e => absurd e (by decide))
theorem sk_94 {kp : Option Nat} {n : Nat} {S : xS} (h : xSk kp n S) (hn : 94 < n) : S[94]? = some (12, 33, [some (some 95), some (some 96), some (some 97), none, none, some (some 98), some (some 99), some (some 100), some (some 101), some (some 102), none, none, none, none, none, none, none, none, none, none, none, none, some (some 103), some (some 104), some (some 105), some (some 106), some (some 107), some (some 108), none, none, none, some (some 109), some (some 110)]) := h 94 hn (fun e => absurd e (by decide))
theorem sk_95 {kp : Option Nat} {n : Nat} {S : xS} (h : xSk kp n S) (hn : 95 < n) : S[95]? = some (100, 5820, []) := h 95 hn (fun e => absurd e (by decide))
theorem sk_96 {kp : Option Nat} {n : Nat} {S : xS} (h : xSk kp n S) (hn : 96 < n) : S[96]? = some (100, 5820, []) := h 96 hn (fun e => absurd e (by decide))
theorem sk_97 {kp : Option Nat} {n : Nat} {S : xS} (h : xSk kp n S) (hn : 97 < n) : S[97]? = some (100, 140, []) := h 97 hn (fun e => absurd e (by decide))
theorem sk_98 {kp : Option Nat} {n : Nat} {S : xS} (h : xSk kp n S) (hn : 98 < n) : S[98]? = some (100, 48, []) := h 98 hn (fun e => absurd e (by decide))
theorem sk_99 {kp : Option Nat} {n : Nat} {S : xS} (h : xSk kp n S) (hn : 99 < n) : S[99]? = some (100, 820, []) := h 99 hn (fun e => absurd e (by decide))
theorem sk_100 {kp : Option Nat} {n : Nat} {S : xS} (h : xSk kp n S) (hn : 100 < n) : S[100]? = some (100, 400, []) := h 100 hn (fun e => absurd e (by decide))
theorem sk_101 {kp : Option Nat} {n : Nat} {S : xS} (h : xSk kp n S) (hn : 101 < n) : S[101]? = some (100, 420, []) := h 101 hn (fun e => absurd e (by decide))
theorem sk_102 {kp : Option Nat} {n : Nat} {S : xS} (h : xSk kp n S) (hn : 102 < n) : S[102]? = some (100, 8, []) := h 102 hn (fun e => absurd e (by decide))
theorem sk_103 {kp : Option Nat} {n : Nat} {S : xS} (h : xSk kp n S) (hn : 103 < n) : S[103]? = some (100, 4320, []) := h 103 hn (fun e => absurd e (by decide))
theorem sk_104 {kp : Option Nat} {n : Nat} {S : xS} (h : xSk kp n S) (hn : 104 < n) : S[104]? = some (100, 1464, []) := h 104 hn (fun e => absurd e (by decide))
theorem sk_105 {kp : Option Nat} {n : Nat} {S : xS} (h : xSk kp n S) (hn : 105 < n) : S[105]? = some (100, 30, []) := h 105 hn (fun e => absurd e (by decide))
theorem sk_106 {kp : Option Nat} {n : Nat} {S : xS} (h : xSk kp n S) (hn : 106 < n) : S[106]? = some (100, 6, []) := h 106 hn (fun e => absurd e (by decide))
theorem sk_107 {kp : Option Nat} {n : Nat} {S : xS} (h : xSk kp n S) (hn : 107 < n) : S[107]? = some (100, 6, []) := h 107 hn (fun e => absurd e (by decide))
theorem sk_108 {kp : Option Nat} {n : Nat} {S : xS} (h : xSk kp n S) (hn : 108 < n) : S[108]? = some (100, 10, []) := h 108 hn (fun e => absurd e (by decide))
theorem sk_109 {kp : Option Nat} {n : Nat} {S : xS} (h : xSk kp n S) (hn : 109 < n) : S[109]? = some (100, 10, []) := h 109 hn (fun e => absurd e (by decide))
theorem sk_110 {kp : Option Nat} {n : Nat} {S : xS} (h : xSk kp n S) (hn : 110 < n) : S[110]? = some (101, 984, []) := h 110 hn (fun e => absurd e (by decide))
theorem sk_111 {n : Nat} {S : xS} (h : xSk (some 111) n S) (hn : 111 < n) : S[111]? = some (1, 14, [none, none, none, none, none, none, some (some 112), some (some 113), some (some 114), some (some 115), some (some 122), some (some 127), some (some 133), some (some 137)]) := h 111 hn (fun e => absurd e (by decide))
theorem sk_112 {n : Nat} {S : xS} (h : xSk (some 111) n S) (hn : 112 < n) : S[112]? = some (100, 864, []) := h 112 hn (fun e => absurd e (by decide))
theorem sk_113 {n : Nat} {S : xS} (h : xSk (some 111) n S) (hn : 113 < n) : S[113]? = some (100, 410, []) := h 113 hn (fun e => absurd e (by decide))
theorem sk_114 {n : Nat} {S : xS} (h : xSk (some 111) n S) (hn : 114 < n) : S[114]? = some (100, 60, []) := h 114 hn (fun e => absurd e (by decide))
theorem sk_115 {n : Nat} {S : xS} (h : xSk (some 111) n S) (hn : 115 < n) : S[115]? = some (4, 7, [none, some (some 116), some (some 117), some (some 118), some (some 119), some (some 120), some (some 121)]) := h 115 hn (fun e => absurd e (by decide))
theorem sk_116 {n : Nat} {S : xS} (h : xSk (some 111) n S) (hn : 116 < n) : S[116]? = some (100, 10, []) := h 116 hn (fun e => absurd e (by decide))
theorem sk_117 {n : Nat} {S : xS} (h : xSk (some 111) n S) (hn : 117 < n) : S[117]? = some (100, 10, []) := h 117 hn (fun e => absurd e (by decide))
theorem sk_118 {n : Nat} {S : xS} (h : xSk (some 111) n S) (hn : 118 < n) : S[118]? = some (100, 10, []) := h 118 hn (fun e => absurd e (by decide))
theorem sk_119 {n : Nat} {S : xS} (h : xSk (some 111) n S) (hn : 119 < n) : S[119]? = some (100, 10, []) := h 119 hn (fun e => absurd e (by decide))
theorem sk_120 {n : Nat} {S : xS} (h : xSk (some 111) n S) (hn : 120 < n) : S[120]? = some (100, 10, []) := h 120 hn (fun e => absurd e (by decide))
theorem sk_121 {n : Nat} {S : xS} (h : xSk (some 111) n S) (hn : 121 < n) : S[121]? = some (100, 10, []) := h 121 hn (fun e => absurd e (by decide))
theorem sk_122 {n : Nat} {S : xS} (h : xSk (some 111) n S) (hn : 122 < n) : S[122]? = some (6, 5, [none, some (some 123), some (some 124), some (some 125), some (some 126)]) := h 122 hn (fun e => absurd e (by decide))
theorem sk_123 {n : Nat} {S : xS} (h : xSk (some 111) n S) (hn : 123 < n) : S[123]? = some (100, 60, []) := h 123 hn (fun e => absurd e (by decide))
theorem sk_124 {n : Nat} {S : xS} (h : xSk (some 111) n S) (hn : 124 < n) : S[124]? = some (100, 60, []) := h 124 hn (fun e => absurd e (by decide))
theorem sk_125 {n : Nat} {S : xS} (h : xSk (some 111) n S) (hn : 125 < n) : S[125]? = some (100, 60, []) := h 125 hn (fun e => absurd e (by decide))
theorem sk_126 {n : Nat} {S : xS} (h : xSk (some 111) n S) (hn : 126 < n) : S[126]? = some (100, 60, []) := h 126 hn (fun e => absurd e (by decide))
theorem sk_127 {n : Nat} {S : xS} (h : xSk (some 111) n S) (hn : 127 < n) : S[127]? = some (5, 7, [none, some (some 128), none, some (some 129), some (some 130), some (some 131), some (some 132)]) := h 127 hn (fun e => absurd e (by decide))
theorem sk_128 {n : Nat} {S : xS} (h : xSk (some 111) n S) (hn : 128 < n) : S[128]? = some (100, 24, []) := h 128 hn (fun e => absurd e (by decide))
theorem sk_129 {n : Nat} {S : xS} (h : xSk (some 111) n S) (hn : 129 < n) : S[129]? = some (100, 24, []) := h 129 hn (fun e => absurd e (by decide))
theorem sk_130 {n : Nat} {S : xS} (h : xSk (some 111) n S) (hn : 130 < n) : S[130]? = some (100, 24, []) := h 130 hn (fun e => absurd e (by decide))
theorem sk_131 {n : Nat} {S : xS} (h : xSk (some 111) n S) (hn : 131 < n) : S[131]? = some (100, 24, []) := h 131 hn (fun e => absurd e (by decide))
theorem sk_132 {n : Nat} {S : xS} (h : xSk (some 111) n S) (hn : 132 < n) : S[132]? = some (100, 24, []) := h 132 hn (fun e => absurd e (by decide))
theorem sk_133 {n : Nat} {S : xS} (h : xSk (some 111) n S) (hn : 133 < n) : S[133]? = some (2, 4, [none, some (some 134), some (some 135), some (some 136)]) := h 133 hn (fun e => absurd e (by decide))
theorem sk_134 {n : Nat} {S : xS} (h : xSk (some 111) n S) (hn : 134 < n) : S[134]? = some (100, 40, []) := h 134 hn (fun e => absurd e (by decide))
theorem sk_135 {n : Nat} {S : xS} (h : xSk (some 111) n S) (hn : 135 < n) : S[135]? = some (100, 40, []) := h 135 hn (fun e => absurd e (by decide))
theorem sk_136 {n : Nat} {S : xS} (h : xSk (some 111) n S) (hn : 136 < n) : S[136]? = some (100, 40, []) := h 136 hn (fun e => absurd e (by decide))
theorem sk_137 {n : Nat} {S : xS} (h : xSk (some 111) n S) (hn : 137 < n) : S[137]? = some (104, 4, [some (some 138), some (some 140), some (some 142), some (some 144)]) := h 137 hn (fun e => absurd e (by decide))
theorem sk_138 {n : Nat} {S : xS} (h : xSk (some 111) n S) (hn : 138 < n) : S[138]? = some (9, 4, [none, none, none, some (some 139)]) := h 138 hn (fun e => absurd e (by decide))
theorem sk_139 {n : Nat} {S : xS} (h : xSk (some 111) n S) (hn : 139 < n) : S[139]? = some (100, 400, []) := h 139 hn (fun e => absurd e (by decide))
theorem sk_140 {n : Nat} {S : xS} (h : xSk (some 111) n S) (hn : 140 < n) : S[140]? = some (9, 4, [none, none, none, some (some 141)]) := h 140 hn (fun e => absurd e (by decide))
theorem sk_141 {n : Nat} {S : xS} (h : xSk (some 111) n S) (hn : 141 < n) : S[141]? = some (100, 400, []) := h 141 hn (fun e => absurd e (by decide))
theorem sk_142 {n : Nat} {S : xS} (h : xSk (some 111) n S) (hn : 142 < n) : S[142]? = some (9, 4, [none, none, none, some (some 143)]) := h 142 hn (fun e => absurd e (by decide))
theorem sk_143 {n : Nat} {S : xS} (h : xSk (some 111) n S) (hn : 143 < n) : S[143]? = some (100, 400, []) := h 143 hn (fun e => absurd e (by decide))
theorem sk_144 {n : Nat} {S : xS} (h : xSk (some 111) n S) (hn : 144 < n) : S[144]? = some (9, 4, [none, none, none, some (some 145)]) := h 144 hn (fun e => absurd e (by decide))
theorem sk_145 {n : Nat} {S : xS} (h : xSk (some 111) n S) (hn : 145 < n) : S[145]? = some (100, 400, []) := h 145 hn (fun e => absurd e (by decide))
theorem rw_27 {i : Int} (hc : 0 ≤ wr i ∧ wr i < 4) : ([some (some 28), some (some 30), some (some 32), some (some 34)] : xF).getD (wr i).toNat none = some (some (28 + 2 * (wr i).toNat)) := by
  have h : (wr i).toNat < 4 := by omega
  generalize (wr i).toNat = j at h
  revert j
  decide
theorem rs_27 {kp : Option Nat} {n : Nat} {S : xS} (hS : xSk kp n S) (hn : 36 ≤ n) {i : Int} (hc : 0 ≤ wr i ∧ wr i < 4) : S[28 + 2 * (wr i).toNat]? = some (9, 4, [none, none, none, some (some (28 + 2 * (wr i).toNat + 1))]) := by
  have h : (wr i).toNat < 4 := by omega
  generalize (wr i).toNat = j at h
  rw [hS _ (by omega) (fun e => absurd e (by omega))]
  revert j
  have hd : ∀ kp, ∀ j, j < 4 → (Sk kp)[28 + 2 * j]? = some (9, 4, [none, none, none, some (some (28 + 2 * j + 1))]) := by
    intro kp j hj
    match j, hj with
    | 0, _ => rfl
    | 1, _ => rfl
    | 2, _ => rfl
    | 3, _ => rfl
    | q + 4, h => omega
  exact hd kp
theorem rc_27 {kp : Option Nat} {n : Nat} {S : xS} (hS : xSk kp n S) (hn : 36 ≤ n) {i : Int} (hc : 0 ≤ wr i ∧ wr i < 4) : S[28 + 2 * (wr i).toNat + 1]? = some (100, 400, []) := by
  have h : (wr i).toNat < 4 := by omega
  generalize (wr i).toNat = j at h
  rw [hS _ (by omega) (fun e => absurd e (by omega))]
  revert j
  have hd : ∀ kp, ∀ j, j < 4 → (Sk kp)[28 + 2 * j + 1]? = some (100, 400, []) := by
    intro kp j hj
    match j, hj with
    | 0, _ => rfl
    | 1, _ => rfl
    | 2, _ => rfl
    | 3, _ => rfl
    | q + 4, h => omega
  exact hd kp
theorem rw_52 {i : Int} (hc : 0 ≤ wr i ∧ wr i < 10) : ([some (some 53), some (some 54), some (some 55), some (some 56), some (some 57), some (some 58), some (some 59), some (some 60), some (some 61), some (some 62)] : xF).getD (wr i).toNat none = some (some (53 + (wr i).toNat)) := by
  have h : (wr i).toNat < 10 := by omega
  generalize (wr i).toNat = j at h
  revert j
  decide
theorem rs_52 {kp : Option Nat} {n : Nat} {S : xS} (hS : xSk kp n S) (hn : 63 ≤ n) {i : Int} (hc : 0 ≤ wr i ∧ wr i < 10) : S[53 + (wr i).toNat]? = some (100, 156, []) := by
  have h : (wr i).toNat < 10 := by omega
  generalize (wr i).toNat = j at h
  rw [hS _ (by omega) (fun e => absurd e (by omega))]
  revert j
  have hd : ∀ kp, ∀ j, j < 10 → (Sk kp)[53 + j]? = some (100, 156, []) := by
    intro kp j hj
    match j, hj with
    | 0, _ => rfl
    | 1, _ => rfl
    | 2, _ => rfl
    | 3, _ => rfl
    | 4, _ => rfl
    | 5, _ => rfl
    | 6, _ => rfl
    | 7, _ => rfl
    | 8, _ => rfl
    | 9, _ => rfl
    | q + 10, h => omega
  exact hd kp
theorem rw_66 {i : Int} (hc : 0 ≤ wr i ∧ wr i < 7) : ([some (some 67), some (some 68), some (some 69), some (some 70), some (some 71), some (some 72), some (some 73)] : xF).getD (wr i).toNat none = some (some (67 + (wr i).toNat)) := by
  have h : (wr i).toNat < 7 := by omega
  generalize (wr i).toNat = j at h
  revert j
  decide
theorem rs_66 {kp : Option Nat} {n : Nat} {S : xS} (hS : xSk kp n S) (hn : 74 ≤ n) {i : Int} (hc : 0 ≤ wr i ∧ wr i < 7) : S[67 + (wr i).toNat]? = some (100, 10, []) := by
  have h : (wr i).toNat < 7 := by omega
  generalize (wr i).toNat = j at h
  rw [hS _ (by omega) (fun e => absurd e (by omega))]
  revert j
  have hd : ∀ kp, ∀ j, j < 7 → (Sk kp)[67 + j]? = some (100, 10, []) := by
    intro kp j hj
    match j, hj with
    | 0, _ => rfl
    | 1, _ => rfl
    | 2, _ => rfl
    | 3, _ => rfl
    | 4, _ => rfl
    | 5, _ => rfl
    | 6, _ => rfl
    | q + 7, h => omega
  exact hd kp
theorem rw_83 {i : Int} (hc : 0 ≤ wr i ∧ wr i < 10) : ([some (some 84), some (some 85), some (some 86), some (some 87), some (some 88), some (some 89), some (some 90), some (some 91), some (some 92), some (some 93)] : xF).getD (wr i).toNat none = some (some (84 + (wr i).toNat)) := by
  have h : (wr i).toNat < 10 := by omega
  generalize (wr i).toNat = j at h
  revert j
  decide
theorem rs_83 {kp : Option Nat} {n : Nat} {S : xS} (hS : xSk kp n S) (hn : 94 ≤ n) {i : Int} (hc : 0 ≤ wr i ∧ wr i < 10) : S[84 + (wr i).toNat]? = some (100, 10, []) := by
  have h : (wr i).toNat < 10 := by omega
  generalize (wr i).toNat = j at h
  rw [hS _ (by omega) (fun e => absurd e (by omega))]
  revert j
  have hd : ∀ kp, ∀ j, j < 10 → (Sk kp)[84 + j]? = some (100, 10, []) := by
    intro kp j hj
    match j, hj with
    | 0, _ => rfl
    | 1, _ => rfl
    | 2, _ => rfl
    | 3, _ => rfl
    | 4, _ => rfl
    | 5, _ => rfl
    | 6, _ => rfl
    | 7, _ => rfl
    | 8, _ => rfl
    | 9, _ => rfl
    | q + 10, h => omega
  exact hd kp
theorem rw_137 {i : Int} (hc : 0 ≤ wr i ∧ wr i < 4) : ([some (some 138), some (some 140), some (some 142), some (some 144)] : xF).getD (wr i).toNat none = some (some (138 + 2 * (wr i).toNat)) := by
  have h : (wr i).toNat < 4 := by omega
  generalize (wr i).toNat = j at h
  revert j
  decide
theorem rs_137 {n : Nat} {S : xS} (hS : xSk (some 111) n S) (hn : 146 ≤ n) {i : Int} (hc : 0 ≤ wr i ∧ wr i < 4) : S[138 + 2 * (wr i).toNat]? = some (9, 4, [none, none, none, some (some (138 + 2 * (wr i).toNat + 1))]) := by
  have h : (wr i).toNat < 4 := by omega
  generalize (wr i).toNat = j at h
  rw [hS _ (by omega) (fun e => absurd e (by omega))]
  revert j
  have hd : ∀ j, j < 4 → (Sk (some 111))[138 + 2 * j]? = some (9, 4, [none, none, none, some (some (138 + 2 * j + 1))]) := by
    intro j hj
    match j, hj with
    | 0, _ => rfl
    | 1, _ => rfl
    | 2, _ => rfl
    | 3, _ => rfl
    | q + 4, h => omega
  exact hd
theorem rc_137 {n : Nat} {S : xS} (hS : xSk (some 111) n S) (hn : 146 ≤ n) {i : Int} (hc : 0 ≤ wr i ∧ wr i < 4) : S[138 + 2 * (wr i).toNat + 1]? = some (100, 400, []) := by
  have h : (wr i).toNat < 4 := by omega
  generalize (wr i).toNat = j at h
  rw [hS _ (by omega) (fun e => absurd e (by omega))]
  revert j
  have hd : ∀ j, j < 4 → (Sk (some 111))[138 + 2 * j + 1]? = some (100, 400, []) := by
    intro j hj
    match j, hj with
    | 0, _ => rfl
    | 1, _ => rfl
    | 2, _ => rfl
    | 3, _ => rfl
    | q + 4, h => omega
  exact hd
