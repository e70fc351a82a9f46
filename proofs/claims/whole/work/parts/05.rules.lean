/-! the judgement: method Y, at pc, with locals ls and stack st over the world S, M, comes to an end that Q allows -/
abbrev xY : Type := MethodName × ByteArray × Nat × Option FieldType × Option (Nat × (Nat → Int32))
def xT : List Cond := lw_tbl.filter goodWord
theorem xT_good {w : Cond} (h : w ∈ xT) : w ∈ xT ∧ ((w.onTables && w.keeps) = true ∨ ∃ ty, w = .arrayClass ty) := ⟨h, good_of_word (List.mem_filter.mp h).2⟩
theorem xT_in {w : Cond} (h : w ∈ xT) : w ∈ lw_tbl := (List.mem_filter.mp h).1
def xNM : List (String × Nat × MethodName × String) := [("TurnedIsland", 11, ⟨"TurnedIsland$Island", "<init>", "()V"⟩, "TurnedIsland"), ("TurnedIsland$Island", 25, ⟨"TurnedIsland$Plots", "<init>", "()V"⟩, "TurnedIsland"), ("TurnedIsland$Island", 32, ⟨"TurnedIsland$Sales", "<init>", "()V"⟩, "TurnedIsland"), ("TurnedIsland$Island", 39, ⟨"TurnedIsland$Promises", "<init>", "()V"⟩, "TurnedIsland"), ("TurnedIsland$Island", 46, ⟨"TurnedIsland$Logs", "<init>", "()V"⟩, "TurnedIsland"), ("TurnedIsland$Island", 53, ⟨"TurnedIsland$Want", "<init>", "()V"⟩, "TurnedIsland"), ("TurnedIsland", 22, ⟨"TurnedIsland$Tape", "<init>", "()V"⟩, "TurnedIsland"), ("TurnedIsland$Tape", 31, ⟨"TurnedIsland$Want", "<init>", "()V"⟩, "TurnedIsland"), ("TurnedIsland", 45, ⟨"TurnedIsland$Tracing", "<init>", "()V"⟩, "TurnedIsland"), ("TurnedIsland", 52, ⟨"TurnedIsland$History", "<init>", "()V"⟩, "TurnedIsland"), ("TurnedIsland$Island", 120, ⟨"TurnedIsland", "within", "(III)Z"⟩, "TurnedIsland"), ("TurnedIsland$Plots", 40, ⟨"TurnedIsland", "within", "(III)Z"⟩, "TurnedIsland"), ("TurnedIsland$Worths", 49, ⟨"TurnedIsland", "within", "(III)Z"⟩, "TurnedIsland"), ("TurnedIsland$Island", 127, ⟨"TurnedIsland", "wrap", "(II)I"⟩, "TurnedIsland"), ("TurnedIsland$Promises", 40, ⟨"TurnedIsland", "within", "(III)Z"⟩, "TurnedIsland"), ("TurnedIsland$Outlook", 51, ⟨"TurnedIsland", "wrap", "(II)I"⟩, "TurnedIsland"), ("TurnedIsland$Tracing", 44, ⟨"TurnedIsland", "within", "(III)Z"⟩, "TurnedIsland"), ("TurnedIsland$Tracing", 77, ⟨"TurnedIsland", "wrap", "(II)I"⟩, "TurnedIsland")]
def xNF : List (String × Nat × String × String × String × String) := [("TurnedIsland$Outlook", 106, "TurnedIsland", "ORDER", "[I", "TurnedIsland"), ("TurnedIsland$Tracing", 74, "TurnedIsland", "ORDER", "[I", "TurnedIsland")]
def xZR : List (String × String × String × Nat) := [("TurnedIsland", "ORDER", "[I", 1), ("TurnedIsland$Plots", "FACTORIALS", "[I", 2)]
def xTI : List (Nat × List Int) := [(1, [0, 1, -1]), (2, [1, 1, 2, 6, 24, 120, 720, 5040, 40320, 362880])]
def xSR : List (String × Nat × String × Nat) := [("TurnedIsland$Tape", 127, "angle sun wind current month day turned worth when or and not ", 0), ("TurnedIsland$Tape", 112, ";+-*/()<=>", 1), ("TurnedIslandModel", 120, "when", 2), ("TurnedIslandModel", 122, "or", 3), ("TurnedIslandModel", 124, "and", 4), ("TurnedIslandModel", 126, "not", 5), ("TurnedIslandModel", 128, "worth", 6), ("TurnedIslandModel", 102, "angle", 7), ("TurnedIslandModel", 108, "sun", 8), ("TurnedIslandModel", 110, "wind", 9), ("TurnedIslandModel", 112, "current", 10), ("TurnedIslandModel", 114, "month", 11), ("TurnedIslandModel", 116, "day", 12), ("TurnedIslandModel", 118, "turned", 13)]
def xlen : List Nat := [62, 10, 4, 2, 3, 3, 5, 5, 3, 4, 7, 5, 3, 6]
def xbyt : List (List Int32) := [[97, 110, 103, 108, 101, 32, 115, 117, 110, 32, 119, 105, 110, 100, 32, 99, 117, 114, 114, 101, 110, 116, 32, 109, 111, 110, 116, 104, 32, 100, 97, 121, 32, 116, 117, 114, 110, 101, 100, 32, 119, 111, 114, 116, 104, 32, 119, 104, 101, 110, 32, 111, 114, 32, 97, 110, 100, 32, 110, 111, 116, 32], [59, 43, 45, 42, 47, 40, 41, 60, 61, 62], [119, 104, 101, 110], [111, 114], [97, 110, 100], [110, 111, 116], [119, 111, 114, 116, 104], [97, 110, 103, 108, 101], [115, 117, 110], [119, 105, 110, 100], [99, 117, 114, 114, 101, 110, 116], [109, 111, 110, 116, 104], [100, 97, 121], [116, 117, 114, 110, 101, 100]]
def xStat (sa : Nat → Nat) (A : Nat → Prop) (s : State) : Prop :=
  (∀ q ∈ xNM, va_Nw (.methodLinkNest q.1 q.2.1 q.2.2.1 q.2.2.2) s) ∧ (∀ q ∈ xNF, va_Nw (.fieldLinkNest q.1 q.2.1 q.2.2.1 q.2.2.2.1 q.2.2.2.2.1 q.2.2.2.2.2) s) ∧
  (∀ q ∈ xZR, va_Z q.1 q.2.1 q.2.2.1 (.ref (sa q.2.2.2)) A s s.heap) ∧ (∀ q ∈ xTI, va_T .int (sa q.1) q.2.length (fun j => .int (Int32.ofInt (q.2.getD j 0))) A s s.heap) ∧
  (va_Z "java/lang/String" "COMPACT_STRINGS" "Z" (.int 1) A s s.heap ∧ va_AO "TurnedIsland$Want" s ∧ va_AOA .int s) ∧
  (va_Z "jdk/internal/util/Preconditions" "SIOOBE_FORMATTER" "Ljava/util/function/BiFunction;" .null A s s.heap ∨ va_Z "jdk/internal/util/Preconditions" "SIOOBE_FORMATTER" "Ljava/util/function/BiFunction;" (.ref (sa 4)) A s s.heap) ∧
  (∀ q ∈ xSR, vk_R q.1 q.2.1 q.2.2.1 (sa (10 + q.2.2.2)) s) ∧ vk_S 14 xlen xbyt (fun i => sa (10 + i)) (fun i => sa (30 + i)) A s s.heap
theorem xStat.go {sa : Nat → Nat} {A B : Nat → Prop} {s U : State} (h : xStat sa A s) (hW : s.WarmedH U.vm) (hq : ∀ a : Nat, a < s.heap.size → ¬ A a → U.heap[a]? = s.heap[a]?) (hAB : ∀ q, B q → A q) : xStat sa B U := by
  obtain ⟨h1, h2, h3, h4, h5, h6, h7, h8⟩ := h
  refine ⟨fun q hq => va_Nw.warmM hW (h1 q hq), fun q hq => va_Nw.warmF hW (h2 q hq), fun q hm => ((va_Z.moved hW.alike (h3 q hm)).kept hq).narrow hAB, fun q hm => ((va_T.moved hW.alike (h4 q hm)).kept hq).narrow hAB, ⟨((va_Z.moved hW.alike h5.1).kept hq).narrow hAB, h5.2.1.moved hW.alike, h5.2.2.moved hW.alike⟩, ?_, fun q hq => vk_R.warm hW (h7 q hq), ((vk_S.moved hW.alike h8).kept hq).narrow hAB⟩
  rcases h6 with h6 | h6
  · exact Or.inl (((va_Z.moved hW.alike h6).kept hq).narrow hAB)
  · exact Or.inr (((va_Z.moved hW.alike h6).kept hq).narrow hAB)
theorem xStat.same {sa : Nat → Nat} {A : Nat → Prop} {s U : State} (h : xStat sa A s) (hv : U.vm = s.vm) (hh : U.heap = s.heap) : xStat sa A U := by
  obtain ⟨h1, h2, h3, h4, h5, h6, h7, h8⟩ := h
  have hal : s.vm.Alike U.vm := by rw [hv]; exact Vm.Alike.refl s.vm
  refine ⟨fun q hq => va_Nw.same rfl hv.symm (h1 q hq), fun q hq => va_Nw.same rfl hv.symm (h2 q hq), fun q hm => by rw [hh]; exact va_Z.moved hal (h3 q hm), fun q hm => by rw [hh]; exact va_T.moved hal (h4 q hm), ⟨by rw [hh]; exact va_Z.moved hal h5.1, h5.2.1.moved hal, h5.2.2.moved hal⟩, ?_, fun q hq => vk_R.same hv (h7 q hq), by rw [hh]; exact vk_S.moved hal h8⟩
  rcases h6 with h6 | h6
  · exact Or.inl (by rw [hh]; exact va_Z.moved hal h6)
  · exact Or.inr (by rw [hh]; exact va_Z.moved hal h6)
def xokS (n : Nat) (S : xS) : Prop := ∀ e ∈ S, ∀ o : Nat, some (some o) ∈ e.2.2 → o < n
def xLn (al : List Nat) (S : xS) : Prop := al.length = S.length ∧ xokS al.length S
def xSim (G : va_G) (cA : Nat → ClassId) (A : Nat → Prop) (s : State) (al : List Nat) (S : xS) (M : xM) (H : Heap) (locs : List Loc) : Prop :=
  va_K G vwCl (xtys cA) s ∧ va_P G vwCl (xws cA al S M) H ∧ va_D A (xws cA al S M) ∧ va_S A s.heap H locs ∧ xLn al S
def xC (Y : xY) (d : Nat) (p : Program) (R : Room) (s : State) (m : MethodId) (args : Array Value) (meth : Method) (c : Code) (sa : Nat → Nat) (A : Nat → Prop) : Prop :=
  p.tables.exec = Jvm.exec ∧ c.code = Y.2.1 ∧ c.maxLocals = Y.2.2.1 ∧ s.vm.findClass Y.1.cls = some m.cls ∧ (∀ w ∈ xT, w.before args s = true) ∧ meth.name = Y.1.name ∧ d ≤ R.frames ∧ 64 * d ≤ R.locals ∧ (∀ q, s.heap.size ≤ q → A q) ∧ xStat sa A s ∧
  (∀ (L : Nat) (xs : Nat → Int32), Y.2.2.2.2 = some (L, xs) → va_X (sa 3) L xs s s.heap ∧ sa 3 < s.heap.size ∧ ¬ A (sa 3))
/-- a return instruction that fits the answer -/
def xRetI (Y : xY) (pc : Nat) (rv : Option xV) : Prop :=
  (rv = none ∧ Y.2.2.2.1 = none ∧ decode Y.2.1 pc = .ok (.return_, 1)) ∨
  (∃ x ty, rv = some (vI x) ∧ Y.2.2.2.1 = some ty ∧ narrow ty (.int (Int32.ofInt x)) = .int (Int32.ofInt x) ∧ decode Y.2.1 pc = .ok (.ireturn, 1)) ∨
  (∃ x, rv = some (vL x) ∧ Y.2.2.2.1 = some .long ∧ decode Y.2.1 pc = .ok (.lreturn, 1))
def xlv (al : List Nat) (sa : Nat → Nat) (ls : List (Nat × xV)) : List (Nat × Value) := ls.map (fun q => (q.1, em al sa q.2))
def xEnd (p : Program) (l : Launch) (e : Env) (R : Room) (s : State) (m : MethodId) (args : Array Value) (below : List Frame) (meth : Method) (c : Code) (Y : xY) (G : va_G) (cA : Nat → ClassId) (sa : Nat → Nat) (A : Nat → Prop) (al : List Nat) (mc ms : Nat) (Q : Option xV → xS → xM → Prop) (Z : State → Prop) : Prop :=
  ∀ (H : Heap) (locs : List Loc) (cells slots : Nat) (ex : List Nat) (S : xS) (M : xM) (rv : Option xV) (pc : Nat) (lc : Array Slot), Q rv S M → xSim G cA A s (al ++ ex) S M H locs → cells ≤ mc → slots ≤ ms → xRetI Y pc rv →
    W p l e R s m args below meth c H locs cells slots Z (F0 m pc lc (rv.toList.map (em (al ++ ex) sa)))
def V (Y : xY) (d ca sl pc : Nat) (ls : List (Nat × xV)) (st : List xV) (S : xS) (M : xM) (Q : Option xV → xS → xM → Prop) : Prop :=
  ∀ (p : Program) (l : Launch) (e : Env) (R : Room) (s : State) (m : MethodId) (args : Array Value) (below : List Frame) (meth : Method) (c : Code) (H : Heap) (locs : List Loc) (cells slots : Nat) (G : va_G) (cA : Nat → ClassId) (sa : Nat → Nat) (A : Nat → Prop) (al : List Nat) (lc : Array Slot) (mc ms : Nat) (Z : State → Prop),
    xC Y d p R s m args meth c sa A → cells + ca ≤ mc → slots + sl ≤ ms → mc ≤ R.cells → ms ≤ R.slots → xEnd p l e R s m args below meth c Y G cA sa A al mc ms Q Z → xSim G cA A s al S M H locs → lv_has lc Y.2.2.1 (xlv al sa ls) →
    W p l e R s m args below meth c H locs cells slots Z (F0 m pc lc (st.map (em al sa)))
theorem xlv_at {al : List Nat} {sa : Nat → Nat} {ls : List (Nat × xV)} {lc : Array Slot} {nL i : Nat} {v : xV} (hl : lv_has lc nL (xlv al sa ls)) (h : (i, v) ∈ ls) : lc[i]? = some (.val (em al sa v)) := hl.2.2 (i, em al sa v) (List.mem_map.mpr ⟨(i, v), h, rfl⟩)
def xst (i : Nat) (v : xV) (ls : List (Nat × xV)) : List (Nat × xV) := (i, v) :: ls.filter (fun q => !(q.1 == i) && !(q.1 + 1 == i && xw2 q.2))
def xst2 (i : Nat) (v : xV) (ls : List (Nat × xV)) : List (Nat × xV) := (i, v) :: ls.filter (fun q => !(q.1 == i) && (!(q.1 == i + 1) && !(q.1 + 1 == i && xw2 q.2)))
theorem xw2_em (al : List Nat) (sa : Nat → Nat) (v : xV) : ((em al sa v).category == 2) = xw2 v := by
  rcases v with x | x | x | x
  · rfl
  · rfl
  · cases x <;> rfl
  · rfl
theorem xlv_st {al : List Nat} {sa : Nat → Nat} {ls : List (Nat × xV)} {i : Nat} {v : xV} : (i, em al sa v) :: (xlv al sa ls).filter (fun q => !(q.1 == i) && !(q.1 + 1 == i && q.2.category == 2)) = xlv al sa (xst i v ls) := by
  unfold xlv xst
  rw [List.map_cons, List.filter_map]
  congr 2
  apply List.filter_congr
  intro q _
  simp only [Function.comp, xw2_em]
theorem xlv_st2 {al : List Nat} {sa : Nat → Nat} {ls : List (Nat × xV)} {i : Nat} {v : xV} : (i, em al sa v) :: (xlv al sa ls).filter (fun q => !(q.1 == i) && (!(q.1 == i + 1) && !(q.1 + 1 == i && q.2.category == 2))) = xlv al sa (xst2 i v ls) := by
  unfold xlv xst2
  rw [List.map_cons, List.filter_map]
  congr 2
  apply List.filter_congr
  intro q _
  simp only [Function.comp, xw2_em]
section VR
variable {Y : xY} {d ca sl pc : Nat} {ls ls' : List (Nat × xV)} {st : List xV} {S : xS} {M : xM} {Q : Option xV → xS → xM → Prop}
theorem V_iadd {a b : Int} (dg : decode Y.2.1 pc = .ok (.iadd, 1)) (k : V Y d ca sl (pc + 1) ls (vI (a + b) :: st) S M Q) : V Y d ca sl pc ls (vI b :: vI a :: st) S M Q := by
  intro p l e R s m args below meth c H locs cells slots G cA sa A al lc mc ms Z C g1 g2 g3 g4 gz hs hl
  have k := k p l e R s m args below meth c H locs cells slots G cA sa A al lc mc ms Z C g1 g2 g3 g4 gz hs hl
  refine lv_iadd C.1 C.2.1 dg ?_
  rw [← Int32.ofInt_add]; exact k
theorem V_isub {a b : Int} (dg : decode Y.2.1 pc = .ok (.isub, 1)) (k : V Y d ca sl (pc + 1) ls (vI (a - b) :: st) S M Q) : V Y d ca sl pc ls (vI b :: vI a :: st) S M Q := by
  intro p l e R s m args below meth c H locs cells slots G cA sa A al lc mc ms Z C g1 g2 g3 g4 gz hs hl
  have k := k p l e R s m args below meth c H locs cells slots G cA sa A al lc mc ms Z C g1 g2 g3 g4 gz hs hl
  refine lv_isub C.1 C.2.1 dg ?_
  rw [← Int32.ofInt_sub]; exact k
theorem V_imul {a b : Int} (dg : decode Y.2.1 pc = .ok (.imul, 1)) (k : V Y d ca sl (pc + 1) ls (vI (a * b) :: st) S M Q) : V Y d ca sl pc ls (vI b :: vI a :: st) S M Q := by
  intro p l e R s m args below meth c H locs cells slots G cA sa A al lc mc ms Z C g1 g2 g3 g4 gz hs hl
  have k := k p l e R s m args below meth c H locs cells slots G cA sa A al lc mc ms Z C g1 g2 g3 g4 gz hs hl
  refine lv_imul C.1 C.2.1 dg ?_
  rw [← Int32.ofInt_mul]; exact k
theorem V_iand {a b : Int} (dg : decode Y.2.1 pc = .ok (.iand, 1)) (k : V Y d ca sl (pc + 1) ls (vI (xand a b) :: st) S M Q) : V Y d ca sl pc ls (vI b :: vI a :: st) S M Q := by
  intro p l e R s m args below meth c H locs cells slots G cA sa A al lc mc ms Z C g1 g2 g3 g4 gz hs hl
  have k := k p l e R s m args below meth c H locs cells slots G cA sa A al lc mc ms Z C g1 g2 g3 g4 gz hs hl
  refine lv_iand C.1 C.2.1 dg ?_
  rw [← Int32.ofInt_toInt (Int32.ofInt a &&& Int32.ofInt b)]; exact k
theorem V_ior {a b : Int} (dg : decode Y.2.1 pc = .ok (.ior, 1)) (k : V Y d ca sl (pc + 1) ls (vI (xor_ a b) :: st) S M Q) : V Y d ca sl pc ls (vI b :: vI a :: st) S M Q := by
  intro p l e R s m args below meth c H locs cells slots G cA sa A al lc mc ms Z C g1 g2 g3 g4 gz hs hl
  have k := k p l e R s m args below meth c H locs cells slots G cA sa A al lc mc ms Z C g1 g2 g3 g4 gz hs hl
  refine lv_ior C.1 C.2.1 dg ?_
  rw [← Int32.ofInt_toInt (Int32.ofInt a ||| Int32.ofInt b)]; exact k
theorem V_ixor {a b : Int} (dg : decode Y.2.1 pc = .ok (.ixor, 1)) (k : V Y d ca sl (pc + 1) ls (vI (xxor a b) :: st) S M Q) : V Y d ca sl pc ls (vI b :: vI a :: st) S M Q := by
  intro p l e R s m args below meth c H locs cells slots G cA sa A al lc mc ms Z C g1 g2 g3 g4 gz hs hl
  have k := k p l e R s m args below meth c H locs cells slots G cA sa A al lc mc ms Z C g1 g2 g3 g4 gz hs hl
  refine lv_ixor C.1 C.2.1 dg ?_
  rw [← Int32.ofInt_toInt (Int32.ofInt a ^^^ Int32.ofInt b)]; exact k
theorem V_ishl {a b : Int} (dg : decode Y.2.1 pc = .ok (.ishl, 1)) (k : V Y d ca sl (pc + 1) ls (vI (xshl a b) :: st) S M Q) : V Y d ca sl pc ls (vI b :: vI a :: st) S M Q := by
  intro p l e R s m args below meth c H locs cells slots G cA sa A al lc mc ms Z C g1 g2 g3 g4 gz hs hl
  have k := k p l e R s m args below meth c H locs cells slots G cA sa A al lc mc ms Z C g1 g2 g3 g4 gz hs hl
  refine lv_ishl C.1 C.2.1 dg ?_
  rw [← Int32.ofInt_toInt (Int32.ofInt a <<< (Int32.ofInt b &&& 31))]; exact k
theorem V_ishr {a b : Int} (dg : decode Y.2.1 pc = .ok (.ishr, 1)) (k : V Y d ca sl (pc + 1) ls (vI (xshr a b) :: st) S M Q) : V Y d ca sl pc ls (vI b :: vI a :: st) S M Q := by
  intro p l e R s m args below meth c H locs cells slots G cA sa A al lc mc ms Z C g1 g2 g3 g4 gz hs hl
  have k := k p l e R s m args below meth c H locs cells slots G cA sa A al lc mc ms Z C g1 g2 g3 g4 gz hs hl
  refine lv_ishr C.1 C.2.1 dg ?_
  rw [← Int32.ofInt_toInt (Int32.ofInt a >>> (Int32.ofInt b &&& 31))]; exact k
theorem V_iushr {a b : Int} (dg : decode Y.2.1 pc = .ok (.iushr, 1)) (k : V Y d ca sl (pc + 1) ls (vI (xushr a b) :: st) S M Q) : V Y d ca sl pc ls (vI b :: vI a :: st) S M Q := by
  intro p l e R s m args below meth c H locs cells slots G cA sa A al lc mc ms Z C g1 g2 g3 g4 gz hs hl
  exact lv_iushr C.1 C.2.1 dg (Int32.ofInt_toInt _).symm (k p l e R s m args below meth c H locs cells slots G cA sa A al lc mc ms Z C g1 g2 g3 g4 gz hs hl)
theorem V_ineg {a : Int} (dg : decode Y.2.1 pc = .ok (.ineg, 1)) (k : V Y d ca sl (pc + 1) ls (vI (-a) :: st) S M Q) : V Y d ca sl pc ls (vI a :: st) S M Q := by
  intro p l e R s m args below meth c H locs cells slots G cA sa A al lc mc ms Z C g1 g2 g3 g4 gz hs hl
  have k := k p l e R s m args below meth c H locs cells slots G cA sa A al lc mc ms Z C g1 g2 g3 g4 gz hs hl
  refine lv_ineg C.1 C.2.1 dg ?_
  rw [← Int32.ofInt_neg]; exact k
theorem V_idiv {α : Type} {X E : α} {a b : Int} (dg : decode Y.2.1 pc = .ok (.idiv, 1)) {none_ : α} (h : (if wr b = 0 then none_ else X) = E) (hn : none_ ≠ E) (k : ¬ wr b = 0 → X = E → V Y d ca sl (pc + 1) ls (vI (xdiv a b) :: st) S M Q) : V Y d ca sl pc ls (vI b :: vI a :: st) S M Q := by
  by_cases hb : wr b = 0
  · rw [if_pos hb] at h; exact absurd h hn
  · rw [if_neg hb] at h
    intro p l e R s m args below meth c H locs cells slots G cA sa A al lc mc ms Z C g1 g2 g3 g4 gz hs hl
    have k := k hb h p l e R s m args below meth c H locs cells slots G cA sa A al lc mc ms Z C g1 g2 g3 g4 gz hs hl
    refine lv_idiv C.1 C.2.1 dg (fun q => hb (by have := (wr_eq b 0).mp q; rw [wr_0] at this; exact this)) ?_
    rw [← xdiv_of]; exact k
theorem V_idivK {a b : Int} (dg : decode Y.2.1 pc = .ok (.idiv, 1)) (hb : ¬ wr b = 0) (k : V Y d ca sl (pc + 1) ls (vI (xdiv a b) :: st) S M Q) : V Y d ca sl pc ls (vI b :: vI a :: st) S M Q := by
  intro p l e R s m args below meth c H locs cells slots G cA sa A al lc mc ms Z C g1 g2 g3 g4 gz hs hl
  have k := k p l e R s m args below meth c H locs cells slots G cA sa A al lc mc ms Z C g1 g2 g3 g4 gz hs hl
  refine lv_idiv C.1 C.2.1 dg (fun q => hb (by have := (wr_eq b 0).mp q; rw [wr_0] at this; exact this)) ?_
  rw [← xdiv_of]; exact k
theorem V_irem {α : Type} {X E : α} {a b : Int} (dg : decode Y.2.1 pc = .ok (.irem, 1)) {none_ : α} (h : (if wr b = 0 then none_ else X) = E) (hn : none_ ≠ E) (k : ¬ wr b = 0 → X = E → V Y d ca sl (pc + 1) ls (vI (xrem a b) :: st) S M Q) : V Y d ca sl pc ls (vI b :: vI a :: st) S M Q := by
  by_cases hb : wr b = 0
  · rw [if_pos hb] at h; exact absurd h hn
  · rw [if_neg hb] at h
    intro p l e R s m args below meth c H locs cells slots G cA sa A al lc mc ms Z C g1 g2 g3 g4 gz hs hl
    have k := k hb h p l e R s m args below meth c H locs cells slots G cA sa A al lc mc ms Z C g1 g2 g3 g4 gz hs hl
    refine lv_irem C.1 C.2.1 dg (fun q => hb (by have := (wr_eq b 0).mp q; rw [wr_0] at this; exact this)) ?_
    rw [← xrem_of]; exact k
theorem V_iremK {a b : Int} (dg : decode Y.2.1 pc = .ok (.irem, 1)) (hb : ¬ wr b = 0) (k : V Y d ca sl (pc + 1) ls (vI (xrem a b) :: st) S M Q) : V Y d ca sl pc ls (vI b :: vI a :: st) S M Q := by
  intro p l e R s m args below meth c H locs cells slots G cA sa A al lc mc ms Z C g1 g2 g3 g4 gz hs hl
  have k := k p l e R s m args below meth c H locs cells slots G cA sa A al lc mc ms Z C g1 g2 g3 g4 gz hs hl
  refine lv_irem C.1 C.2.1 dg (fun q => hb (by have := (wr_eq b 0).mp q; rw [wr_0] at this; exact this)) ?_
  rw [← xrem_of]; exact k
theorem V_ladd {a b : Int} (dg : decode Y.2.1 pc = .ok (.ladd, 1)) (k : V Y d ca sl (pc + 1) ls (vL (a + b) :: st) S M Q) : V Y d ca sl pc ls (vL b :: vL a :: st) S M Q := by
  intro p l e R s m args below meth c H locs cells slots G cA sa A al lc mc ms Z C g1 g2 g3 g4 gz hs hl
  have k := k p l e R s m args below meth c H locs cells slots G cA sa A al lc mc ms Z C g1 g2 g3 g4 gz hs hl
  refine lv_ladd C.1 C.2.1 dg ?_
  rw [← Int64.ofInt_add]; exact k
theorem V_lcmp {a b : Int} (dg : decode Y.2.1 pc = .ok (.lcmp, 1)) (k : V Y d ca sl (pc + 1) ls (vI (xlcmp a b) :: st) S M Q) : V Y d ca sl pc ls (vL b :: vL a :: st) S M Q := by
  intro p l e R s m args below meth c H locs cells slots G cA sa A al lc mc ms Z C g1 g2 g3 g4 gz hs hl
  have k := k p l e R s m args below meth c H locs cells slots G cA sa A al lc mc ms Z C g1 g2 g3 g4 gz hs hl
  refine W.lcmp C.1 C.2.1 dg ?_
  have e : lg_cmp (Int64.ofInt a) (Int64.ofInt b) = Int32.ofInt (xlcmp a b) := by
    unfold lg_cmp xlcmp
    simp only [gt_iff_lt, wl_lt, wl_eq]
    rcases Int.lt_trichotomy (wl a) (wl b) with h | h | h
    · have h2 : ¬ wl b < wl a := by omega
      have h3 : ¬ wl a = wl b := by omega
      simp only [h, h2, h3, if_true, if_false]; rfl
    · have h2 : ¬ wl b < wl a := by omega
      have h3 : ¬ wl a < wl b := by omega
      simp only [h2, h3, if_pos h, if_false]; rfl
    · have h2 : ¬ wl a < wl b := by omega
      have h3 : ¬ wl a = wl b := by omega
      simp only [h, h2, h3, if_true, if_false]; rfl
  rw [e]; exact k
theorem V_i2l {a : Int} (dg : decode Y.2.1 pc = .ok (.i2l, 1)) (k : V Y d ca sl (pc + 1) ls (vL (wr a) :: st) S M Q) : V Y d ca sl pc ls (vI a :: st) S M Q := by
  intro p l e R s m args below meth c H locs cells slots G cA sa A al lc mc ms Z C g1 g2 g3 g4 gz hs hl
  exact lv_i2l C.1 C.2.1 dg (by rw [← Int64.toInt_inj, Int32.toInt_toInt64, wr_toInt, wl_toInt]; unfold wl wr; omega) (k p l e R s m args below meth c H locs cells slots G cA sa A al lc mc ms Z C g1 g2 g3 g4 gz hs hl)
theorem V_l2i {a : Int} (dg : decode Y.2.1 pc = .ok (.l2i, 1)) (k : V Y d ca sl (pc + 1) ls (vI a :: st) S M Q) : V Y d ca sl pc ls (vL a :: st) S M Q := by
  intro p l e R s m args below meth c H locs cells slots G cA sa A al lc mc ms Z C g1 g2 g3 g4 gz hs hl
  exact lv_l2i C.1 C.2.1 dg (by simp) (k p l e R s m args below meth c H locs cells slots G cA sa A al lc mc ms Z C g1 g2 g3 g4 gz hs hl)
theorem V_i2c {a : Int} (dg : decode Y.2.1 pc = .ok (.i2c, 1)) (k : V Y d ca sl (pc + 1) ls (vI (xchr a) :: st) S M Q) : V Y d ca sl pc ls (vI a :: st) S M Q := by
  intro p l e R s m args below meth c H locs cells slots G cA sa A al lc mc ms Z C g1 g2 g3 g4 gz hs hl
  exact lv_i2c C.1 C.2.1 dg (xchr_of a) (k p l e R s m args below meth c H locs cells slots G cA sa A al lc mc ms Z C g1 g2 g3 g4 gz hs hl)
theorem V_iconst {n : Int} (dg : decode Y.2.1 pc = .ok (.iconst n, 1)) (k : V Y d ca sl (pc + 1) ls (vI n :: st) S M Q) : V Y d ca sl pc ls (st) S M Q := by
  intro p l e R s m args below meth c H locs cells slots G cA sa A al lc mc ms Z C g1 g2 g3 g4 gz hs hl
  exact lv_iconst C.1 C.2.1 dg rfl (k p l e R s m args below meth c H locs cells slots G cA sa A al lc mc ms Z C g1 g2 g3 g4 gz hs hl)
theorem V_bipush {n : Int} (dg : decode Y.2.1 pc = .ok (.bipush n, 2)) (hn : (Int8.ofInt n).toInt32 = Int32.ofInt n) (k : V Y d ca sl (pc + 2) ls (vI n :: st) S M Q) : V Y d ca sl pc ls (st) S M Q := by
  intro p l e R s m args below meth c H locs cells slots G cA sa A al lc mc ms Z C g1 g2 g3 g4 gz hs hl
  exact lv_bipush C.1 C.2.1 dg hn (k p l e R s m args below meth c H locs cells slots G cA sa A al lc mc ms Z C g1 g2 g3 g4 gz hs hl)
theorem V_sipush {n : Int} (dg : decode Y.2.1 pc = .ok (.sipush n, 3)) (hn : (Int16.ofInt n).toInt32 = Int32.ofInt n) (k : V Y d ca sl (pc + 3) ls (vI n :: st) S M Q) : V Y d ca sl pc ls (st) S M Q := by
  intro p l e R s m args below meth c H locs cells slots G cA sa A al lc mc ms Z C g1 g2 g3 g4 gz hs hl
  exact lv_sipush C.1 C.2.1 dg hn (k p l e R s m args below meth c H locs cells slots G cA sa A al lc mc ms Z C g1 g2 g3 g4 gz hs hl)
theorem V_lconst {n : Fin 2} {x : Int} (dg : decode Y.2.1 pc = .ok (.lconst n, 1)) (hn : Int64.ofNat (n : Nat) = Int64.ofInt x) (k : V Y d ca sl (pc + 1) ls (vL x :: st) S M Q) : V Y d ca sl pc ls (st) S M Q := by
  intro p l e R s m args below meth c H locs cells slots G cA sa A al lc mc ms Z C g1 g2 g3 g4 gz hs hl
  exact lv_lconst C.1 C.2.1 dg hn (k p l e R s m args below meth c H locs cells slots G cA sa A al lc mc ms Z C g1 g2 g3 g4 gz hs hl)
theorem V_ldc {i : Nat} {n : Int} {v : Int32} (dg : decode Y.2.1 pc = .ok (.ldc i, 2)) (hc : Cond.constant Y.1.cls i v ∈ xT) (hv : v = Int32.ofInt n) (k : V Y d ca sl (pc + 2) ls (vI n :: st) S M Q) : V Y d ca sl pc ls (st) S M Q := by
  intro p l e R s m args below meth c H locs cells slots G cA sa A al lc mc ms Z C g1 g2 g3 g4 gz hs hl
  subst hv
  exact lv_ldc C.1 C.2.1 C.2.2.2.1 (C.2.2.2.2.1 _ hc) dg (k p l e R s m args below meth c H locs cells slots G cA sa A al lc mc ms Z C g1 g2 g3 g4 gz hs hl)
theorem V_ldcw {i : Nat} {n : Int} {v : Int32} (dg : decode Y.2.1 pc = .ok (.ldc_w i, 3)) (hc : Cond.constant Y.1.cls i v ∈ xT) (hv : v = Int32.ofInt n) (k : V Y d ca sl (pc + 3) ls (vI n :: st) S M Q) : V Y d ca sl pc ls (st) S M Q := by
  intro p l e R s m args below meth c H locs cells slots G cA sa A al lc mc ms Z C g1 g2 g3 g4 gz hs hl
  subst hv
  exact lv_ldcw C.1 C.2.1 C.2.2.2.1 (C.2.2.2.2.1 _ hc) dg (k p l e R s m args below meth c H locs cells slots G cA sa A al lc mc ms Z C g1 g2 g3 g4 gz hs hl)
theorem V_ldc2 {i : Nat} {n : Int} {v : Int64} (dg : decode Y.2.1 pc = .ok (.ldc2_w i, 3)) (hc : Cond.constantLong Y.1.cls i v ∈ xT) (hv : v = Int64.ofInt n) (k : V Y d ca sl (pc + 3) ls (vL n :: st) S M Q) : V Y d ca sl pc ls (st) S M Q := by
  intro p l e R s m args below meth c H locs cells slots G cA sa A al lc mc ms Z C g1 g2 g3 g4 gz hs hl
  subst hv
  exact lv_ldc2 C.1 C.2.1 C.2.2.2.1 (C.2.2.2.2.1 _ hc) dg (k p l e R s m args below meth c H locs cells slots G cA sa A al lc mc ms Z C g1 g2 g3 g4 gz hs hl)
theorem V_null (dg : decode Y.2.1 pc = .ok (.aconst_null, 1)) (k : V Y d ca sl (pc + 1) ls (vR none :: st) S M Q) : V Y d ca sl pc ls (st) S M Q := by
  intro p l e R s m args below meth c H locs cells slots G cA sa A al lc mc ms Z C g1 g2 g3 g4 gz hs hl
  exact lv_null C.1 C.2.1 dg (k p l e R s m args below meth c H locs cells slots G cA sa A al lc mc ms Z C g1 g2 g3 g4 gz hs hl)
theorem V_iload_n {k4 : Fin 4} {i : Nat} {x : Int} (dg : decode Y.2.1 pc = .ok (.iload_n k4, 1)) (hi : (k4 : Nat) = i) (hm : (i, vI x) ∈ ls) (k : V Y d ca sl (pc + 1) ls (vI x :: st) S M Q) : V Y d ca sl pc ls (st) S M Q := by
  intro p l e R s m args below meth c H locs cells slots G cA sa A al lc mc ms Z C g1 g2 g3 g4 gz hs hl
  exact lv_iload_n C.1 C.2.1 dg hi (xlv_at hl hm) (k p l e R s m args below meth c H locs cells slots G cA sa A al lc mc ms Z C g1 g2 g3 g4 gz hs hl)
theorem V_iload {i : Nat} {x : Int} (dg : decode Y.2.1 pc = .ok (.iload i, 2)) (hm : (i, vI x) ∈ ls) (k : V Y d ca sl (pc + 2) ls (vI x :: st) S M Q) : V Y d ca sl pc ls (st) S M Q := by
  intro p l e R s m args below meth c H locs cells slots G cA sa A al lc mc ms Z C g1 g2 g3 g4 gz hs hl
  exact lv_iload C.1 C.2.1 dg (xlv_at hl hm) (k p l e R s m args below meth c H locs cells slots G cA sa A al lc mc ms Z C g1 g2 g3 g4 gz hs hl)
theorem V_lload_n {k4 : Fin 4} {i : Nat} {x : Int} (dg : decode Y.2.1 pc = .ok (.lload_n k4, 1)) (hi : (k4 : Nat) = i) (hm : (i, vL x) ∈ ls) (k : V Y d ca sl (pc + 1) ls (vL x :: st) S M Q) : V Y d ca sl pc ls (st) S M Q := by
  intro p l e R s m args below meth c H locs cells slots G cA sa A al lc mc ms Z C g1 g2 g3 g4 gz hs hl
  exact lv_lload_n C.1 C.2.1 dg hi (xlv_at hl hm) (k p l e R s m args below meth c H locs cells slots G cA sa A al lc mc ms Z C g1 g2 g3 g4 gz hs hl)
theorem V_lload {i : Nat} {x : Int} (dg : decode Y.2.1 pc = .ok (.lload i, 2)) (hm : (i, vL x) ∈ ls) (k : V Y d ca sl (pc + 2) ls (vL x :: st) S M Q) : V Y d ca sl pc ls (st) S M Q := by
  intro p l e R s m args below meth c H locs cells slots G cA sa A al lc mc ms Z C g1 g2 g3 g4 gz hs hl
  exact lv_lload C.1 C.2.1 dg (xlv_at hl hm) (k p l e R s m args below meth c H locs cells slots G cA sa A al lc mc ms Z C g1 g2 g3 g4 gz hs hl)
theorem V_aload_n {k4 : Fin 4} {i : Nat} {x : Nat} (dg : decode Y.2.1 pc = .ok (.aload_n k4, 1)) (hi : (k4 : Nat) = i) (hm : (i, vR (some x)) ∈ ls) (k : V Y d ca sl (pc + 1) ls (vR (some x) :: st) S M Q) : V Y d ca sl pc ls (st) S M Q := by
  intro p l e R s m args below meth c H locs cells slots G cA sa A al lc mc ms Z C g1 g2 g3 g4 gz hs hl
  exact lv_aload_n C.1 C.2.1 dg hi (xlv_at hl hm) (k p l e R s m args below meth c H locs cells slots G cA sa A al lc mc ms Z C g1 g2 g3 g4 gz hs hl)
theorem V_aload {i : Nat} {x : Nat} (dg : decode Y.2.1 pc = .ok (.aload i, 2)) (hm : (i, vR (some x)) ∈ ls) (k : V Y d ca sl (pc + 2) ls (vR (some x) :: st) S M Q) : V Y d ca sl pc ls (st) S M Q := by
  intro p l e R s m args below meth c H locs cells slots G cA sa A al lc mc ms Z C g1 g2 g3 g4 gz hs hl
  exact lv_aload C.1 C.2.1 dg (xlv_at hl hm) (k p l e R s m args below meth c H locs cells slots G cA sa A al lc mc ms Z C g1 g2 g3 g4 gz hs hl)
theorem V_aload_nS {k4 : Fin 4} {i : Nat} {x : Nat} (dg : decode Y.2.1 pc = .ok (.aload_n k4, 1)) (hi : (k4 : Nat) = i) (hm : (i, vS x) ∈ ls) (k : V Y d ca sl (pc + 1) ls (vS x :: st) S M Q) : V Y d ca sl pc ls (st) S M Q := by
  intro p l e R s m args below meth c H locs cells slots G cA sa A al lc mc ms Z C g1 g2 g3 g4 gz hs hl
  exact lv_aload_n C.1 C.2.1 dg hi (xlv_at hl hm) (k p l e R s m args below meth c H locs cells slots G cA sa A al lc mc ms Z C g1 g2 g3 g4 gz hs hl)
theorem V_aloadS {i : Nat} {x : Nat} (dg : decode Y.2.1 pc = .ok (.aload i, 2)) (hm : (i, vS x) ∈ ls) (k : V Y d ca sl (pc + 2) ls (vS x :: st) S M Q) : V Y d ca sl pc ls (st) S M Q := by
  intro p l e R s m args below meth c H locs cells slots G cA sa A al lc mc ms Z C g1 g2 g3 g4 gz hs hl
  exact lv_aload C.1 C.2.1 dg (xlv_at hl hm) (k p l e R s m args below meth c H locs cells slots G cA sa A al lc mc ms Z C g1 g2 g3 g4 gz hs hl)
theorem V_istore_n {i : Nat} {k4 : Fin 4} {x : Int} (dg : decode Y.2.1 pc = .ok (.istore_n k4, 1)) (hi : (k4 : Nat) = i) (hn : i < Y.2.2.1) (he : xst i (vI x) ls = ls') (k : V Y d ca sl (pc + 1) ls' st S M Q) : V Y d ca sl pc ls (vI x :: st) S M Q := by
  subst he
  intro p l e R s m args below meth c H locs cells slots G cA sa A al lc mc ms Z C g1 g2 g3 g4 gz hs hl
  exact lv_istore_n C.1 C.2.1 dg hi hl hn (xlv_st (v := vI x)) (fun lc2 hl2 => k p l e R s m args below meth c H locs cells slots G cA sa A al lc2 mc ms Z C g1 g2 g3 g4 gz hs hl2)
theorem V_lstore_n {i : Nat} {k4 : Fin 4} {x : Int} (dg : decode Y.2.1 pc = .ok (.lstore_n k4, 1)) (hi : (k4 : Nat) = i) (hn : i + 1 < Y.2.2.1) (he : xst2 i (vL x) ls = ls') (k : V Y d ca sl (pc + 1) ls' st S M Q) : V Y d ca sl pc ls (vL x :: st) S M Q := by
  subst he
  intro p l e R s m args below meth c H locs cells slots G cA sa A al lc mc ms Z C g1 g2 g3 g4 gz hs hl
  exact lv_lstore_n C.1 C.2.1 dg hi hl hn (xlv_st2 (v := vL x)) (fun lc2 hl2 => k p l e R s m args below meth c H locs cells slots G cA sa A al lc2 mc ms Z C g1 g2 g3 g4 gz hs hl2)
theorem V_astore_n {i : Nat} {k4 : Fin 4} {x : Nat} (dg : decode Y.2.1 pc = .ok (.astore_n k4, 1)) (hi : (k4 : Nat) = i) (hn : i < Y.2.2.1) (he : xst i (vR (some x)) ls = ls') (k : V Y d ca sl (pc + 1) ls' st S M Q) : V Y d ca sl pc ls (vR (some x) :: st) S M Q := by
  subst he
  intro p l e R s m args below meth c H locs cells slots G cA sa A al lc mc ms Z C g1 g2 g3 g4 gz hs hl
  exact lv_astore_n C.1 C.2.1 dg hi hl hn (xlv_st (v := vR (some x))) (fun lc2 hl2 => k p l e R s m args below meth c H locs cells slots G cA sa A al lc2 mc ms Z C g1 g2 g3 g4 gz hs hl2)
theorem V_istore {i : Nat} {x : Int} (dg : decode Y.2.1 pc = .ok (.istore i, 2)) (hn : i < Y.2.2.1) (he : xst i (vI x) ls = ls') (k : V Y d ca sl (pc + 2) ls' st S M Q) : V Y d ca sl pc ls (vI x :: st) S M Q := by
  subst he
  intro p l e R s m args below meth c H locs cells slots G cA sa A al lc mc ms Z C g1 g2 g3 g4 gz hs hl
  exact lv_istore C.1 C.2.1 dg hl hn (xlv_st (v := vI x)) (fun lc2 hl2 => k p l e R s m args below meth c H locs cells slots G cA sa A al lc2 mc ms Z C g1 g2 g3 g4 gz hs hl2)
theorem V_lstore {i : Nat} {x : Int} (dg : decode Y.2.1 pc = .ok (.lstore i, 2)) (hn : i + 1 < Y.2.2.1) (he : xst2 i (vL x) ls = ls') (k : V Y d ca sl (pc + 2) ls' st S M Q) : V Y d ca sl pc ls (vL x :: st) S M Q := by
  subst he
  intro p l e R s m args below meth c H locs cells slots G cA sa A al lc mc ms Z C g1 g2 g3 g4 gz hs hl
  exact lv_lstore C.1 C.2.1 dg hl hn (xlv_st2 (v := vL x)) (fun lc2 hl2 => k p l e R s m args below meth c H locs cells slots G cA sa A al lc2 mc ms Z C g1 g2 g3 g4 gz hs hl2)
theorem V_astore {i : Nat} {x : Nat} (dg : decode Y.2.1 pc = .ok (.astore i, 2)) (hn : i < Y.2.2.1) (he : xst i (vR (some x)) ls = ls') (k : V Y d ca sl (pc + 2) ls' st S M Q) : V Y d ca sl pc ls (vR (some x) :: st) S M Q := by
  subst he
  intro p l e R s m args below meth c H locs cells slots G cA sa A al lc mc ms Z C g1 g2 g3 g4 gz hs hl
  exact lv_astore C.1 C.2.1 dg hl hn (xlv_st (v := vR (some x))) (fun lc2 hl2 => k p l e R s m args below meth c H locs cells slots G cA sa A al lc2 mc ms Z C g1 g2 g3 g4 gz hs hl2)
theorem V_iinc {i : Nat} {n x : Int} (dg : decode Y.2.1 pc = .ok (.iinc i n, 3)) (hm : (i, vI x) ∈ ls) (hn : i < Y.2.2.1) (he : xst i (vI (x + n)) ls = ls') (k : V Y d ca sl (pc + 3) ls' st S M Q) : V Y d ca sl pc ls st S M Q := by
  subst he
  intro p l e R s m args below meth c H locs cells slots G cA sa A al lc mc ms Z C g1 g2 g3 g4 gz hs hl
  obtain ⟨j, hj⟩ := List.getElem?_of_mem (List.mem_map.mpr ⟨(i, vI x), hm, rfl⟩ : (i, em al sa (vI x)) ∈ xlv al sa ls)
  exact lv_iinc C.1 C.2.1 dg hl hj (by rw [← Int32.ofInt_add]) hn (xlv_st (v := vI (x + n))) (fun lc2 hl2 => k p l e R s m args below meth c H locs cells slots G cA sa A al lc2 mc ms Z C g1 g2 g3 g4 gz hs hl2)
theorem V_dup {v : xV} (dg : decode Y.2.1 pc = .ok (.dup, 1)) (hv : xw2 v = false) (k : V Y d ca sl (pc + 1) ls (v :: v :: st) S M Q) : V Y d ca sl pc ls (v :: st) S M Q := by
  intro p l e R s m args below meth c H locs cells slots G cA sa A al lc mc ms Z C g1 g2 g3 g4 gz hs hl
  exact lv_dup C.1 C.2.1 dg (by rw [xcat_em]; unfold xcat; rw [hv]; rfl) (k p l e R s m args below meth c H locs cells slots G cA sa A al lc mc ms Z C g1 g2 g3 g4 gz hs hl)
theorem V_pop {v : xV} (dg : decode Y.2.1 pc = .ok (.pop, 1)) (hv : xw2 v = false) (k : V Y d ca sl (pc + 1) ls (st) S M Q) : V Y d ca sl pc ls (v :: st) S M Q := by
  intro p l e R s m args below meth c H locs cells slots G cA sa A al lc mc ms Z C g1 g2 g3 g4 gz hs hl
  exact lv_pop C.1 C.2.1 dg (by rw [xcat_em]; unfold xcat; rw [hv]; rfl) (k p l e R s m args below meth c H locs cells slots G cA sa A al lc mc ms Z C g1 g2 g3 g4 gz hs hl)
theorem V_dup2 {u v : xV} (dg : decode Y.2.1 pc = .ok (.dup2, 1)) (hu : xw2 u = false) (hv : xw2 v = false) (k : V Y d ca sl (pc + 1) ls (u :: v :: u :: v :: st) S M Q) : V Y d ca sl pc ls (u :: v :: st) S M Q := by
  intro p l e R s m args below meth c H locs cells slots G cA sa A al lc mc ms Z C g1 g2 g3 g4 gz hs hl
  exact lv_dup2_11 C.1 C.2.1 dg (by rw [xcat_em]; unfold xcat; rw [hu]; rfl) (by rw [xcat_em]; unfold xcat; rw [hv]; rfl) (k p l e R s m args below meth c H locs cells slots G cA sa A al lc mc ms Z C g1 g2 g3 g4 gz hs hl)
theorem V_goto {off : Int} {tgt : Nat} (dg : decode Y.2.1 pc = .ok (.goto off, 3)) (ht : (pc : Int) + off = (tgt : Int)) (k : V Y d ca sl tgt ls (st) S M Q) : V Y d ca sl pc ls (st) S M Q := by
  intro p l e R s m args below meth c H locs cells slots G cA sa A al lc mc ms Z C g1 g2 g3 g4 gz hs hl
  exact lv_goto C.1 C.2.1 dg ht (k p l e R s m args below meth c H locs cells slots G cA sa A al lc mc ms Z C g1 g2 g3 g4 gz hs hl)
theorem V_icmp_lt {α : Type} {X1 X2 E : α} {a b : Int} {off : Int} {tgt : Nat} (dg : decode Y.2.1 pc = .ok (.if_icmp .lt off, 3)) (ht : (pc : Int) + off = (tgt : Int)) (h : (if wr a < wr b then X1 else X2) = E) (k1 : wr a < wr b → X1 = E → V Y d ca sl tgt ls st S M Q) (k2 : ¬ wr a < wr b → X2 = E → V Y d ca sl (pc + 3) ls st S M Q) : V Y d ca sl pc ls (vI b :: vI a :: st) S M Q := by
  intro p l e R s m args below meth c H locs cells slots G cA sa A al lc mc ms Z C g1 g2 g3 g4 gz hs hl
  refine lv_icmp_lt C.1 C.2.1 dg ht (fun q => ?_) (fun q => ?_)
  · have hc : wr a < wr b := by have q2 := q; simp only [wr_lt, wr_le, wr_eq, ← show Int32.ofInt 0 = (0 : Int32) from rfl] at q2; (try simp only [wr_0] at q2); omega
    rw [if_pos hc] at h
    exact k1 hc h p l e R s m args below meth c H locs cells slots G cA sa A al lc mc ms Z C g1 g2 g3 g4 gz hs hl
  · have hc : ¬ wr a < wr b := by have q2 := q; simp only [wr_lt, wr_le, wr_eq, ← show Int32.ofInt 0 = (0 : Int32) from rfl] at q2; (try simp only [wr_0] at q2); omega
    rw [if_neg hc] at h
    exact k2 hc h p l e R s m args below meth c H locs cells slots G cA sa A al lc mc ms Z C g1 g2 g3 g4 gz hs hl
theorem V_icmp_ge {α : Type} {X1 X2 E : α} {a b : Int} {off : Int} {tgt : Nat} (dg : decode Y.2.1 pc = .ok (.if_icmp .ge off, 3)) (ht : (pc : Int) + off = (tgt : Int)) (h : (if wr a < wr b then X1 else X2) = E) (k1 : wr a < wr b → X1 = E → V Y d ca sl (pc + 3) ls st S M Q) (k2 : ¬ wr a < wr b → X2 = E → V Y d ca sl tgt ls st S M Q) : V Y d ca sl pc ls (vI b :: vI a :: st) S M Q := by
  intro p l e R s m args below meth c H locs cells slots G cA sa A al lc mc ms Z C g1 g2 g3 g4 gz hs hl
  refine lv_icmp_ge C.1 C.2.1 dg ht (fun q => ?_) (fun q => ?_)
  · have hc : ¬ wr a < wr b := by have q2 := q; simp only [wr_lt, wr_le, wr_eq, ← show Int32.ofInt 0 = (0 : Int32) from rfl] at q2; (try simp only [wr_0] at q2); omega
    rw [if_neg hc] at h
    exact k2 hc h p l e R s m args below meth c H locs cells slots G cA sa A al lc mc ms Z C g1 g2 g3 g4 gz hs hl
  · have hc : wr a < wr b := by have q2 := q; simp only [wr_lt, wr_le, wr_eq, ← show Int32.ofInt 0 = (0 : Int32) from rfl] at q2; (try simp only [wr_0] at q2); omega
    rw [if_pos hc] at h
    exact k1 hc h p l e R s m args below meth c H locs cells slots G cA sa A al lc mc ms Z C g1 g2 g3 g4 gz hs hl
theorem V_icmp_gt {α : Type} {X1 X2 E : α} {a b : Int} {off : Int} {tgt : Nat} (dg : decode Y.2.1 pc = .ok (.if_icmp .gt off, 3)) (ht : (pc : Int) + off = (tgt : Int)) (h : (if wr b < wr a then X1 else X2) = E) (k1 : wr b < wr a → X1 = E → V Y d ca sl tgt ls st S M Q) (k2 : ¬ wr b < wr a → X2 = E → V Y d ca sl (pc + 3) ls st S M Q) : V Y d ca sl pc ls (vI b :: vI a :: st) S M Q := by
  intro p l e R s m args below meth c H locs cells slots G cA sa A al lc mc ms Z C g1 g2 g3 g4 gz hs hl
  refine lv_icmp_gt C.1 C.2.1 dg ht (fun q => ?_) (fun q => ?_)
  · have hc : wr b < wr a := by have q2 := q; simp only [wr_lt, wr_le, wr_eq, ← show Int32.ofInt 0 = (0 : Int32) from rfl] at q2; (try simp only [wr_0] at q2); omega
    rw [if_pos hc] at h
    exact k1 hc h p l e R s m args below meth c H locs cells slots G cA sa A al lc mc ms Z C g1 g2 g3 g4 gz hs hl
  · have hc : ¬ wr b < wr a := by have q2 := q; simp only [wr_lt, wr_le, wr_eq, ← show Int32.ofInt 0 = (0 : Int32) from rfl] at q2; (try simp only [wr_0] at q2); omega
    rw [if_neg hc] at h
    exact k2 hc h p l e R s m args below meth c H locs cells slots G cA sa A al lc mc ms Z C g1 g2 g3 g4 gz hs hl
theorem V_icmp_le {α : Type} {X1 X2 E : α} {a b : Int} {off : Int} {tgt : Nat} (dg : decode Y.2.1 pc = .ok (.if_icmp .le off, 3)) (ht : (pc : Int) + off = (tgt : Int)) (h : (if wr b < wr a then X1 else X2) = E) (k1 : wr b < wr a → X1 = E → V Y d ca sl (pc + 3) ls st S M Q) (k2 : ¬ wr b < wr a → X2 = E → V Y d ca sl tgt ls st S M Q) : V Y d ca sl pc ls (vI b :: vI a :: st) S M Q := by
  intro p l e R s m args below meth c H locs cells slots G cA sa A al lc mc ms Z C g1 g2 g3 g4 gz hs hl
  refine lv_icmp_le C.1 C.2.1 dg ht (fun q => ?_) (fun q => ?_)
  · have hc : ¬ wr b < wr a := by have q2 := q; simp only [wr_lt, wr_le, wr_eq, ← show Int32.ofInt 0 = (0 : Int32) from rfl] at q2; (try simp only [wr_0] at q2); omega
    rw [if_neg hc] at h
    exact k2 hc h p l e R s m args below meth c H locs cells slots G cA sa A al lc mc ms Z C g1 g2 g3 g4 gz hs hl
  · have hc : wr b < wr a := by have q2 := q; simp only [wr_lt, wr_le, wr_eq, ← show Int32.ofInt 0 = (0 : Int32) from rfl] at q2; (try simp only [wr_0] at q2); omega
    rw [if_pos hc] at h
    exact k1 hc h p l e R s m args below meth c H locs cells slots G cA sa A al lc mc ms Z C g1 g2 g3 g4 gz hs hl
theorem V_icmp_eq {α : Type} {X1 X2 E : α} {a b : Int} {off : Int} {tgt : Nat} (dg : decode Y.2.1 pc = .ok (.if_icmp .eq off, 3)) (ht : (pc : Int) + off = (tgt : Int)) (h : (if wr a = wr b then X1 else X2) = E) (k1 : wr a = wr b → X1 = E → V Y d ca sl tgt ls st S M Q) (k2 : ¬ wr a = wr b → X2 = E → V Y d ca sl (pc + 3) ls st S M Q) : V Y d ca sl pc ls (vI b :: vI a :: st) S M Q := by
  intro p l e R s m args below meth c H locs cells slots G cA sa A al lc mc ms Z C g1 g2 g3 g4 gz hs hl
  refine lv_icmp_eq C.1 C.2.1 dg ht (fun q => ?_) (fun q => ?_)
  · have hc : wr a = wr b := by have q2 := q; simp only [wr_lt, wr_le, wr_eq, ← show Int32.ofInt 0 = (0 : Int32) from rfl] at q2; (try simp only [wr_0] at q2); omega
    rw [if_pos hc] at h
    exact k1 hc h p l e R s m args below meth c H locs cells slots G cA sa A al lc mc ms Z C g1 g2 g3 g4 gz hs hl
  · have hc : ¬ wr a = wr b := by have q2 := q; simp only [wr_lt, wr_le, wr_eq, ← show Int32.ofInt 0 = (0 : Int32) from rfl] at q2; (try simp only [wr_0] at q2); omega
    rw [if_neg hc] at h
    exact k2 hc h p l e R s m args below meth c H locs cells slots G cA sa A al lc mc ms Z C g1 g2 g3 g4 gz hs hl
theorem V_icmp_ne {α : Type} {X1 X2 E : α} {a b : Int} {off : Int} {tgt : Nat} (dg : decode Y.2.1 pc = .ok (.if_icmp .ne off, 3)) (ht : (pc : Int) + off = (tgt : Int)) (h : (if wr a = wr b then X1 else X2) = E) (k1 : wr a = wr b → X1 = E → V Y d ca sl (pc + 3) ls st S M Q) (k2 : ¬ wr a = wr b → X2 = E → V Y d ca sl tgt ls st S M Q) : V Y d ca sl pc ls (vI b :: vI a :: st) S M Q := by
  intro p l e R s m args below meth c H locs cells slots G cA sa A al lc mc ms Z C g1 g2 g3 g4 gz hs hl
  refine lv_icmp_ne C.1 C.2.1 dg ht (fun q => ?_) (fun q => ?_)
  · have hc : ¬ wr a = wr b := by have q2 := q; simp only [wr_lt, wr_le, wr_eq, ← show Int32.ofInt 0 = (0 : Int32) from rfl] at q2; (try simp only [wr_0] at q2); omega
    rw [if_neg hc] at h
    exact k2 hc h p l e R s m args below meth c H locs cells slots G cA sa A al lc mc ms Z C g1 g2 g3 g4 gz hs hl
  · have hc : wr a = wr b := by have q2 := q; simp only [wr_lt, wr_le, wr_eq, ← show Int32.ofInt 0 = (0 : Int32) from rfl] at q2; (try simp only [wr_0] at q2); omega
    rw [if_pos hc] at h
    exact k1 hc h p l e R s m args below meth c H locs cells slots G cA sa A al lc mc ms Z C g1 g2 g3 g4 gz hs hl
theorem V_if_lt {α : Type} {X1 X2 E : α} {a : Int} {off : Int} {tgt : Nat} (dg : decode Y.2.1 pc = .ok (.ifCond .lt off, 3)) (ht : (pc : Int) + off = (tgt : Int)) (h : (if wr a < 0 then X1 else X2) = E) (k1 : wr a < 0 → X1 = E → V Y d ca sl tgt ls st S M Q) (k2 : ¬ wr a < 0 → X2 = E → V Y d ca sl (pc + 3) ls st S M Q) : V Y d ca sl pc ls (vI a :: st) S M Q := by
  intro p l e R s m args below meth c H locs cells slots G cA sa A al lc mc ms Z C g1 g2 g3 g4 gz hs hl
  refine lv_if_lt C.1 C.2.1 dg ht (fun q => ?_) (fun q => ?_)
  · have hc : wr a < 0 := by have q2 := q; simp only [wr_lt, wr_le, wr_eq, ← show Int32.ofInt 0 = (0 : Int32) from rfl] at q2; (try simp only [wr_0] at q2); omega
    rw [if_pos hc] at h
    exact k1 hc h p l e R s m args below meth c H locs cells slots G cA sa A al lc mc ms Z C g1 g2 g3 g4 gz hs hl
  · have hc : ¬ wr a < 0 := by have q2 := q; simp only [wr_lt, wr_le, wr_eq, ← show Int32.ofInt 0 = (0 : Int32) from rfl] at q2; (try simp only [wr_0] at q2); omega
    rw [if_neg hc] at h
    exact k2 hc h p l e R s m args below meth c H locs cells slots G cA sa A al lc mc ms Z C g1 g2 g3 g4 gz hs hl
theorem V_if_ge {α : Type} {X1 X2 E : α} {a : Int} {off : Int} {tgt : Nat} (dg : decode Y.2.1 pc = .ok (.ifCond .ge off, 3)) (ht : (pc : Int) + off = (tgt : Int)) (h : (if wr a < 0 then X1 else X2) = E) (k1 : wr a < 0 → X1 = E → V Y d ca sl (pc + 3) ls st S M Q) (k2 : ¬ wr a < 0 → X2 = E → V Y d ca sl tgt ls st S M Q) : V Y d ca sl pc ls (vI a :: st) S M Q := by
  intro p l e R s m args below meth c H locs cells slots G cA sa A al lc mc ms Z C g1 g2 g3 g4 gz hs hl
  refine lv_if_ge C.1 C.2.1 dg ht (fun q => ?_) (fun q => ?_)
  · have hc : ¬ wr a < 0 := by have q2 := q; simp only [wr_lt, wr_le, wr_eq, ← show Int32.ofInt 0 = (0 : Int32) from rfl] at q2; (try simp only [wr_0] at q2); omega
    rw [if_neg hc] at h
    exact k2 hc h p l e R s m args below meth c H locs cells slots G cA sa A al lc mc ms Z C g1 g2 g3 g4 gz hs hl
  · have hc : wr a < 0 := by have q2 := q; simp only [wr_lt, wr_le, wr_eq, ← show Int32.ofInt 0 = (0 : Int32) from rfl] at q2; (try simp only [wr_0] at q2); omega
    rw [if_pos hc] at h
    exact k1 hc h p l e R s m args below meth c H locs cells slots G cA sa A al lc mc ms Z C g1 g2 g3 g4 gz hs hl
theorem V_if_gt {α : Type} {X1 X2 E : α} {a : Int} {off : Int} {tgt : Nat} (dg : decode Y.2.1 pc = .ok (.ifCond .gt off, 3)) (ht : (pc : Int) + off = (tgt : Int)) (h : (if 0 < wr a then X1 else X2) = E) (k1 : 0 < wr a → X1 = E → V Y d ca sl tgt ls st S M Q) (k2 : ¬ 0 < wr a → X2 = E → V Y d ca sl (pc + 3) ls st S M Q) : V Y d ca sl pc ls (vI a :: st) S M Q := by
  intro p l e R s m args below meth c H locs cells slots G cA sa A al lc mc ms Z C g1 g2 g3 g4 gz hs hl
  refine lv_if_gt C.1 C.2.1 dg ht (fun q => ?_) (fun q => ?_)
  · have hc : 0 < wr a := by have q2 := q; simp only [wr_lt, wr_le, wr_eq, ← show Int32.ofInt 0 = (0 : Int32) from rfl] at q2; (try simp only [wr_0] at q2); omega
    rw [if_pos hc] at h
    exact k1 hc h p l e R s m args below meth c H locs cells slots G cA sa A al lc mc ms Z C g1 g2 g3 g4 gz hs hl
  · have hc : ¬ 0 < wr a := by have q2 := q; simp only [wr_lt, wr_le, wr_eq, ← show Int32.ofInt 0 = (0 : Int32) from rfl] at q2; (try simp only [wr_0] at q2); omega
    rw [if_neg hc] at h
    exact k2 hc h p l e R s m args below meth c H locs cells slots G cA sa A al lc mc ms Z C g1 g2 g3 g4 gz hs hl
theorem V_if_le {α : Type} {X1 X2 E : α} {a : Int} {off : Int} {tgt : Nat} (dg : decode Y.2.1 pc = .ok (.ifCond .le off, 3)) (ht : (pc : Int) + off = (tgt : Int)) (h : (if 0 < wr a then X1 else X2) = E) (k1 : 0 < wr a → X1 = E → V Y d ca sl (pc + 3) ls st S M Q) (k2 : ¬ 0 < wr a → X2 = E → V Y d ca sl tgt ls st S M Q) : V Y d ca sl pc ls (vI a :: st) S M Q := by
  intro p l e R s m args below meth c H locs cells slots G cA sa A al lc mc ms Z C g1 g2 g3 g4 gz hs hl
  refine lv_if_le C.1 C.2.1 dg ht (fun q => ?_) (fun q => ?_)
  · have hc : ¬ 0 < wr a := by have q2 := q; simp only [wr_lt, wr_le, wr_eq, ← show Int32.ofInt 0 = (0 : Int32) from rfl] at q2; (try simp only [wr_0] at q2); omega
    rw [if_neg hc] at h
    exact k2 hc h p l e R s m args below meth c H locs cells slots G cA sa A al lc mc ms Z C g1 g2 g3 g4 gz hs hl
  · have hc : 0 < wr a := by have q2 := q; simp only [wr_lt, wr_le, wr_eq, ← show Int32.ofInt 0 = (0 : Int32) from rfl] at q2; (try simp only [wr_0] at q2); omega
    rw [if_pos hc] at h
    exact k1 hc h p l e R s m args below meth c H locs cells slots G cA sa A al lc mc ms Z C g1 g2 g3 g4 gz hs hl
theorem V_if_eq {α : Type} {X1 X2 E : α} {a : Int} {off : Int} {tgt : Nat} (dg : decode Y.2.1 pc = .ok (.ifCond .eq off, 3)) (ht : (pc : Int) + off = (tgt : Int)) (h : (if wr a = 0 then X1 else X2) = E) (k1 : wr a = 0 → X1 = E → V Y d ca sl tgt ls st S M Q) (k2 : ¬ wr a = 0 → X2 = E → V Y d ca sl (pc + 3) ls st S M Q) : V Y d ca sl pc ls (vI a :: st) S M Q := by
  intro p l e R s m args below meth c H locs cells slots G cA sa A al lc mc ms Z C g1 g2 g3 g4 gz hs hl
  refine lv_if_eq C.1 C.2.1 dg ht (fun q => ?_) (fun q => ?_)
  · have hc : wr a = 0 := by have q2 := q; simp only [wr_lt, wr_le, wr_eq, ← show Int32.ofInt 0 = (0 : Int32) from rfl] at q2; (try simp only [wr_0] at q2); omega
    rw [if_pos hc] at h
    exact k1 hc h p l e R s m args below meth c H locs cells slots G cA sa A al lc mc ms Z C g1 g2 g3 g4 gz hs hl
  · have hc : ¬ wr a = 0 := by have q2 := q; simp only [wr_lt, wr_le, wr_eq, ← show Int32.ofInt 0 = (0 : Int32) from rfl] at q2; (try simp only [wr_0] at q2); omega
    rw [if_neg hc] at h
    exact k2 hc h p l e R s m args below meth c H locs cells slots G cA sa A al lc mc ms Z C g1 g2 g3 g4 gz hs hl
theorem V_if_ne {α : Type} {X1 X2 E : α} {a : Int} {off : Int} {tgt : Nat} (dg : decode Y.2.1 pc = .ok (.ifCond .ne off, 3)) (ht : (pc : Int) + off = (tgt : Int)) (h : (if wr a = 0 then X1 else X2) = E) (k1 : wr a = 0 → X1 = E → V Y d ca sl (pc + 3) ls st S M Q) (k2 : ¬ wr a = 0 → X2 = E → V Y d ca sl tgt ls st S M Q) : V Y d ca sl pc ls (vI a :: st) S M Q := by
  intro p l e R s m args below meth c H locs cells slots G cA sa A al lc mc ms Z C g1 g2 g3 g4 gz hs hl
  refine lv_if_ne C.1 C.2.1 dg ht (fun q => ?_) (fun q => ?_)
  · have hc : ¬ wr a = 0 := by have q2 := q; simp only [wr_lt, wr_le, wr_eq, ← show Int32.ofInt 0 = (0 : Int32) from rfl] at q2; (try simp only [wr_0] at q2); omega
    rw [if_neg hc] at h
    exact k2 hc h p l e R s m args below meth c H locs cells slots G cA sa A al lc mc ms Z C g1 g2 g3 g4 gz hs hl
  · have hc : wr a = 0 := by have q2 := q; simp only [wr_lt, wr_le, wr_eq, ← show Int32.ofInt 0 = (0 : Int32) from rfl] at q2; (try simp only [wr_0] at q2); omega
    rw [if_pos hc] at h
    exact k1 hc h p l e R s m args below meth c H locs cells slots G cA sa A al lc mc ms Z C g1 g2 g3 g4 gz hs hl
theorem V_if_eqB {α : Type} {X1 X2 E : α} {b : Bool} {off : Int} {tgt : Nat} (dg : decode Y.2.1 pc = .ok (.ifCond .eq off, 3)) (ht : (pc : Int) + off = (tgt : Int)) (h : (if b = true then X1 else X2) = E) (k1 : b = true → X1 = E → V Y d ca sl (pc + 3) ls st S M Q) (k2 : ¬ b = true → X2 = E → V Y d ca sl tgt ls st S M Q) : V Y d ca sl pc ls (vI (b2i b) :: st) S M Q := by
  cases b with
  | true => exact V_if_eq (X1 := X2) (X2 := X1) (E := E) dg ht (by rw [if_neg (by decide)]; rw [if_pos rfl] at h; exact h) (fun q _ => absurd q (by decide)) (fun _ h => k1 rfl h)
  | false => exact V_if_eq (X1 := X2) (X2 := X1) (E := E) dg ht (by rw [if_pos (by decide)]; rw [if_neg (by decide)] at h; exact h) (fun _ h => k2 (by decide) h) (fun q _ => absurd (by decide) q)
theorem V_if_neB {α : Type} {X1 X2 E : α} {b : Bool} {off : Int} {tgt : Nat} (dg : decode Y.2.1 pc = .ok (.ifCond .ne off, 3)) (ht : (pc : Int) + off = (tgt : Int)) (h : (if b = true then X1 else X2) = E) (k1 : b = true → X1 = E → V Y d ca sl tgt ls st S M Q) (k2 : ¬ b = true → X2 = E → V Y d ca sl (pc + 3) ls st S M Q) : V Y d ca sl pc ls (vI (b2i b) :: st) S M Q := by
  cases b with
  | true => exact V_if_ne (X1 := X2) (X2 := X1) (E := E) dg ht (by rw [if_neg (by decide)]; rw [if_pos rfl] at h; exact h) (fun q _ => absurd q (by decide)) (fun _ h => k1 rfl h)
  | false => exact V_if_ne (X1 := X2) (X2 := X1) (E := E) dg ht (by rw [if_pos (by decide)]; rw [if_neg (by decide)] at h; exact h) (fun _ h => k2 (by decide) h) (fun q _ => absurd (by decide) q)
theorem V_ret (dg : decode Y.2.1 pc = .ok (.return_, 1)) (hr : Y.2.2.2.1 = none) (hq : Q none S M) : V Y d ca sl pc ls [] S M Q := by
  intro p l e R s m args below meth c H locs cells slots G cA sa A al lc mc ms Z C g1 g2 g3 g4 gz hs hl
  have z := gz H locs cells slots [] S M none pc lc hq (by rw [List.append_nil]; exact hs) (by omega) (by omega) (Or.inl ⟨rfl, hr, dg⟩)
  exact z
theorem V_ireti {x : Int} (dg : decode Y.2.1 pc = .ok (.ireturn, 1)) (hr : Y.2.2.2.1 = some .int) (hq : Q (some (vI x)) S M) : V Y d ca sl pc ls [vI x] S M Q := by
  intro p l e R s m args below meth c H locs cells slots G cA sa A al lc mc ms Z C g1 g2 g3 g4 gz hs hl
  have z := gz H locs cells slots [] S M (some (vI x)) pc lc hq (by rw [List.append_nil]; exact hs) (by omega) (by omega) (Or.inr (Or.inl ⟨x, .int, rfl, hr, rfl, dg⟩))
  exact z
theorem V_iretc {x : Int} (dg : decode Y.2.1 pc = .ok (.ireturn, 1)) (hr : Y.2.2.2.1 = some .char) (hx : xchr x = x) (hq : Q (some (vI x)) S M) : V Y d ca sl pc ls [vI x] S M Q := by
  intro p l e R s m args below meth c H locs cells slots G cA sa A al lc mc ms Z C g1 g2 g3 g4 gz hs hl
  have z := gz H locs cells slots [] S M (some (vI x)) pc lc hq (by rw [List.append_nil]; exact hs) (by omega) (by omega) (Or.inr (Or.inl ⟨x, .char, rfl, hr, by rw [← hx, ← xchr_of]; exact pk_nc _, dg⟩))
  exact z
theorem b2i_narrow (b : Bool) : narrow .boolean (.int (Int32.ofInt (b2i b))) = .int (Int32.ofInt (b2i b)) := by cases b <;> decide
theorem V_iretb {b : Bool} {x : Int} (dg : decode Y.2.1 pc = .ok (.ireturn, 1)) (hr : Y.2.2.2.1 = some .boolean) (hx : x = b2i b) (hq : Q (some (vI (b2i b))) S M) : V Y d ca sl pc ls [vI x] S M Q := by
  subst hx
  intro p l e R s m args below meth c H locs cells slots G cA sa A al lc mc ms Z C g1 g2 g3 g4 gz hs hl
  have z := gz H locs cells slots [] S M (some (vI (b2i b))) pc lc hq (by rw [List.append_nil]; exact hs) (by omega) (by omega) (Or.inr (Or.inl ⟨b2i b, .boolean, rfl, hr, b2i_narrow b, dg⟩))
  exact z
theorem V_lret {x : Int} (dg : decode Y.2.1 pc = .ok (.lreturn, 1)) (hr : Y.2.2.2.1 = some .long) (hq : Q (some (vL x)) S M) : V Y d ca sl pc ls [vL x] S M Q := by
  intro p l e R s m args below meth c H locs cells slots G cA sa A al lc mc ms Z C g1 g2 g3 g4 gz hs hl
  have z := gz H locs cells slots [] S M (some (vL x)) pc lc hq (by rw [List.append_nil]; exact hs) (by omega) (by omega) (Or.inr (Or.inr ⟨x, rfl, hr, dg⟩))
  exact z
theorem V.mono {d' ca' sl' : Nat} (k : V Y d ca sl pc ls st S M Q) (h1 : d ≤ d') (h2 : ca ≤ ca') (h3 : sl ≤ sl') : V Y d' ca' sl' pc ls st S M Q := by
  intro p l e R s m args below meth c H locs cells slots G cA sa A al lc mc ms Z C g1 g2 g3 g4 gz hs hl
  obtain ⟨c1, c2, c3, c4, c5, c6, c7, c8, c9⟩ := C
  exact k p l e R s m args below meth c H locs cells slots G cA sa A al lc mc ms Z ⟨c1, c2, c3, c4, c5, c6, by omega, by omega, c9⟩ (by omega) (by omega) g3 g4 gz hs hl
theorem V.sub (k : V Y d ca sl pc ls' st S M Q) (h : ∀ q ∈ ls', q ∈ ls) : V Y d ca sl pc ls st S M Q := by
  intro p l e R s m args below meth c H locs cells slots G cA sa A al lc mc ms Z C g1 g2 g3 g4 gz hs hl
  refine k p l e R s m args below meth c H locs cells slots G cA sa A al lc mc ms Z C g1 g2 g3 g4 gz hs ⟨hl.1, hl.2.1, fun q hq => ?_⟩
  obtain ⟨z, hz, rfl⟩ := List.mem_map.mp hq
  exact hl.2.2 _ (List.mem_map.mpr ⟨z, h z hz, rfl⟩)
theorem V.weak {Q2 : Option xV → xS → xM → Prop} (k : V Y d ca sl pc ls st S M Q2) (h : ∀ rv S M, Q2 rv S M → Q rv S M) : V Y d ca sl pc ls st S M Q := by
  intro p l e R s m args below meth c H locs cells slots G cA sa A al lc mc ms Z C g1 g2 g3 g4 gz hs hl
  exact k p l e R s m args below meth c H locs cells slots G cA sa A al lc mc ms Z C g1 g2 g3 g4 (fun H locs cells slots ex S M rv pc lc hq => gz H locs cells slots ex S M rv pc lc (h rv S M hq)) hs hl
end VR
