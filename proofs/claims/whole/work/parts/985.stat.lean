/-! what the start gives: the static tables, the literals, the classes -/
def xtm (i : Nat) : Term := .string (xSR.getD i ("", 0, "", 0)).1 (xSR.getD i ("", 0, "", 0)).2.1
def xfc : List Cond := flatC (Jvm.Cond.and given_1 narrow_1)
theorem xf_ex : ∀ i : Nat, i < 14 → Cond.exactly (xtm i) "java/lang/String" ∈ xfc := by decide +kernel
theorem xf_co : ∀ i : Nat, i < 14 → Cond.eq (.field (xtm i) "java/lang/String" "coder" "B") (.int 0) ∈ xfc := by decide +kernel
theorem xf_ar : ∀ i : Nat, i < 14 → Cond.arrayOf (.field (xtm i) "java/lang/String" "value" "[B") .byte ∈ xfc := by decide +kernel
theorem xf_le : ∀ i : Nat, i < 14 → Cond.eq (.length (.field (xtm i) "java/lang/String" "value" "[B")) (.int (Int32.ofNat (xlen.getD i 0))) ∈ xfc := by decide +kernel
theorem xf_el : ∀ i : Nat, i < 14 → ∀ j : Nat, j < xlen.getD i 0 → Cond.eq (.elem (.field (xtm i) "java/lang/String" "value" "[B") (.int (Int32.ofNat j))) (.int ((xbyt.getD i []).getD j 0)) ∈ xfc := by decide +kernel
theorem xf_n1 : ∀ j : Nat, j < 1 → Cond.not (Cond.eq (xtm j) (xtm 1)) ∈ xfc := by decide +kernel
theorem xf_n2 : ∀ j : Nat, j < 2 → Cond.not (Cond.eq (xtm j) (xtm 2)) ∈ xfc := by decide +kernel
theorem xf_n3 : ∀ j : Nat, j < 3 → Cond.not (Cond.eq (xtm j) (xtm 3)) ∈ xfc := by decide +kernel
theorem xf_n4 : ∀ j : Nat, j < 4 → Cond.not (Cond.eq (xtm j) (xtm 4)) ∈ xfc := by decide +kernel
theorem xf_n5 : ∀ j : Nat, j < 5 → Cond.not (Cond.eq (xtm j) (xtm 5)) ∈ xfc := by decide +kernel
theorem xf_n6 : ∀ j : Nat, j < 6 → Cond.not (Cond.eq (xtm j) (xtm 6)) ∈ xfc := by decide +kernel
theorem xf_n7 : ∀ j : Nat, j < 7 → Cond.not (Cond.eq (xtm j) (xtm 7)) ∈ xfc := by decide +kernel
theorem xf_n8 : ∀ j : Nat, j < 8 → Cond.not (Cond.eq (xtm j) (xtm 8)) ∈ xfc := by decide +kernel
theorem xf_n9 : ∀ j : Nat, j < 9 → Cond.not (Cond.eq (xtm j) (xtm 9)) ∈ xfc := by decide +kernel
theorem xf_n10 : ∀ j : Nat, j < 10 → Cond.not (Cond.eq (xtm j) (xtm 10)) ∈ xfc := by decide +kernel
theorem xf_n11 : ∀ j : Nat, j < 11 → Cond.not (Cond.eq (xtm j) (xtm 11)) ∈ xfc := by decide +kernel
theorem xf_n12 : ∀ j : Nat, j < 12 → Cond.not (Cond.eq (xtm j) (xtm 12)) ∈ xfc := by decide +kernel
theorem xf_n13 : ∀ j : Nat, j < 13 → Cond.not (Cond.eq (xtm j) (xtm 13)) ∈ xfc := by decide +kernel
theorem xf_nl : ∀ i : Nat, i < 14 → ∀ j : Nat, j < i → Cond.not (Cond.eq (xtm j) (xtm i)) ∈ xfc := by
  intro i hi
  match i, hi with
  | 0, _ => exact fun j h => absurd h (Nat.not_lt_zero j)
  | 1, _ => exact xf_n1
  | 2, _ => exact xf_n2
  | 3, _ => exact xf_n3
  | 4, _ => exact xf_n4
  | 5, _ => exact xf_n5
  | 6, _ => exact xf_n6
  | 7, _ => exact xf_n7
  | 8, _ => exact xf_n8
  | 9, _ => exact xf_n9
  | 10, _ => exact xf_n10
  | 11, _ => exact xf_n11
  | 12, _ => exact xf_n12
  | 13, _ => exact xf_n13
  | k + 14, hi => exact absurd hi (by omega)
theorem xf_ne (i : Nat) (hi : i < 14) (j : Nat) (hj : j < 14) (hn : i ≠ j) : (Cond.not (Cond.eq (xtm i) (xtm j)) ∈ xfc ∨ Cond.not (Cond.eq (xtm j) (xtm i)) ∈ xfc) := by
  rcases Nat.lt_or_gt_of_ne hn with h | h
  · exact Or.inl (xf_nl j hj i h)
  · exact Or.inr (xf_nl i hi j h)
theorem xf_oe : ∀ j : Nat, j < 3 → Cond.eq (.elem (.static "TurnedIsland" "ORDER" "[I") (.int (Int32.ofNat j))) (.int (Int32.ofInt (([0, 1, -1] : List Int).getD j 0))) ∈ xfc := by decide +kernel
theorem xf_fe : ∀ j : Nat, j < 10 → Cond.eq (.elem (.static "TurnedIsland$Plots" "FACTORIALS" "[I") (.int (Int32.ofNat j))) (.int (Int32.ofInt (([1, 1, 2, 6, 24, 120, 720, 5040, 40320, 362880] : List Int).getD j 0))) ∈ xfc := by decide +kernel
theorem xt_nm : ∀ q ∈ xNM, Cond.methodLinkNest q.1 q.2.1 q.2.2.1 q.2.2.2 ∈ lw_tbl := by decide +kernel
theorem xt_nf : ∀ q ∈ xNF, Cond.fieldLinkNest q.1 q.2.1 q.2.2.1 q.2.2.2.1 q.2.2.2.2.1 q.2.2.2.2.2 ∈ lw_tbl := by decide +kernel
theorem xt_sr : ∀ q ∈ xSR, Cond.stringRef q.1 q.2.1 q.2.2.1 ∈ lw_tbl := by decide +kernel
theorem xt_st : ∀ q ∈ xSR, q.2.2.2 < 14 ∧ xtm q.2.2.2 = .string q.1 q.2.1 := by decide +kernel
theorem xstr {b : Nat} {s : State} {A : Nat → Prop} (hgv : (Jvm.Cond.and given_1 narrow_1).before #[Value.ref b] s = true) (hA : ∀ a : Nat, a < s.heap.size → ¬ A a) : ∃ adK adV : Nat → Nat, vk_S 14 xlen xbyt adK adV A s s.heap ∧ ∀ i : Nat, i < 14 → (xtm i).eval #[Value.ref b] s none [] s = some (.ref (adK i)) := by
  have hF := flat_of_before _ hgv
  exact vk_Sof (tm := xtm) (by decide +kernel) (fun i hi => hF _ (xf_ex i hi)) (fun i hi => hF _ (xf_co i hi)) (fun i hi => hF _ (xf_ar i hi)) (fun i hi => hF _ (xf_le i hi)) (fun i hi j hj => hF _ (xf_el i hi j hj)) (fun i j hi hj hn => (xf_ne i hi j hj hn).imp (hF _) (hF _)) hA
def xsa (o f b t : Nat) (adK adV : Nat → Nat) (i : Nat) : Nat := if i = 1 then o else if i = 2 then f else if i = 3 then b else if i = 4 then t else if i < 30 then adK (i - 10) else adV (i - 30)
theorem xsa_K {o f b t : Nat} {adK adV : Nat → Nat} (i : Nat) (hi : i < 14) : xsa o f b t adK adV (10 + i) = adK i := by
  unfold xsa
  rw [if_neg (by omega), if_neg (by omega), if_neg (by omega), if_neg (by omega), if_pos (by omega), Nat.add_sub_cancel_left]
theorem xsa_V {o f b t : Nat} {adK adV : Nat → Nat} (i : Nat) : xsa o f b t adK adV (30 + i) = adV i := by
  unfold xsa
  rw [if_neg (by omega), if_neg (by omega), if_neg (by omega), if_neg (by omega), if_neg (by omega), Nat.add_sub_cancel_left]
theorem xstart_stat {b : Nat} {s : State} {A : Nat → Prop} (hts : ∀ w ∈ lw_tbl, w.before #[Value.ref b] s = true) (hgv : (Jvm.Cond.and given_1 narrow_1).before #[Value.ref b] s = true) (hA : ∀ a : Nat, a < s.heap.size → ¬ A a) : ∃ sa : Nat → Nat, sa 3 = b ∧ xStat sa A s := by
  have hF := flat_of_before _ hgv
  obtain ⟨o, ho, hTo⟩ := va_Tof (tm := .static "TurnedIsland" "ORDER" "[I") (ty := .int) (N := 3) (f := fun j => .int (Int32.ofInt (([0, 1, -1] : List Int).getD j 0))) (A := A) (by decide) (hF _ (by decide +kernel)) (va_eqt (hF (Cond.eq (.length (.static "TurnedIsland" "ORDER" "[I")) (.int (Int32.ofNat 3))) (by decide +kernel))) (fun j hj => va_eqt (hF _ (xf_oe j hj))) hA
  obtain ⟨f, hf, hTf⟩ := va_Tof (tm := .static "TurnedIsland$Plots" "FACTORIALS" "[I") (ty := .int) (N := 10) (f := fun j => .int (Int32.ofInt (([1, 1, 2, 6, 24, 120, 720, 5040, 40320, 362880] : List Int).getD j 0))) (A := A) (by decide) (hF _ (by decide +kernel)) (va_eqt (hF (Cond.eq (.length (.static "TurnedIsland$Plots" "FACTORIALS" "[I")) (.int (Int32.ofNat 10))) (by decide +kernel))) (fun j hj => va_eqt (hF _ (xf_fe j hj))) hA
  have hZo : va_Z "TurnedIsland" "ORDER" "[I" (.ref o) A s s.heap := va_Zref (hts _ (by decide +kernel)) (hts _ (by decide +kernel)) ho hA
  have hZf : va_Z "TurnedIsland$Plots" "FACTORIALS" "[I" (.ref f) A s s.heap := va_Zref (hts _ (by decide +kernel)) (hts _ (by decide +kernel)) hf hA
  have hZc : va_Z "java/lang/String" "COMPACT_STRINGS" "Z" (.int 1) A s s.heap := va_Zof (hts _ (by decide +kernel)) (hts _ (by decide +kernel)) (va_eqt (hF _ (by decide +kernel))) hA
  have hZq : va_Zq "jdk/internal/util/Preconditions" "SIOOBE_FORMATTER" "Ljava/util/function/BiFunction;" A s s.heap := va_Zqof (hts _ (by decide +kernel)) (hts _ (by decide +kernel)) (hF _ (by decide +kernel)) hA
  obtain ⟨t, ht⟩ : ∃ t : Nat, va_Z "jdk/internal/util/Preconditions" "SIOOBE_FORMATTER" "Ljava/util/function/BiFunction;" .null A s s.heap ∨ va_Z "jdk/internal/util/Preconditions" "SIOOBE_FORMATTER" "Ljava/util/function/BiFunction;" (.ref t) A s s.heap := by
    rcases hZq with h | ⟨t, h⟩
    · exact ⟨0, Or.inl h⟩
    · exact ⟨t, Or.inr h⟩
  obtain ⟨adK, adV, hS, hev⟩ := xstr hgv hA
  have hao : va_AO "TurnedIsland$Want" s := va_AO.of (hts (.arrayOver (.object "TurnedIsland$Want")) (by decide +kernel))
  have haa : va_AOA .int s := hts (.arrayOver (.array .int)) (by decide +kernel)
  refine ⟨xsa o f b t adK adV, rfl, fun q hq => va_Nw.of rfl (hts _ (xt_nm q hq)), fun q hq => va_Nw.of rfl (hts _ (xt_nf q hq)), ?_, ?_, ⟨hZc, hao, haa⟩, ht, ?_, ?_⟩
  · exact List.forall_mem_cons.mpr ⟨hZo, List.forall_mem_cons.mpr ⟨hZf, fun _ h => absurd h List.not_mem_nil⟩⟩
  · exact List.forall_mem_cons.mpr ⟨hTo, List.forall_mem_cons.mpr ⟨hTf, fun _ h => absurd h List.not_mem_nil⟩⟩
  · intro q hq
    obtain ⟨h1, h2⟩ := xt_st q hq
    rw [xsa_K _ h1]
    refine vk_R.of (hts _ (xt_sr q hq)) ?_
    rw [← h2]
    exact hev _ h1
  · refine ⟨fun i hi => ?_, fun i j hi hj e => ?_⟩
    · dsimp only
      rw [xsa_K i hi, xsa_V i]
      exact hS.1 i hi
    · dsimp only at e
      rw [xsa_K i hi, xsa_K j hj] at e
      exact hS.2 i j hi hj e
