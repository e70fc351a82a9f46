/-! the noons that may be undone: the class's, behind one more noon -/
theorem keepB_old {W B : Int → Int} {b i x : Int} (hb : 0 ≤ b ∧ b ≤ 10) (hi : 0 ≤ i ∧ i < kB1 b) (hx : 0 ≤ x ∧ x < 14) : keepB W B b (14 * i + x) = B (14 * (if b = 10 then i + 1 else i) + x) := by
  unfold keepB
  unfold kB1 at hi ⊢
  by_cases h : b = 10
  · rw [if_pos h] at hi
    rw [if_pos h, if_pos h, if_neg (by omega), if_neg (by omega), if_neg (by omega), if_neg (by omega), if_pos (by omega)]
    congr 1
    omega
  · rw [if_neg h] at hi
    rw [if_neg h, if_neg h, if_neg (by omega), if_neg (by omega), if_neg (by omega), if_neg (by omega), if_neg (by omega)]
theorem keepB_new {W B : Int → Int} {b : Int} : keepB W B b (14 * kB1 b) = W 1 ∧ keepB W B b (14 * kB1 b + 1) = W 2 ∧ keepB W B b (14 * kB1 b + 2) = W 3 ∧ ∀ p, 0 ≤ p → p < 10 → keepB W B b (14 * kB1 b + 3 + p) = W (23 + 4 * p) := by
  unfold keepB
  generalize kB1 b = k
  refine ⟨by rw [if_pos rfl], by rw [if_neg (by omega), if_pos rfl], by rw [if_neg (by omega), if_neg (by omega), if_pos rfl], ?_⟩
  intro p p0 p1
  rw [if_neg (by omega), if_neg (by omega), if_neg (by omega), if_pos (by omega)]
  congr 1
  omega
theorem hist_step {K Z : xM} {W B : Int → Int} {b : Int} {q : Nat} (h : rHg K W B b) (i : rI K W) (g : gW W) (hq : K 79 1 = q) (hq2 : q < 10) (z0 : Z 79 0 = min (K 79 0 + 1) 10) (z1 : Z 79 1 = ((q : Int) + 1) % 10) (z80 : ∀ j, Z 80 j = if j = q then K 1 1 else K 80 j) (z81 : ∀ j, Z 81 j = if j = q then K 1 3 else K 81 j) (z82 : ∀ j, Z 82 j = if j = q then K 1 5 else K 82 j) (z84 : ∀ j, 0 ≤ j → j < 10 → Z (84 + q) j = K 9 j) (zo : ∀ r : Nat, r < 10 → r ≠ q → Z (84 + r) = K (84 + r)) : rHg Z (sNoon W) (keepB W B b) (kB1 b + 1) := by
  obtain ⟨h1, h2, h3, h4⟩ := h
  have gb := g.1
  have iB := i.1
  unfold gB at gb
  unfold rB at iB
  have kb : kB1 b = if b = 10 then 9 else b := rfl
  have n0 : sNoon W 0 = W 0 := by rw [sNoon_o (by omega) (by omega) (by omega), sV_o (by omega) (by omega) (by omega)]
  have n5 : sNoon W 5 = W 5 := by rw [sNoon_o (by omega) (by omega) (by omega), sV_o (by omega) (by omega) (by omega)]
  have kr : 0 ≤ kB1 b ∧ kB1 b ≤ 9 ∧ kB1 b ≤ b ∧ (b < 10 → kB1 b = b) ∧ (b = 10 → kB1 b = 9) := by
    rw [kb]
    split <;> omega
  refine ⟨by rw [z0, h1]; omega, by rw [sNoon_9]; omega, by rw [z1]; omega, ?_⟩
  intro e e0 e1 r hr
  rw [z1] at hr
  rw [n0, n5, sNoon_2, sNoon_9]
  have kn := keepB_new (W := W) (B := B) (b := b)
  by_cases he : e = kB1 b
  · subst he
    have er : r = q := by omega
    subst er
    rw [z80, z81, z82, if_pos rfl, if_pos rfl, if_pos rfl, kn.1, kn.2.1, kn.2.2.1, iB.1.2.1, iB.1.2.2.2.1, iB.1.2.2.2.2.2]
    refine ⟨by omega, by omega, by omega, by omega, ?_⟩
    intro p p0 p1
    rw [z84 p p0 (by omega), kn.2.2.2 p p0 (by omega)]
    exact (i.2.2.2.2.1 p p0 p1).2.2.2.1
  · have hk : 0 ≤ e ∧ e < kB1 b := by omega
    have o0 := keepB_old (W := W) (B := B) (b := b) (i := e) (x := 0) (by omega) hk (by omega)
    have o1 := keepB_old (W := W) (B := B) (b := b) (i := e) (x := 1) (by omega) hk (by omega)
    have o2 := keepB_old (W := W) (B := B) (b := b) (i := e) (x := 2) (by omega) hk (by omega)
    rw [Int.add_zero, Int.add_zero] at o0
    obtain ⟨f, hf⟩ : ∃ f, f = (if b = 10 then e + 1 else e) := ⟨_, rfl⟩
    rw [← hf] at o0 o1 o2
    have fr : (b = 10 → f = e + 1) ∧ (b ≠ 10 → f = e) := by
      rw [hf]
      constructor
      · intro w; rw [if_pos w]
      · intro w; rw [if_neg w]
    have old := h4 f (by omega) (by omega) r (by rw [hq]; omega)
    have rq : r ≠ q := by
      intro w
      subst w
      omega
    rw [z80, z81, z82, if_neg (by omega), if_neg (by omega), if_neg (by omega), o0, o1, o2, zo r (by omega) rq]
    refine ⟨old.1, by omega, old.2.2.1, by omega, ?_⟩
    intro p p0 p1
    have o3 := keepB_old (W := W) (B := B) (b := b) (i := e) (x := 3 + p) (by omega) hk (by omega)
    rw [← hf, ← Int.add_assoc, ← Int.add_assoc] at o3
    rw [o3]
    exact old.2.2.2.2 p p0 p1
