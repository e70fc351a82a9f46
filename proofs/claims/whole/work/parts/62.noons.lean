/-! many noons: the class -/
def nS (W B : Int → Int) (b : Int) : Nat → (Int → Int) × (Int → Int) × Int
  | 0 => (W, B, b)
  | n + 1 => nS (sNoon W) (keepB W B b) (kB1 b + 1) n
def nMade (W : Int → Int) : Nat → Int
  | 0 => 0
  | n + 1 => (if sTurn W = 0 then 0 else 1) + nMade (sNoon W) n
theorem nS_split (n : Nat) : ∀ (W B : Int → Int) (b : Int), nS W B b (n + 1) = nS (sNoon W) (keepB W B b) (kB1 b + 1) n := fun _ _ _ => rfl
theorem noonsK_q {v1 : Int} (hv : 0 ≤ v1 ∧ v1 ≤ 400) (m : Nat) : ∀ (n : Nat) (K : xM) (W B : Int → Int) (b c x v : Int), rI K W → gW W → rMemo c K W → rHg K W B b → c < 1700000000 - 50 * (m : Int) → W 2 + m ≤ 9999 → 0 ≤ v → v + m = v1 → m < n → yk (fX11_noons_L32 n K v1 x v) fun q => q.1 = x + nMade W m ∧ rI q.2 (nS W B b m).1 ∧ gW (nS W B b m).1 ∧ rMemo (c + 50 * m) q.2 (nS W B b m).1 ∧ rHg q.2 (nS W B b m).1 (nS W B b m).2.1 (nS W B b m).2.2 ∧ ∀ o, (o < 43 ∨ 49 < o) → o ≠ 1 → o ≠ 3 → o ≠ 9 → o ≠ 11 → (o < 79 ∨ 93 < o) → q.2 o = K o := by
  induction m with
  | zero =>
    intro n K W B b c x v i g me h hc hd v0 v1' hn
    obtain ⟨n', rfl⟩ : ∃ n', n = n' + 1 := ⟨n - 1, by omega⟩
    unfold fX11_noons_L32
    rw [if_neg (by rw [wr_id (by omega) (by omega), wr_id (by omega) (by omega)]; omega), yk_some]
    refine ⟨?_, i, g, rMemo_le me (by omega), h, fun _ _ _ _ _ _ _ => rfl⟩
    show x = x + 0
    omega
  | succ m ih =>
    intro n K W B b c x v i g me h hc hd v0 v1' hn
    obtain ⟨n', rfl⟩ : ∃ n', n = n' + 1 := ⟨n - 1, by omega⟩
    have h' := h
    obtain ⟨h1, h2, h3, h4⟩ := h'
    have tr := sTurn_rng W
    obtain ⟨q, hq⟩ := Int.eq_ofNat_of_zero_le h3.1
    have hq2 : q < 10 := by omega
    have gn := gW_noon g (by omega)
    unfold fX11_noons_L32
    rw [if_pos (by rw [wr_id (by omega) (by omega), wr_id (by omega) (by omega)]; omega), yk_xb]
    refine yk.mono (keepK_e (q := q) hq hq2 (by omega)) ?_
    intro K1 k1
    obtain ⟨k1, k2, k3, k4, k5, k6, k7⟩ := k1
    have i1 : rI K1 W := rI_fr2 i g (fun o o1 o2 _ _ => k1 o (by omega) (by omega) (by omega) (by omega) (by omega))
    have me1 : rMemo c K1 W := rMemo_fr me g.2.2.2.2.2.2.2.2.2 ⟨k1 _ (by omega) (by omega) (by omega) (by omega) (by omega), k1 _ (by omega) (by omega) (by omega) (by omega) (by omega), k1 _ (by omega) (by omega) (by omega) (by omega) (by omega), k1 _ (by omega) (by omega) (by omega) (by omega) (by omega), k1 _ (by omega) (by omega) (by omega) (by omega) (by omega)⟩ (fun k hk => k1 _ (by omega) (by omega) (by omega) (by omega) (by omega)) (fun _ _ => rfl) (fun _ _ _ => rfl)
    rw [yk_xb2]
    refine yk.mono (passNoon_e i1 g me1 (by omega) (by omega)) ?_
    intro z hz
    obtain ⟨z1, z2, z3, z4⟩ := hz
    have zf : ∀ o, 79 ≤ o → z.2 o = K1 o := fun o ho => z4 o (by omega) (by omega) (by omega) (by omega) (by omega)
    have hs : rHg z.2 (sNoon W) (keepB W B b) (kB1 b + 1) := hist_step (q := q) h i g hq hq2 (by rw [zf 79 (by omega)]; exact k2) (by rw [zf 79 (by omega)]; exact k3) (fun j => by rw [zf 80 (by omega)]; exact k4 j) (fun j => by rw [zf 81 (by omega)]; exact k5 j) (fun j => by rw [zf 82 (by omega)]; exact k6 j) (fun j j0 j1 => by rw [zf (84 + q) (by omega)]; exact k7 j j0 j1) (fun r r0 r1 => by rw [zf (84 + r) (by omega)]; exact k1 (84 + r) (by omega) (by omega) (by omega) (by omega) (by omega))
    have fr : ∀ o, (o < 43 ∨ 49 < o) → o ≠ 1 → o ≠ 3 → o ≠ 9 → o ≠ 11 → (o < 79 ∨ 93 < o) → z.2 o = K o := fun o a b c d e f => by rw [z4 o a b c d e, k1 o (by omega) (by omega) (by omega) (by omega) (by omega)]
    have nm : nMade W (m + 1) = (if sTurn W = 0 then 0 else 1) + nMade (sNoon W) m := rfl
    rw [z1, wr_id (by omega) (by omega), nS_split]
    have nx := fun y => ih n' z.2 (sNoon W) (keepB W B b) (kB1 b + 1) (c + 50) y (v + 1) z2 gn z3 hs (by omega) (by rw [sNoon_2]; omega) (by omega) (by omega) (by omega)
    by_cases h0 : sTurn W = 0
    · rw [if_pos h0]
      refine yk.mono (nx x) ?_
      intro w hw
      obtain ⟨w1, w2, w3, w4, w5, w6⟩ := hw
      refine ⟨by rw [w1, nm, if_pos h0]; omega, w2, w3, rMemo_le w4 (by omega), w5, fun o a b c d e f => by rw [w6 o a b c d e f, fr o a b c d e f]⟩
    · rw [if_neg h0]
      refine yk.mono (nx (x + 1)) ?_
      intro w hw
      obtain ⟨w1, w2, w3, w4, w5, w6⟩ := hw
      refine ⟨by rw [w1, nm, if_neg h0]; omega, w2, w3, rMemo_le w4 (by omega), w5, fun o a b c d e f => by rw [w6 o a b c d e f, fr o a b c d e f]⟩
