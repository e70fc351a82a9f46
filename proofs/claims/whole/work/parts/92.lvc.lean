/-! leave, the call -/
theorem leaveK_e {W : Int → Int} {M : xM} {m c : Int} (i : rI M W) (g : gW W) (me : rMemo c M W) (hc : c < 1200000000) (hm : 1 ≤ m ∧ m ≤ 6) : yk (fX3_findLeavers M m) fun q => lmin (lvS W m) q.1 ∧ (∀ o, (o < 43 ∨ 74 < o) → q.2 o = M o) ∧ rMemo (c + 180000) q.2 W := by
  have gb := g.1
  unfold gB at gb
  have ar := sAll_rng (W := W) (by omega)
  unfold fX3_findLeavers
  rw [yk_xb2]
  refine yk.mono (findBest_e i g me (by omega) (by omega)) ?_
  intro q hq
  obtain ⟨_, q2, q3, q4, q5⟩ := hq
  have i3 : rI q.2 W := rI_fr2 i g (fun o _ _ _ _ => q2 o (by omega))
  unfold fX3_gatherEach
  rw [yk_xb, yk_xb]
  refine yk.mono (each_q (M0 := q.2) i3 g hm xfuel q.2 0 (c + 60000) (fun _ _ _ _ _ => rfl) q3 q5 (by omega) (by omega) (by unfold xfuel; omega) (by omega) (fun p d t r p0 => by omega)) ?_
  intro M5 z
  obtain ⟨z1, z2, z3⟩ := z
  have f5 : ∀ o, (o < 43 ∨ 62 < o ∨ (49 < o ∧ o < 53)) → M5 o = q.2 o := fun o ho => z1 o (by omega) (by omega)
  have i5 : rI M5 W := rI_fr2 i3 g (fun o _ _ _ _ => f5 o (by omega))
  have iB := i5.1
  unfold rB at iB
  unfold fX3_shareOut
  rw [yk_some, yk_xb, yk_xb]
  refine yk.mono (sh2_q (W := W) (bj := bJ W m) g hm (fun j => sBj_rng _ _ _ _ _ _ _) (W 5).toNat xfuel 0 M5 (by omega) iB.2.1 i5.2.2.2.2.1 (by rw [f5 50 (by omega)]; exact q3) z2 (fun j hj => by rw [f5 64 (by omega)]; exact q4 j (by omega)) (fun q h => by omega) (by unfold xfuel; omega)) ?_
  intro M7 y
  rw [yk_some, fJ7_fill_53178_i5_e, yk_xb, yk_some]
  have f9 : ∀ o, o ≠ 51 → o ≠ 74 → xfi M7 51 3660 0 o = M5 o := fun o a b => by rw [xfi_o a, y.1 o b]
  have i9 : rI (xfi M7 51 3660 0) W := rI_fr2 i5 g (fun o _ _ _ _ => f9 o (by omega) (by omega))
  have all9 := allK_e (W := W) (M := xfi M7 51 3660 0) (by rw [f9 5 (by omega) (by omega)]; exact iB.2.1) (by omega)
  rw [all9, yk_xb2]
  have b0 : ∀ p : Int, 0 ≤ p → bt 0 p = 0 := fun p _ => by unfold bt; rw [Int.zero_ediv]; rfl
  have z0 : ∀ (f : Nat → Int) (n : Nat), sBs f 0 n = 0 := by
    intro f n
    induction n with
    | zero => rfl
    | succ n ih => show sBs f 0 n + bt 0 n * f n = 0; rw [ih, b0 n (by omega), Int.zero_mul]; rfl
  have g0 : ((gy 0 : Nat) : Int) = 0 := by decide
  have L := lv51_q (W := W) (m := m) g hm (sAll W).toNat xfuel (xfi M7 51 3660 0) 0 (-1) (by omega) i9 (by rw [f9 50 (by omega) (by omega), f5 50 (by omega)]; exact q3) (fun p d t r a b c e f g' h' => by rw [f9 (53 + p) (by omega) (by omega)]; exact z2 p d t r a b c e f g' h') (fun p hp => by rw [xfi_o (by omega), y.2 p hp]; unfold sGet; rw [if_pos (by omega)]) (by
    intro d t r a b c e f g'
    have gx := gix_6 (m := m) (d := d) (r := r) (t := t) hm (by omega) (by omega)
    rw [xfi_e gx.1 (by omega), g0]
    unfold sCt
    rw [sTw_bs, z0]) (Or.inl ⟨rfl, fun y w => by obtain ⟨⟨s, a, b, _⟩, _⟩ := w; omega⟩) (by unfold xfuel; omega)
  rw [g0, z0, sWt_bs, z0] at L
  refine yk.mono L ?_
  intro x hx
  rw [yk_some]
  have fx : ∀ o, (o < 43 ∨ 74 < o) → x.2 o = M o := fun o ho => by rw [hx.2 o (by omega) (by omega), f9 o (by omega) (by omega), f5 o (by omega), q2 o (by omega)]
  have fm : ∀ o, o < 50 → x.2 o = M5 o := fun o ho => by rw [hx.2 o (by omega) (by omega), f9 o (by omega) (by omega)]
  refine ⟨hx.1, fx, ?_⟩
  exact rMemo_le (rMemo_fr z3 g.2.2.2.2.2.2.2.2.2 ⟨fm _ (by omega), fm _ (by omega), fm _ (by omega), fm _ (by omega), fm _ (by omega)⟩ (fun k hk => fm _ (by omega)) (fun _ _ => rfl) (fun _ _ _ => rfl)) (by omega)
theorem tc_leave {ph : Bool} {c : Int} {M : xM} {a : Int} (I : Inv ph c M) (hc : c < 1200000000) (ha : -2147483648 ≤ a ∧ a < 2147483648) : yk (fX11_leave M a) fun q => yk (fX12_leave q.2 a) fun z => q.1 = z.1 ∧ Inv ph (c + 180000) z.2 := by
  unfold fX11_leave
  rw [within_eq (by omega) (by omega) (by omega) (by omega) (by omega) (by omega)]
  by_cases g : 1 ≤ a ∧ a ≤ 6
  · rw [if_pos (decide_eq_true g), yk_xb2]
    refine yk.mono (leaveK_e I.1 I.2.1 I.2.2.2.2.1 hc g) ?_
    intro q hq
    rw [yk_some]
    dsimp only
    have w := hq.2.1 95 (by omega)
    refine yk.mono (leaveM_e (W := M 95) (M := q.2) w I.2.1 g) ?_
    intro z hz
    refine ⟨lmin_one hq.1 hz.1, scr_end I hq.2.2 (fun o h1 _ _ => hq.2.1 o (by omega)) (fun o h1 _ => hz.2 o (by omega)) ?_ (by rw [hz.2 108 (by omega), hq.2.1 108 (by omega)])⟩
    have e94 : z.2 94 = M 94 := by rw [hz.2 94 (by omega), hq.2.1 94 (by omega)]
    rw [e94]
    exact ⟨rfl, rfl, rfl, rfl, rfl⟩
  · rw [if_neg (by rw [decide_eq_true_eq]; exact g), yk_some]
    dsimp only
    unfold fX12_leave
    rw [isIn_eq (by omega) (by omega) (by omega) (by omega) (by omega) (by omega), if_neg (by rw [decide_eq_true_eq]; exact g), yk_some]
    exact ⟨rfl, Inv_le I (by omega)⟩
