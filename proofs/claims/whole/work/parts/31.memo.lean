/-! what the class keeps of worths -/
theorem sStep_cg {F F' : Int → Int} {q : Int × Int} {st : List Int} (h : q.1 < 13 → q.1 ≠ 0 → F q.1 = F' q.1) : sStep F q st = sStep F' q st := by
  unfold sStep
  by_cases h1 : q.1 < 13
  · rw [if_pos h1, if_pos h1]
    by_cases h2 : q.1 = 0
    · rw [if_pos h2, if_pos h2]
    · rw [if_neg h2, if_neg h2, h h1 h2]
  · rw [if_neg h1, if_neg h1]
theorem sRun_cg {F F' : Int → Int} (l : List (Int × Int)) : ∀ st : List Int, (∀ q ∈ l, q.1 < 13 → q.1 ≠ 0 → F q.1 = F' q.1) → sRun F l st = sRun F' l st := by
  induction l with
  | nil => intro st h; rfl
  | cons q l ih =>
    intro st h
    show sRun F l (sStep F q st) = sRun F' l (sStep F' q st)
    rw [sStep_cg (F := F) (F' := F') (h q (List.mem_cons_self)), ih _ (fun q hq => h q (List.mem_cons_of_mem _ hq))]
theorem sF_day {W : Int → Int} {place day day' made s : Int} (hm : day / 30 % 12 = day' / 30 % 12) (hs : s ≠ 6) : sF W place day made s = sF W place day' made s := by
  unfold sF
  rw [hm, if_neg hs, if_neg hs]
theorem sVal_day {W : Int → Int} {k place day day' made : Int} (g : gWant W k) (hn : noDay W k) (hm : day / 30 % 12 = day' / 30 % 12) : sVal W k place day made = sVal W k place day' made := by
  unfold sVal
  have e : ∀ n : Nat, (n : Int) ≤ W (2320 + k) → sSum W (sF W place day made) k n = sSum W (sF W place day' made) k n := by
    intro n
    induction n with
    | zero => intro _; rfl
    | succ n ih =>
      intro hN
      show sSum W _ k n + sLine W _ k n = sSum W _ k n + sLine W _ k n
      rw [ih (by omega)]
      have nd := hn n (by omega) (by omega)
      unfold sLine
      rw [sRun_cg (sVa W k n) [] (fun q hq _ _ => sF_day hm (nd.1 q hq)), sRun_cg (sCo W k n) [] (fun q hq _ _ => sF_day hm (nd.2 q hq))]
  rw [e _ (by have := g.1; omega)]
theorem memo_time {W : Int → Int} {c : Int} {M : xM} {k : Nat} {t : Int} (h : rMemo c M W) (hk : k < 4) (ht : 0 ≤ t ∧ t ≤ 20012) : rMemo (c + 1) (xup (xup (xup M 47 k t) 43 4 (M 43 4 + 1)) 46 k (M 43 4 + 1)) W := by
  obtain ⟨h1, h2, h3⟩ := h
  refine ⟨?_, ?_, ?_⟩
  · simp (disch := omega) only [xup_o, xup_e]
    omega
  · intro i i0 i1
    have := h2 i i0 i1
    simp (disch := omega) only [xup_o, xup_e]
    omega
  · intro j hj
    have q := h3 j hj
    by_cases e : j = k
    · subst e
      refine ⟨?_, ?_, ?_⟩
      · simp (disch := omega) only [xup_o, xup_e]
        omega
      · simp (disch := omega) only [xup_o, xup_e]
        omega
      · intro place made day hp hm hd e1 e2
        have := h2 (((j : Int) * 24 + place) * 2 + made) (by omega) (by omega)
        simp (disch := omega) only [xup_o, xup_e] at e2
        omega
    · have ne : ¬ ((j : Int) = (k : Int)) := by omega
      refine ⟨?_, ?_, ?_⟩
      · simp (disch := omega) only [xup_o, xup_e, xup_n]
        omega
      · simp (disch := omega) only [xup_o, xup_e, xup_n]
        omega
      · intro place made day hp hm hd e1 e2
        simp (disch := omega) only [xup_o, xup_e, xup_n] at e1 e2 ⊢
        exact q.2.2 place made day hp hm hd e1 e2
theorem memo_cell {W : Int → Int} {c : Int} {M M' : xM} {k : Nat} {pl md v : Int} (h : rMemo c M W) (hk : k < 4) (hp : 0 ≤ pl ∧ pl < 24) (hm : 0 ≤ md ∧ md ≤ 1) (f : ∀ o, o ≠ 44 → o ≠ 45 → o ≠ 48 → o ≠ 49 → M' o = M o) (f45 : M' 45 = xup M 45 (((k : Int) * 24 + pl) * 2 + md) (M 46 k) 45) (f44 : M' 44 = xup M 44 (((k : Int) * 24 + pl) * 2 + md) v 44) (hv : ∀ day, 0 ≤ day ∧ day ≤ 20000 → M 47 k = (if M (28 + 2 * k) 2 = 0 then day / 30 % 12 else 12 + day) → v = sVal W k pl day md) : rMemo c M' W := by
  obtain ⟨h1, h2, h3⟩ := h
  have a43 := f 43 (by omega) (by omega) (by omega) (by omega)
  have a46 := f 46 (by omega) (by omega) (by omega) (by omega)
  have a47 := f 47 (by omega) (by omega) (by omega) (by omega)
  unfold rMemo
  rw [a43, a46, a47, f45, f44]
  refine ⟨h1, ?_, ?_⟩
  · intro i i0 i1
    have q := h2 i i0 i1
    have q2 := (h3 k hk).1
    by_cases e : i = ((k : Int) * 24 + pl) * 2 + md
    · rw [xup_e e]; exact q2
    · rw [xup_n e]; exact q
  · intro j hj
    rw [f (28 + 2 * j) (by omega) (by omega) (by omega) (by omega)]
    have q := h3 j hj
    refine ⟨q.1, q.2.1, ?_⟩
    intro place made day hp2 hm2 hd e1 e2
    by_cases e : ((j : Int) * 24 + place) * 2 + made = ((k : Int) * 24 + pl) * 2 + md
    · have ej : j = k := by omega
      subst ej
      have ep : place = pl := by omega
      have em : made = md := by omega
      subst ep
      subst em
      rw [xup_e rfl]
      exact hv day hd e1
    · rw [xup_n e] at e2 ⊢
      exact q.2.2 place made day hp2 hm2 hd e1 e2
theorem worthTo_e {W : Int → Int} {c : Int} {M : xM} {p d a t : Int} (i : rI M W) (g : gW W) (me : rMemo c M W) (hc : c < 2000000000) (hp : 0 ≤ p ∧ p < W 5) (hd : 0 ≤ d ∧ d ≤ 20000) (ha : -1000000 ≤ a ∧ a ≤ 1000000) (ht : -2147483648 ≤ t ∧ t < 2147483648) : yk (fX10_worthTo M p d a t) fun q => q.1 = sWorth W p d a t ∧ rMemo (c + 1) q.2 W ∧ ∀ o, (o < 43 ∨ 49 < o) → q.2 o = M o := by
  have gb := g.1
  have iB := i.1
  have ip := i.2.2.2.2.1 p hp.1 hp.2
  have gp := g.2.2.2.2.1 p hp.1 hp.2
  unfold gB at gb
  unfold rB at iB
  have md := md_rng (a := W (20 + 4 * p) + a) (n := W 0) (by omega)
  have mo : 0 ≤ d / 30 % 12 ∧ d / 30 % 12 < 12 := by omega
  unfold fX10_worthTo sWorth
  by_cases h4 : W (22 + 4 * p) = 4
  · rw [if_pos h4]
    simp (disch := omega) only [xrd_at, ip.2.2.1, h4, within_eq, decide_eq_true_eq, if_neg, yk_some]
    exact ⟨trivial, rMemo_le me (by omega), fun _ _ => trivial⟩
  · rw [if_neg h4]
    obtain ⟨k, hk⟩ := Int.eq_ofNat_of_zero_le gp.2.2.1
    have hk4 : k < 4 := by omega
    have hkN : (W (22 + 4 * p)).toNat = k := by omega
    have iw := i.2.2.2.2.2.2.2.2 k hk4
    have gk := g.2.2.2.2.2.2.2.2.2 k (by omega) (by omega)
    have mk := me.2.2 k hk4
    have m1 := me.1
    have asks := iw.2.2.2.2.1
    -- the kept time is the one that is asked for
    have key : ∀ (M6 : xM) (made : Int), (0 ≤ made ∧ made ≤ 1) → rMemo (c + 1) M6 W → (∀ o, (o < 43 ∨ 49 < o) → M6 o = M o) → M6 47 k = (if M (28 + 2 * k) 2 = 0 then d / 30 % 12 else 12 + d) → yk (xrd M6 45 192 (((W (22 + 4 * p)) * 24 + (W (20 + 4 * p) + a) % W 0) * 2 + made) fun r12 => xrd M6 46 4 (W (22 + 4 * p)) fun r13 => xj (fun (M14 : xM) => xrd M14 44 192 (((W (22 + 4 * p)) * 24 + (W (20 + 4 * p) + a) % W 0) * 2 + made) fun r16 => some (r16, M14)) fun j15 => (if wr r12 = wr r13 then j15 M6 else (xrd M6 46 4 (W (22 + 4 * p)) fun r17 => xwt M6 45 192 (((W (22 + 4 * p)) * 24 + (W (20 + 4 * p) + a) % W 0) * 2 + made) r17 fun M18 => xb (fX10_gatherFacts M18 ((W (20 + 4 * p) + a) % W 0) d made) fun M20 => xix 4 (W (22 + 4 * p)) (xb2 (fX9_valueOf M20 (28 + 2 * (wr (W (22 + 4 * p))).toNat)) fun r23 M24 => xwt M24 44 192 (((W (22 + 4 * p)) * 24 + (W (20 + 4 * p) + a) % W 0) * 2 + made) r23 fun M25 => j15 M25)))) fun q => q.1 = sVal W (W (22 + 4 * p)) ((W (20 + 4 * p) + a) % W 0) d made ∧ rMemo (c + 1) q.2 W ∧ ∀ o, (o < 43 ∨ 49 < o) → q.2 o = M o := by
      intro M6 made hmade me6 f6 t6
      have a28 := f6 (28 + 2 * k) (by omega)
      have c2 := me6.2.1 (((k : Int) * 24 + (W (20 + 4 * p) + a) % W 0) * 2 + made) (by omega) (by omega)
      have c3 := me6.2.2 k hk4
      have c1 := me6.1
      rw [hk] at hkN ⊢
      generalize hpl : (W (20 + 4 * p) + a) % W 0 = pl at *
      simp (disch := omega) only [Int.ofNat_eq_natCast, xrd_at, xwt_at, xix_at, xj, wr_id, Int.toNat_natCast]
      by_cases hs : M6 45 (((k : Int) * 24 + pl) * 2 + made) = M6 46 k
      · rw [if_pos hs, yk_some]
        refine ⟨?_, me6, f6⟩
        have := c3.2.2 pl made d (by omega) hmade (by omega) (by rw [a28]; exact t6) hs
        exact this
      · rw [if_neg hs, yk_xb]
        have iS : rSky (xup M6 45 (((k : Int) * 24 + pl) * 2 + made) (M6 46 k)) W := rSky_fr i.2.1 (by rw [xup_o (by omega), f6 2 (by omega)]) (fun _ _ _ => rfl)
        refine yk.mono (gather_e (made := made) iS (by omega) hd) ?_
        intro M20 h20
        have iw' : rWant M20 W k := rWant_fr (fun _ _ => rfl) (by rw [h20.1 _ (by omega), xup_o (by omega), f6 _ (by omega)]) (by rw [h20.1 _ (by omega), xup_o (by omega), f6 _ (by omega)]) gk iw
        rw [yk_xb2]
        refine yk.mono (valueOf_e (F := sF W pl d made) hk4 iw' gk h20.2) ?_
        intro q hq
        simp (disch := omega) only [xrd_at, xwt_at, yk_some, xup_e]
        have fr : ∀ o, o ≠ 44 → o ≠ 45 → o ≠ 48 → o ≠ 49 → xup q.2 44 (((k : Int) * 24 + pl) * 2 + made) q.1 o = M6 o := by
          intro o o1 o2 o3 o4
          rw [xup_o o1, hq.2 o o4, h20.1 o o3, xup_o o2]
        refine ⟨hq.1, ?_, ?_⟩
        · refine memo_cell (v := q.1) me6 hk4 (pl := pl) (md := made) (by omega) hmade fr ?_ ?_ ?_
          · rw [xup_o (by omega), hq.2 45 (by omega), h20.1 45 (by omega)]
          · funext j
            by_cases hj : j = ((k : Int) * 24 + pl) * 2 + made
            · rw [xup_e hj, xup_e hj]
            · rw [xup_n hj, xup_n hj, hq.2 44 (by omega), h20.1 44 (by omega), xup_o (by omega)]
          · intro day hday e5
            rw [t6, a28] at e5
            rw [hq.1]
            show sVal W k pl d made = _
            by_cases ha0 : M (28 + 2 * k) 2 = 0
            · rw [if_pos ha0, if_pos ha0] at e5
              exact sVal_day gk (iw.2.2.2.2.2 ha0) e5
            · rw [if_neg ha0, if_neg ha0] at e5
              have : d = day := by omega
              rw [this]
        · intro o ho
          rw [fr o (by omega) (by omega) (by omega) (by omega)]
          exact f6 o ho
    have wk : wr (W (22 + 4 * p)) = W (22 + 4 * p) := wr_id (by omega) (by omega)
    have step : ∀ time : Int, (0 ≤ time ∧ time ≤ 20012) → time = (if M (28 + 2 * k) 2 = 0 then d / 30 % 12 else 12 + d) → yk (xrd M 47 4 (W (22 + 4 * p)) fun r5 => xj (fun (M6 : xM) => xb (fX1_angleOf M6 p a) fun r9 => xj (fun (s10 : Int) => xrd M6 45 192 (((W (22 + 4 * p)) * 24 + r9) * 2 + s10) fun r12 => xrd M6 46 4 (W (22 + 4 * p)) fun r13 => xj (fun (M14 : xM) => xrd M14 44 192 (((W (22 + 4 * p)) * 24 + r9) * 2 + s10) fun r16 => some (r16, M14)) fun j15 => (if wr r12 = wr r13 then j15 M6 else (xrd M6 46 4 (W (22 + 4 * p)) fun r17 => xwt M6 45 192 (((W (22 + 4 * p)) * 24 + r9) * 2 + s10) r17 fun M18 => xb (fX10_gatherFacts M18 r9 d s10) fun M20 => xix 4 (W (22 + 4 * p)) (xb2 (fX9_valueOf M20 (28 + 2 * (wr (W (22 + 4 * p))).toNat)) fun r23 M24 => xwt M24 44 192 (((W (22 + 4 * p)) * 24 + r9) * 2 + s10) r23 fun M25 => j15 M25)))) fun j11 => (if wr t = 0 then j11 0 else j11 1)) fun j7 => (if wr r5 = wr time then j7 M else (xwt M 47 4 (W (22 + 4 * p)) time fun M26 => xlet (xup M26 43 4 ((M26 43 4) + 1)) fun M27 => xwt M27 46 4 (W (22 + 4 * p)) (M27 43 4) fun M28 => j7 M28))) fun q => q.1 = sVal W (W (22 + 4 * p)) ((W (20 + 4 * p) + a) % W 0) d (if t = 0 then 0 else 1) ∧ rMemo (c + 1) q.2 W ∧ ∀ o, (o < 43 ∨ 49 < o) → q.2 o = M o := by
      intro time htime etime
      have tail : ∀ M6 : xM, rMemo (c + 1) M6 W → (∀ o, (o < 43 ∨ 49 < o) → M6 o = M o) → M6 47 k = (if M (28 + 2 * k) 2 = 0 then d / 30 % 12 else 12 + d) → yk (xb (fX1_angleOf M6 p a) fun r9 => xj (fun (s10 : Int) => xrd M6 45 192 (((W (22 + 4 * p)) * 24 + r9) * 2 + s10) fun r12 => xrd M6 46 4 (W (22 + 4 * p)) fun r13 => xj (fun (M14 : xM) => xrd M14 44 192 (((W (22 + 4 * p)) * 24 + r9) * 2 + s10) fun r16 => some (r16, M14)) fun j15 => (if wr r12 = wr r13 then j15 M6 else (xrd M6 46 4 (W (22 + 4 * p)) fun r17 => xwt M6 45 192 (((W (22 + 4 * p)) * 24 + r9) * 2 + s10) r17 fun M18 => xb (fX10_gatherFacts M18 r9 d s10) fun M20 => xix 4 (W (22 + 4 * p)) (xb2 (fX9_valueOf M20 (28 + 2 * (wr (W (22 + 4 * p))).toNat)) fun r23 M24 => xwt M24 44 192 (((W (22 + 4 * p)) * 24 + r9) * 2 + s10) r23 fun M25 => j15 M25)))) fun j11 => (if wr t = 0 then j11 0 else j11 1)) fun q => q.1 = sVal W (W (22 + 4 * p)) ((W (20 + 4 * p) + a) % W 0) d (if t = 0 then 0 else 1) ∧ rMemo (c + 1) q.2 W ∧ ∀ o, (o < 43 ∨ 49 < o) → q.2 o = M o := by
        intro M6 me6 f6 t6
        have a6 := f6 6 (by omega)
        have a1 := f6 1 (by omega)
        have ean : fX1_angleOf M6 p a = some ((W (20 + 4 * p) + a) % W 0) := by
          unfold fX1_angleOf
          simp (disch := omega) only [xrd_at, a6, a1, ip.1, iB.1.1, wrap_eq, xb]
        rw [ean, yk_xb, yk_some, yk_xj, wr_id (x := t) ht.1 ht.2]
        by_cases ht0 : t = 0
        · rw [if_pos ht0, if_pos ht0]
          exact key M6 0 (by omega) me6 f6 t6
        · rw [if_neg ht0, if_neg ht0]
          exact key M6 1 (by omega) me6 f6 t6
      have w47 : M 47 (W (22 + 4 * p)) = M 47 k := by rw [hk]
      rw [xrd_at (o := 47) (by omega) (by omega) (by omega), yk_xj, w47, wr_id (x := time) (by omega) (by omega), wr_id (x := M 47 k) (by omega) (by omega)]
      by_cases e5 : M 47 k = time
      · rw [if_pos e5]
        exact tail M (rMemo_le me (by omega)) (fun _ _ => rfl) (by rw [e5]; exact etime)
      · rw [if_neg e5, xwt_at (o := 47) (by omega) (by omega) (by omega), yk_xlet, xwt_at (o := 46) (by omega) (by omega) (by omega)]
        have mt := memo_time me hk4 htime
        have ek : W (22 + 4 * p) = (k : Int) := hk
        refine tail _ ?_ ?_ ?_
        · rw [ek]
          simp (disch := omega) only [xup_o, xup_e]
          exact mt
        · intro o ho
          rw [xup_o (by omega), xup_o (by omega), xup_o (by omega)]
        · rw [ek, xup_o (by omega), xup_o (by omega), xup_e rfl]
          exact etime
    rw [xrd_at (o := 8) (by omega) (by omega) (by omega), ip.2.2.1, within_eq (by omega) (by omega) (by omega) (by omega) (by omega) (by omega), if_pos (by rw [decide_eq_true_eq]; omega), xix_at (by omega) (by omega) (by omega), yk_xj]
    have ea : M (28 + 2 * (wr (W (22 + 4 * p))).toNat) 2 = M (28 + 2 * k) 2 := by rw [wk, hkN]
    rw [ea, wr_id (by omega) (by omega)]
    by_cases ha0 : M (28 + 2 * k) 2 = 0
    · rw [if_pos ha0, month_e hd.1 (by omega)]
      exact step (d / 30 % 12) (by omega) (by rw [if_pos ha0])
    · rw [if_neg ha0]
      exact step (12 + d) (by omega) (by rw [if_neg ha0])
