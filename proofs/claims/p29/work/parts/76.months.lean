/-! months by a seed, on both sides -/
theorem lg_ge {a b : Nat} (ha : a < 2 ^ 62) (hb : b < 2 ^ 62) : (0 ≤ lg_cmp (lN a) (lN b)) = (b ≤ a) := by
  apply propext
  have h1 : (lg_cmp (lN a) (lN b) < 0) ↔ a < b := by rw [lgc_neg, pk_lLT (by omega) (by omega)]
  have h2 : (0 ≤ lg_cmp (lN a) (lN b)) ↔ ¬ (lg_cmp (lN a) (lN b) < 0) := by
    rw [Int32.le_iff_toInt_le, Int32.lt_iff_toInt_lt]
    omega
  rw [h2, h1]
  omega
theorem monthJL {n : Nat} (hn1 : 1 ≤ n) {K L o D : Nat → Int32} (hW : RW n K L o D) {s : Nat} (hs : s < 2 ^ 31) (bh : Int32) (t : Nat → Int32) : ∃ (s' : Nat) (bh' : Int32) (L' o' t' D' : Nat → Int32), s' < 2 ^ 31 ∧ RW n K L' o' D' ∧ (∀ (x2 u bm : Int32), fX2_passMonth_J25 (nI n) bh K o t x2 (u, lN s) (bm, L) = some (if x2 ≤ u then 0 else 1, lN s', bh', bm, L', o', t')) ∧ (∀ (z5 : Int64 × Int32 × Int32 × (Nat → Int32) × (Nat → Int32)) (dmp : Int32), ∃ r'' : Nat → Int32, fL_months_J86 z5 (lN s) (dmp, D) = some (Sum.inl (lN s', dmp, z5.2.2.1 + 1, D', r''))) := by
  have hn := hW.1
  have h1 := nextS_lt s
  have h2 := nextS_lt (nextS s)
  generalize hf : nextS s / 65536 % n = f
  generalize hq : nextS (nextS s) / 65536 % 6 = q
  have hfn : f < n := by rw [← hf]; exact Nat.mod_lt _ (by omega)
  have hq6 : q < 6 := by rw [← hq]; exact Nat.mod_lt _ (by omega)
  have hf10 : f < 10 := by omega
  obtain ⟨v1, v2, v3⟩ := hW.2.2.1 f hf10
  have hX : ∀ (x2 u bm : Int32), fX2_passMonth_J25 (nI n) bh K o t x2 (u, lN s) (bm, L) = if o f = -1 then some (if x2 ≤ u then 0 else 1, lN (nextS (nextS s)), bh, bm, L, o, t) else if o f = nI q then some (if x2 ≤ u then 0 else 1, lN (nextS (nextS s)), bh, bm, L, o, t) else ((fX4_goByHand (nI n) bh bm K L o t (nI f) (nI q)).bind (fun u21 => some (if x2 ≤ u then 0 else 1, lN (nextS (nextS s)), u21.2.1, bm, u21.2.2.1, u21.2.2.2.1, u21.2.2.2.2))) := by
    intro x2 u bm
    unfold fX2_passMonth_J25
    dsimp only
    rw [if_neg (nI_nle (by omega) (by omega)), nextX hs (w := n) (by omega) (by omega), hf, bd_s]
    dsimp only
    rw [show (6 : Int32) = nI 6 from rfl, nextX h1 (w := 6) (by omega) (by omega), hq, bd_s, knows_t hn hfn, if_neg (by decide), bankN _ _ _ _ hf10, bd_s]
    dsimp only
    by_cases hb : o f = -1
    · rw [if_pos hb, if_pos hb, if_neg (by decide), J89N]
    · rw [if_neg hb, if_neg hb, if_pos rfl, gd_t (inbN hf10 (by omega)), clN (by omega)]
      by_cases hc : o f = nI q
      · rw [if_pos hc, if_pos hc, J89N]
      · rw [if_neg hc, if_neg hc]
        congr 1
        funext u21
        rw [J89N]
  have hL : ∀ (z5 : Int64 × Int32 × Int32 × (Nat → Int32) × (Nat → Int32)) (dmp : Int32), fL_months_J86 z5 (lN s) (dmp, D) = if o f < 0 then some (Sum.inl (lN (nextS (nextS s)), dmp, z5.2.2.1 + 1, D, z5.2.2.2.2)) else if o f = nI q then some (Sum.inl (lN (nextS (nextS s)), dmp, z5.2.2.1 + 1, D, z5.2.2.2.2)) else ((fL_goes 33 40 D z5.2.2.2.2 (nI f) (nI q)).bind (fun u41 => some (Sum.inl (lN (nextS (nextS s)), dmp, z5.2.2.1 + 1, u41.1, u41.2)))) := by
    intro z5 dmp
    unfold fL_months_J86 fL_months_J163
    simp only [c00, hW.2.1]
    rw [afterN hs, bd_s, nI_l (by omega), gd_t (nzlN (by omega) (by omega)), afterN h1, bd_s, show (65536 : Int64) = lN 65536 from rfl, pk_lDiv (by omega) (by omega) (by omega), pk_lRem (by omega) (by omega) (by omega), hf, lN_i, pk_lDiv (by omega) (by omega) (by omega), show (6 : Int64) = lN 6 from rfl, pk_lRem (by omega) (by omega) (by omega), hq, lN_i, a21N, gd_t (inbN (by omega) (by omega)), clN (by omega), v3]
  by_cases hb : o f = -1
  · refine ⟨nextS (nextS s), bh, L, o, t, D, h2, hW, fun x2 u bm => ?_, fun z5 dmp => ⟨z5.2.2.2.2, ?_⟩⟩
    · rw [hX, if_pos hb]
    · rw [hL, if_pos (by rw [hb]; decide)]
  · obtain ⟨p, hp, ep⟩ := (hW.2.2.2 f hf10).2.2.resolve_left hb
    have hnb : ¬ o f < 0 := by rw [ep, show (0 : Int32) = nI 0 from rfl, ltN (by omega) (by omega)]; omega
    by_cases hc : o f = nI q
    · refine ⟨nextS (nextS s), bh, L, o, t, D, h2, hW, fun x2 u bm => ?_, fun z5 dmp => ⟨z5.2.2.2.2, ?_⟩⟩
      · rw [hX, if_neg hb, if_pos hc]
      · rw [hL, if_neg hnb, if_pos hc]
    · obtain ⟨w, hw, ew, hg, hW', -⟩ := RW_goes hW hf10 (to := nI q) (Or.inr ⟨q, hq6, rfl⟩)
      refine ⟨nextS (nextS s), bh + (L f - nI w), _, _, tornT t f (o f), _, h2, hW', fun x2 u bm => ?_, fun z5 dmp => ⟨tornT z5.2.2.2.2 f (o f), ?_⟩⟩
      · rw [hX, if_neg hb, if_neg hc, goByHandN _ _ _ _ _ _ _ hf10, ew, bd_s]
      · rw [hL, if_neg hnb, if_neg hc, hg, bd_s]
theorem monthXL {n : Nat} (hn1 : 1 ≤ n) {K L o D : Nat → Int32} (hW : RW n K L o D) {s T : Nat} (hs : s < 2 ^ 31) (hT : T ≤ 10) (bh bm : Int32) (t : Nat → Int32) : ∃ (r1 : Int32) (s' : Nat) (bh' bm' : Int32) (L' o' t' D' : Nat → Int32), fX2_passMonth (lN s) (nI n) bh bm K L o t (nI T) = some (r1, lN s', bh', bm', L', o', t') ∧ s' < 2 ^ 31 ∧ RW n K L' o' D' ∧ ∀ (x1 dmp idx : Int32) (r' : Nat → Int32), ¬ x1 ≤ idx → ∃ r'' : Nat → Int32, fL_months_L48 x1 (nI T) (lN s, dmp, idx, D, r') = some (Sum.inl (lN s', dmp + r1, idx + 1, D', r'')) := by
  have h1 := nextS_lt s
  have e1 : (nI T ≤ nI (nextS s / 65536 % 10)) = (T ≤ nextS s / 65536 % 10) := leN (by omega) (by omega)
  have e2 : (0 ≤ lg_cmp (lN (nextS s / 65536 % 10)) (lN T)) = (T ≤ nextS s / 65536 % 10) := lg_ge (by omega) (by omega)
  have hl : ∀ (x1 dmp idx : Int32) (r' : Nat → Int32), ¬ x1 ≤ idx → fL_months_L48 x1 (nI T) (lN s, dmp, idx, D, r') = if T ≤ nextS s / 65536 % 10 then fL_months_J86 (lN s, dmp, idx, D, r') (lN (nextS s)) (dmp, D) else (fL_month 33 D).bind (fun u44 => fL_months_J86 (lN s, dmp, idx, D, r') (lN (nextS s)) ((dmp + 1), u44.2)) := by
    intro x1 dmp idx r' hx
    unfold fL_months_L48
    dsimp only
    rw [if_neg hx, afterN hs, bd_s, show (65536 : Int64) = lN 65536 from rfl, pk_lDiv (by omega) (by omega) (by omega), show (10 : Int64) = lN 10 from rfl, pk_lRem (by omega) (by omega) (by omega), nI_l (by omega)]
    simp only [e2]
  unfold fX2_passMonth
  rw [show (10 : Int32) = nI 10 from rfl, nextX hs (w := 10) (by omega) (by omega), bd_s]
  dsimp only
  by_cases h : T ≤ nextS s / 65536 % 10
  · obtain ⟨s', bh', L', o', t', D', g1, g2, g3, g4⟩ := monthJL hn1 hW h1 bh t
    rw [if_pos (e1.mpr h), if_pos rfl, g3, if_pos (e1.mpr h)]
    refine ⟨_, s', _, _, _, _, _, D', rfl, g1, g2, fun x1 dmp idx r' hx => ?_⟩
    obtain ⟨r'', g5⟩ := g4 (lN s, dmp, idx, D, r') dmp
    refine ⟨r'', ?_⟩
    rw [hl x1 dmp idx r' hx, if_pos h, g5, Int32.add_zero]
  · obtain ⟨lost, L1, D1, m1, m2, m3, -⟩ := monthL hW
    obtain ⟨s', bh', L', o', t', D', g1, g2, g3, g4⟩ := monthJL hn1 m3 h1 bh t
    rw [if_neg (fun q => h (e1.mp q)), if_neg (by decide), m1, bd_s]
    dsimp only
    rw [g3, if_neg (fun q => h (e1.mp q))]
    refine ⟨_, s', _, _, _, _, _, D', rfl, g1, g2, fun x1 dmp idx r' hx => ?_⟩
    obtain ⟨r'', g5⟩ := g4 (lN s, dmp, idx, D, r') (dmp + 1)
    refine ⟨r'', ?_⟩
    rw [hl x1 dmp idx r' hx, if_neg h, m2, bd_s]
    exact g5
theorem RW_cp {n : Nat} {k l o d : Nat → Int32} (h : RW n k l o d) (k2 l2 o2 d2 : Nat → Int32) : RW n (cpF 10 k k2) (cpF 10 l l2) (cpF 10 o o2) (cpF 33 d d2) := by
  obtain ⟨hn, h0, hV, hG⟩ := h
  refine ⟨hn, ?_, fun f hf => ?_, fun f hf => ?_⟩
  · rw [cpF_lt (show 0 < 33 by omega)]; exact h0
  · rw [cpF_lt (show 1 + f < 33 by omega), cpF_lt (show 11 + f < 33 by omega), cpF_lt (show 21 + f < 33 by omega), cpF_lt hf, cpF_lt hf, cpF_lt hf]; exact hV f hf
  · rw [cpF_lt hf, cpF_lt hf, cpF_lt hf]; exact hG f hf
theorem copyL (d : Nat → Int32) : iter (fL_months_L9 33 d) FU (0, fun _ => 0) = some (cpF 33 d (fun _ => 0)) := by
  refine iter_for (fun i => (nI i, cpF i d (fun _ => 0))) 33 _ _ rfl (by omega) (fun i hi => ?_) ?_
  · show fL_months_L9 33 d (nI i, cpF i d (fun _ => 0)) = some (Sum.inl (nI (i + 1), cpF (i + 1) d (fun _ => 0)))
    unfold fL_months_L9
    dsimp only
    rw [if_neg (show ¬ (33 : Int32) ≤ nI i by rw [show (33 : Int32) = nI 33 from rfl, leN (by omega) (by omega)]; omega), gd_t (inbN (by omega) (by omega)), gd_t (inbN (by omega) (by omega)), clN (by omega), nI1]
    refine congrArg (fun x => some (Sum.inl (nI (i + 1), x))) ?_
    funext j
    rw [upd_eq]
    unfold cpF
    by_cases e : j = i
    · rw [if_pos e, if_pos (by omega), e]
    · rw [if_neg e]
      by_cases e2 : j < i
      · rw [if_pos e2, if_pos (by omega)]
      · rw [if_neg e2, if_neg (by omega)]
  · show fL_months_L9 33 d (nI 33, cpF 33 d (fun _ => 0)) = _
    unfold fL_months_L9
    exact if_pos (show (33 : Int32) ≤ nI 33 by decide)
theorem monthsTwo {n : Nat} (hn1 : 1 ≤ n) {k l o d : Nat → Int32} (hW : RW n k l o d) {N T sd : Nat} (hN2 : N ≤ 60) (hT : T ≤ 10) (hsd : sd < 2 ^ 31) (bh bm : Int32) (t dd tk tl to tt td : Nat → Int32) : ∃ (e : Int32 × Int32 × Int32 × (Nat → Int32) × (Nat → Int32) × (Nat → Int32) × Int64) (e' : Int64 × Int32 × (Nat → Int32) × (Nat → Int32)), iter (fX10_months_L62 (nI N) (nI T) (nI n, bh, bm, cpF 10 k tk, cpF 10 l tl, cpF 10 o to, cpF 40 t tt, cpF 36 dd td)) FU (0, 0, bh, bm, cpF 10 l tl, cpF 10 o to, cpF 40 t tt, lN sd) = some e ∧ iter (fL_months_L48 (nI N) (nI T)) FU (lN sd, 0, 0, cpF 33 d (fun _ => 0), fun _ => 0) = some e' ∧ e.1 = e'.2.1 ∧ (∃ s : Nat, s < 2 ^ 31 ∧ e.2.2.2.2.2.2 = lN s ∧ e'.1 = lN s) ∧ RW n (cpF 10 k tk) e.2.2.2.1 e.2.2.2.2.1 e'.2.2.1 := by
  exact two_for (st := fX10_months_L62 (nI N) (nI T) (nI n, bh, bm, cpF 10 k tk, cpF 10 l tl, cpF 10 o to, cpF 40 t tt, cpF 36 dd td)) (st' := fL_months_L48 (nI N) (nI T))
    (fun i z z' => z.1 = z'.2.1 ∧ z.2.1 = nI i ∧ z'.2.2.1 = nI i ∧ (∃ s : Nat, s < 2 ^ 31 ∧ z.2.2.2.2.2.2.2 = lN s ∧ z'.1 = lN s) ∧ RW n (cpF 10 k tk) z.2.2.2.2.1 z.2.2.2.2.2.1 z'.2.2.2.1)
    (fun e e' => e.1 = e'.2.1 ∧ (∃ s : Nat, s < 2 ^ 31 ∧ e.2.2.2.2.2.2 = lN s ∧ e'.1 = lN s) ∧ RW n (cpF 10 k tk) e.2.2.2.1 e.2.2.2.2.1 e'.2.2.1) N (by omega)
    (fun i z z' hi hI => by
      obtain ⟨dmp, ix, zb, zm, L, O, TT, sd0⟩ := z
      obtain ⟨sd', dmp', ix', D, R⟩ := z'
      obtain ⟨h1, h2, h3, ⟨s, hs, h4, h5⟩, hW1⟩ := hI
      dsimp only at h1 h2 h3 h4 h5 hW1
      subst h1; subst h2; subst h3; subst h4; subst h5
      have hx : ¬ nI N ≤ nI i := by rw [leN (by omega) (by omega)]; omega
      obtain ⟨r1, s', bh', bm', L', o', t', D', g1, g2, g3, g4⟩ := monthXL hn1 hW1 hs hT zb zm TT
      obtain ⟨r'', g5⟩ := g4 (nI N) dmp (nI i) R hx
      rw [g5]
      unfold fX10_months_L62
      dsimp only
      rw [if_neg hx, g1, bd_s]
      exact ⟨_, _, rfl, rfl, rfl, nI1 i, nI1 i, ⟨s', g2, rfl, rfl⟩, g3⟩)
    (fun z z' hI => by
      obtain ⟨dmp, ix, zb, zm, L, O, TT, sd0⟩ := z
      obtain ⟨sd', dmp', ix', D, R⟩ := z'
      obtain ⟨h1, h2, h3, h4, hW1⟩ := hI
      dsimp only at h1 h2 h3 h4 hW1
      subst h1; subst h2; subst h3
      unfold fX10_months_L62 fL_months_L48
      dsimp only
      have hx : nI N ≤ nI N := by rw [leN (by omega) (by omega)]; omega
      rw [if_pos hx, if_pos hx]
      exact ⟨_, _, rfl, rfl, rfl, h4, hW1⟩)
    (0, 0, bh, bm, cpF 10 l tl, cpF 10 o to, cpF 40 t tt, lN sd) (lN sd, 0, 0, cpF 33 d (fun _ => 0), fun _ => 0) ⟨rfl, rfl, rfl, ⟨sd, hsd, rfl, rfl⟩, RW_cp hW tk tl to (fun _ => 0)⟩
theorem monthsX {n : Nat} (hn1 : 1 ≤ n) {k l o d : Nat → Int32} (hW : RW n k l o d) {N T sd : Nat} (hN1 : 1 ≤ N) (hN2 : N ≤ 60) (hT : T ≤ 10) (hsd : sd < 2 ^ 31) {e' : Int64 × Int32 × (Nat → Int32) × (Nat → Int32)} (he : iter (fL_months_L48 (nI N) (nI T)) FU (lN sd, 0, 0, cpF 33 d (fun _ => 0), fun _ => 0) = some e') (kp bh bm : Int32) (t dd : Nat → Int32) (ts tb tm : Int32) (tk tl to tt td : Nat → Int32) (ds : Int64) {part : Int32} (hp : part = 0 ∨ part = 1 ∨ part = 2) : ∃ q : Int32 × Int32 × Int32 × (Nat → Int32) × (Nat → Int32) × (Nat → Int32) × (Nat → Int32) × (Nat → Int32) × Int64, fX10_months kp (nI n) bh bm k l o t dd ts tb tm tk tl to tt td ds (nI N) (nI T) (nI sd) part = some ((if part = 0 then sumL (fun f => e'.2.2.1 (11 + f)) n else if part = 1 then e'.2.1 else (e'.1).toInt32), q) := by
  have hn := hW.1
  obtain ⟨e, e2, h1, h2, h3, ⟨s, hs, h4, h5⟩, hW1⟩ := monthsTwo hn1 hW (N := N) (T := T) (sd := sd) hN2 hT hsd bh bm t dd tk tl to tt td
  obtain rfl : e2 = e' := Option.some.inj (h2.symm.trans he)
  unfold fX10_months
  rw [if_neg (show ¬ fX10_isWithin (nI N) 1 60 = 0 from within_iff.mpr ⟨nI_le (a := 1) hN1 (by omega), nI_le (b := 60) hN2 (by omega)⟩), if_neg (show ¬ fX10_isWithin (nI T) 0 10 = 0 from within_iff.mpr ⟨nI_le (a := 0) (Nat.zero_le _) (by omega), nI_le (b := 10) hT (by omega)⟩), if_neg (show ¬ nI sd < 0 by rw [show (0 : Int32) = nI 0 from rfl, ltN (by omega) (by omega)]; omega), if_neg (show ¬ fX10_isWithin part 0 2 = 0 by rcases hp with rfl | rfl | rfl <;> decide), copyFromN, bd_s]
  unfold fX2_begin
  rw [bd_s, nI_l hsd]
  dsimp only
  rw [h1, bd_s]
  unfold fX10_months_X62_91
  dsimp only
  rw [leafX hn, bd_s]
  have hsum : sumL e.2.2.2.1 n = sumL (fun f => e2.2.2.1 (11 + f)) n := sumL_same n (fun i hi => ((hW1.2.2.1 i (by omega)).2.1).symm)
  by_cases c0 : part = 0
  · rw [if_pos c0, if_pos c0, hsum]
    exact ⟨_, rfl⟩
  · rw [if_neg c0, if_neg c0]
    by_cases c1 : part = 1
    · rw [if_pos c1, if_pos c1, h3]
      exact ⟨_, rfl⟩
    · rw [if_neg c1, if_neg c1]
      unfold fX2_seed
      rw [h4, h5]
      exact ⟨_, rfl⟩
theorem monthsN {n : Nat} (hn1 : 1 ≤ n) {k l o d : Nat → Int32} (hW : RW n k l o d) {N T sd : Nat} (hN1 : 1 ≤ N) (hN2 : N ≤ 60) (hT : T ≤ 10) (hsd : sd < 2 ^ 31) (kp bh bm : Int32) (t dd : Nat → Int32) (ts tb tm : Int32) (tk tl to tt td : Nat → Int32) (ds : Int64) : ∃ q : Int32 × Int32 × Int32 × (Nat → Int32) × (Nat → Int32) × (Nat → Int32) × (Nat → Int32) × (Nat → Int32) × Int64, fL_months 33 kp (nI n) bh bm k l o t dd ts tb tm tk tl to tt td ds d (nI N) (nI T) (nI sd) = some (1, q.1, q.2.1, q.2.2.1, q.2.2.2.1, q.2.2.2.2.1, q.2.2.2.2.2.1, q.2.2.2.2.2.2.1, q.2.2.2.2.2.2.2.1, q.2.2.2.2.2.2.2.2) := by
  have hn := hW.1
  obtain ⟨e, e2, h1, h2, h3, ⟨s, hs, h4, h5⟩, hW1⟩ := monthsTwo hn1 hW (N := N) (T := T) (sd := sd) hN2 hT hsd bh bm t dd tk tl to tt td
  have hsum : iter (fL_months_L175 e2) FU (0, 0) = some (sumL (fun f => e2.2.2.1 (11 + f)) n) := by
    refine iter_for (fun i => (sumL (fun f => e2.2.2.1 (11 + f)) i, nI i)) n _ _ rfl (by omega) (fun i hi => ?_) ?_
    · show fL_months_L175 e2 (sumL (fun f => e2.2.2.1 (11 + f)) i, nI i) = some (Sum.inl (sumL (fun f => e2.2.2.1 (11 + f)) i + e2.2.2.1 (11 + i), nI (i + 1)))
      unfold fL_months_L175
      simp only [c00, hW1.2.1]
      rw [if_neg (by rw [leN (by omega) (by omega)]; omega), a11N, gd_t (inbN (by omega) (by omega)), clN (by omega), nI1]
    · show fL_months_L175 e2 (sumL (fun f => e2.2.2.1 (11 + f)) n, nI n) = _
      unfold fL_months_L175
      simp only [c00, hW1.2.1]
      rw [if_pos (by rw [leN (by omega) (by omega)]; omega)]
  obtain ⟨q0, g0⟩ := monthsX hn1 hW hN1 hN2 hT hsd h2 kp bh bm t dd ts tb tm tk tl to tt td ds (part := 0) (Or.inl rfl)
  obtain ⟨q1, g1⟩ := monthsX hn1 hW hN1 hN2 hT hsd h2 kp bh bm t dd q0.1 q0.2.1 q0.2.2.1 q0.2.2.2.1 q0.2.2.2.2.1 q0.2.2.2.2.2.1 q0.2.2.2.2.2.2.1 q0.2.2.2.2.2.2.2.1 q0.2.2.2.2.2.2.2.2 (part := 1) (Or.inr (Or.inl rfl))
  obtain ⟨q2, g2⟩ := monthsX hn1 hW hN1 hN2 hT hsd h2 kp bh bm t dd q1.1 q1.2.1 q1.2.2.1 q1.2.2.2.1 q1.2.2.2.2.1 q1.2.2.2.2.2.1 q1.2.2.2.2.2.2.1 q1.2.2.2.2.2.2.2.1 q1.2.2.2.2.2.2.2.2 (part := 2) (Or.inr (Or.inr rfl))
  rw [if_pos rfl] at g0
  rw [if_neg (by decide), if_pos rfl] at g1
  rw [if_neg (by decide), if_neg (by decide)] at g2
  unfold fL_months
  rw [copyL, bd_s]
  unfold fL_months_X9_31
  rw [nI_l hsd, h2, bd_s]
  unfold fL_months_X48_169
  rw [hsum, bd_s]
  unfold fL_months_X175_203
  rw [g0, bd_s]
  dsimp only
  rw [if_pos rfl, g1, bd_s]
  dsimp only
  rw [if_pos rfl, g2, bd_s]
  dsimp only
  rw [h5, lN_i, nI_l hs, if_pos (lgc_zero.mpr rfl)]
  exact ⟨q2, rfl⟩
