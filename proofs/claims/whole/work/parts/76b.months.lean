/-! months: the copy tried, month by month -/
theorem q_months {k l o t d : Nat → Int32} {sz bh bm : Int32} {rows debts : Nat → Int32} {many mh mm : Int32} (hH : RelH k l o t d sz bh bm rows debts many mh mm) (kp ts tb tm : Int32) (tk tl to tt td : Nat → Int32) (ds : Int64) (p r tld rn sn km kb kc : Int32) (hh : Int64) (sv : Nat → Int32) (x1 x2 x3 x4 : Int32) : ∃ zx, fX10_months kp sz bh bm k l o t d ts tb tm tk tl to tt td ds x1 x2 x3 x4 = some zx ∧ ∃ zm, fX11_months p r tld many mh mm rn sn km kb kc hh rows sv x1 x2 x3 x4 = some zm ∧ zx.1 = zm.1 ∧ RelH k l o t d sz bh bm zm.2.2.1 debts many mh mm := by
  have hH0 := hH
  obtain ⟨n, hn, rfl, rfl, rfl, rfl, hC, hRD⟩ := hH
  unfold fX10_months fX11_months
  rw [show fX11_in x1.toInt64 1 60 = fX10_isWithin x1 1 60 from in_eq x1 1 60, show fX11_in x2.toInt64 0 10 = fX10_isWithin x2 0 10 from in_eq x2 0 10, show fX11_in x4.toInt64 0 2 = fX10_isWithin x4 0 2 from in_eq x4 0 2]
  by_cases c1 : fX10_isWithin x1 1 60 = 0
  · rw [if_pos c1, if_pos c1]; exact ⟨_, rfl, _, rfl, rfl, hH0⟩
  rw [if_neg c1, if_neg c1]
  by_cases c2 : fX10_isWithin x2 0 10 = 0
  · rw [if_pos c2, if_pos c2]; exact ⟨_, rfl, _, rfl, rfl, hH0⟩
  rw [if_neg c2, if_neg c2]
  by_cases c3 : x3 < 0
  · rw [if_pos c3, if_pos c3]; exact ⟨_, rfl, _, rfl, rfl, hH0⟩
  rw [if_neg c3, if_neg c3]
  by_cases c4 : fX10_isWithin x4 0 2 = 0
  · rw [if_pos c4, if_pos c4]; exact ⟨_, rfl, _, rfl, rfl, hH0⟩
  rw [if_neg c4, if_neg c4, copyFromN]
  obtain ⟨N, hN1, hN2, rfl⟩ := withinN (lo := 1) (hi := 60) (by omega) (by omega) c1
  obtain ⟨s0, hs0, rfl⟩ := nI_of c3
  rw [copyN (by omega) rows sv]
  unfold fX2_begin
  rw [bd_s, bd_s, bd_s, show (nI s0).toInt64 = lN s0 from nI_l hs0]
  dsimp only
  have hC0 : RC (cpF 10 k tk) (cpF 10 l tl) (cpF 10 o to) (cpF 40 t tt) rows := by
    refine RC_rows (RC_cp hC tk tl to tt rows) fun j hj => ?_
    rw [cpF_lt hj]
  obtain ⟨e1, e2, h1, h2, h3, ⟨s', hs', e4, e5⟩, hC'⟩ := two_for (st := fX10_months_L62 (nI N) x2 (nI n, mh, mm, cpF 10 k tk, cpF 10 l tl, cpF 10 o to, cpF 40 t tt, cpF 36 d td)) (st' := fX11_months_L66 p r tld (nI n) mh mm rn km kb kc hh (nI N) x2)
    (fun i z z' => z.1 = z'.1 ∧ z.2.1 = nI i ∧ z'.2.1 = nI i ∧ (∃ s, s < 2 ^ 31 ∧ z.2.2.2.2.2.2.2 = lN s ∧ z'.2.2.1 = nI s) ∧ RC (cpF 10 k tk) z.2.2.2.2.1 z.2.2.2.2.2.1 z.2.2.2.2.2.2.1 z'.2.2.2)
    (fun e e' => e.1 = e'.1 ∧ (∃ s, s < 2 ^ 31 ∧ e.2.2.2.2.2.2 = lN s ∧ e'.2.1 = nI s) ∧ RC (cpF 10 k tk) e.2.2.2.1 e.2.2.2.2.1 e.2.2.2.2.2.1 e'.2.2) N (by omega)
    (fun i z z' hi hI => by
      obtain ⟨dmp, ix, zb, zm, L, O, T, sd⟩ := z
      obtain ⟨dmp', ix', sd', R⟩ := z'
      obtain ⟨h1, h2, h3, ⟨s, hs, h4, h5⟩, hC1⟩ := hI
      dsimp only at h1 h2 h3 h4 h5 hC1
      subst h1; subst h2; subst h3; subst h4; subst h5
      have hx : ¬ nI N ≤ nI i := by rw [leN (by omega) (by omega)]; omega
      obtain ⟨r1, s', bh', bm', L', o', t', R', g1, g2, g3, g4⟩ := monthX hC1 hn hs x2 zb zm p r tld mh mm rn km kb kc hh (nI N) dmp (nI i) hx
      rw [g4]
      unfold fX10_months_L62
      dsimp only
      rw [if_neg hx, g1, bd_s]
      exact ⟨_, _, rfl, rfl, rfl, nI1 i, nI1 i, ⟨s', g2, rfl, rfl⟩, g3⟩)
    (fun z z' hI => by
      obtain ⟨dmp, ix, zb, zm, L, O, T, sd⟩ := z
      obtain ⟨dmp', ix', sd', R⟩ := z'
      obtain ⟨h1, h2, h3, h4, hC1⟩ := hI
      dsimp only at h1 h2 h3 h4 hC1
      subst h1; subst h2; subst h3
      unfold fX10_months_L62 fX11_months_L66
      dsimp only
      have hx : nI N ≤ nI N := by rw [leN (by omega) (by omega)]; omega
      rw [if_pos hx, if_pos hx]
      exact ⟨_, _, rfl, rfl, rfl, h4, hC1⟩)
    (0, 0, mh, mm, cpF 10 l tl, cpF 10 o to, cpF 40 t tt, lN s0) (0, 0, nI s0, rows) ⟨rfl, rfl, rfl, ⟨s0, hs0, rfl, rfl⟩, hC0⟩
  rw [h1, h2, bd_s, bd_s]
  unfold fX10_months_X62_91 fX11_months_X66_181
  dsimp only
  obtain ⟨z, g1, g2⟩ := q_sum hC' hn e1.2.1 e1.2.2.1 p r tld mh mm rn e2.2.1 km kb kc hh
  rw [g1, g2, bd_s, bd_s, copyN (by omega) (cpF 80 rows sv) e2.2.2, bd_s]
  have hfin : RelH k l o t d (nI n) mh mm (cpF 80 (cpF 80 rows sv) e2.2.2) debts (nI n) mh mm := by
    refine ⟨n, hn, rfl, rfl, rfl, rfl, RC_rows hC fun j hj => ?_, hRD⟩
    rw [cpF_lt hj, cpF_lt hj]
  by_cases c5 : x4 = 0
  · rw [if_pos c5, if_pos c5]; exact ⟨_, rfl, _, rfl, rfl, hfin⟩
  rw [if_neg c5, if_neg c5]
  by_cases c6 : x4 = 1
  · rw [if_pos c6, if_pos c6]; exact ⟨_, rfl, _, rfl, h3, hfin⟩
  rw [if_neg c6, if_neg c6]
  refine ⟨_, rfl, _, rfl, ?_, hfin⟩
  show fX2_seed e1.2.2.2.2.2.2 = e2.2.1
  unfold fX2_seed
  rw [e4, e5, lN_i]
