/-! held, when: the calls -/
theorem q_held {k l o t d : Nat → Int32} {sz bh bm : Int32} {rows debts : Nat → Int32} {many mh mm : Int32} (hH : RelH k l o t d sz bh bm rows debts many mh mm) (kp : Int32) (ca : Int64) (ck ct : Int32) (cb : Nat → Int64) (pm rm td rn sn km kb kc : Int32) (hh : Int64) (ml mt : Nat → Int64) (x1 x2 x3 x4 : Int32) : ∃ zx, fX10_held kp sz bh bm k l o ca ck ct cb x1 x2 x3 x4 = some zx ∧ ∃ zm, fX11_held pm rm td many mh mm rn sn km kb kc hh rows ml mt x1 x2 x3 x4 = some zm ∧ zx.1 = zm.1 := by
  obtain ⟨n, hn, rfl, rfl, rfl, rfl, hC, hD⟩ := hH
  unfold fX10_held fX11_held
  rw [isFrond_eq hn (bh := mh) (bm := mm), show fX11_in x2.toInt64 0 9 = fX10_isWithin x2 0 9 from in_eq x2 0 9, show fX11_in x3.toInt64 0 10 = fX10_isWithin x3 0 10 from in_eq x3 0 10, show fX11_in x4.toInt64 0 1 = fX10_isWithin x4 0 1 from in_eq x4 0 1]
  by_cases h1 : fX4_knows (nI n) mh mm x1 = 0
  · rw [if_pos h1, if_pos h1]; exact ⟨_, rfl, _, rfl, rfl⟩
  rw [if_neg h1, if_neg h1]
  by_cases h2 : fX10_isWithin x2 0 9 = 0
  · rw [if_pos h2, if_pos h2]; exact ⟨_, rfl, _, rfl, rfl⟩
  rw [if_neg h2, if_neg h2]
  by_cases h3 : fX10_isWithin x3 0 10 = 0
  · rw [if_pos h3, if_pos h3]; exact ⟨_, rfl, _, rfl, rfl⟩
  rw [if_neg h3, if_neg h3]
  by_cases h4 : fX10_isWithin x4 0 1 = 0
  · rw [if_pos h4, if_pos h4]; exact ⟨_, rfl, _, rfl, rfl⟩
  rw [if_neg h4, if_neg h4]
  obtain ⟨f, hf, rfl⟩ := knowsN hn h1
  obtain ⟨m, -, hm, rfl⟩ := withinN (lo := 0) (hi := 9) (by omega) (by omega) h2
  obtain ⟨q, -, hq, rfl⟩ := withinN (lo := 0) (hi := 10) (by omega) (by omega) h3
  have hf10 : f < 10 := by omega
  obtain ⟨⟨c, hc, hkc⟩, ⟨v0, hv, hlv⟩, -⟩ := hC.2.2 f hf10
  obtain ⟨r1, r2, r3⟩ := hC.1 f hf10
  obtain ⟨zx, a1, a2⟩ := meanX (o := o) hf10 hc hkc hv hlv hq (show m < 10 by omega) kp (nI n) mh mm ca ck ct cb x4
  obtain ⟨L, T, b1⟩ := heldM hc hf10 hq hv (show m < 1000 by omega) (r1.trans hkc) (r2.trans hlv) pm rm td (nI n) mh mm rn sn km kb kc hh ml mt
  rw [r3] at b1
  rw [a1, b1, bd_s, bd_s, powM (by omega), bd_s, a2, bd_s]
  exact ⟨_, rfl, _, rfl, rfl⟩
theorem q_when {k l o t d : Nat → Int32} {sz bh bm : Int32} {rows debts : Nat → Int32} {many mh mm : Int32} (hH : RelH k l o t d sz bh bm rows debts many mh mm) (kp : Int32) (ca : Int64) (ck ct : Int32) (cb : Nat → Int64) (pm rm td rn sn km kb kc : Int32) (hh : Int64) (ml mt : Nat → Int64) (x1 x2 x3 : Int32) : ∃ zx, fX10_when kp sz bh bm k l o ca ck ct cb x1 x2 x3 = some zx ∧ ∃ zm, fX11_when pm rm td many mh mm rn sn km kb kc hh rows ml mt x1 x2 x3 = some zm ∧ zx.1 = zm.1 := by
  obtain ⟨n, hn, rfl, rfl, rfl, rfl, hC, hD⟩ := hH
  unfold fX10_when fX11_when
  rw [isFrond_eq hn (bh := mh) (bm := mm), show fX11_in x2.toInt64 0 9 = fX10_isWithin x2 0 9 from in_eq x2 0 9, show fX11_in x3.toInt64 0 10 = fX10_isWithin x3 0 10 from in_eq x3 0 10]
  by_cases h1 : fX4_knows (nI n) mh mm x1 = 0
  · rw [if_pos h1, if_pos h1]; exact ⟨_, rfl, _, rfl, rfl⟩
  rw [if_neg h1, if_neg h1]
  by_cases h2 : fX10_isWithin x2 0 9 = 0
  · rw [if_pos h2, if_pos h2]; exact ⟨_, rfl, _, rfl, rfl⟩
  rw [if_neg h2, if_neg h2]
  by_cases h3 : fX10_isWithin x3 0 10 = 0
  · rw [if_pos h3, if_pos h3]; exact ⟨_, rfl, _, rfl, rfl⟩
  rw [if_neg h3, if_neg h3]
  obtain ⟨f, hf, rfl⟩ := knowsN hn h1
  obtain ⟨m, -, hm, rfl⟩ := withinN (lo := 0) (hi := 9) (by omega) (by omega) h2
  obtain ⟨q, -, hq, rfl⟩ := withinN (lo := 0) (hi := 10) (by omega) (by omega) h3
  have hf10 : f < 10 := by omega
  obtain ⟨⟨c, hc, hkc⟩, ⟨v0, hv, hlv⟩, -⟩ := hC.2.2 f hf10
  obtain ⟨r1, r2, r3⟩ := hC.1 f hf10
  obtain ⟨b, a1, a2⟩ := beginX (o := o) (t := q) hf10 hkc hv hlv ca ck ct cb (nI n) mh mm
  have hq' := tt_le hq (o f)
  have hM := fun (j : Nat) (hj : j < 1000) (L T : Nat → Int64) => heldM hc hf10 hq hv hj (r1.trans hkc) (r2.trans hlv) pm rm td (nI n) mh mm rn sn km kb kc hh L T
  rw [r3] at hM
  obtain ⟨L0, T0, m1⟩ := hM 0 (by omega) ml mt
  rw [a1, bd_s, show (0 : Int32) = nI 0 from rfl, m1, bd_s]
  unfold fX0_lastMonthOfNoLess
  dsimp only
  rw [worthAllX hc (lN (10 ^ 0)) (nI (ttN (o f) q)) a2, bd_s, pd_same hq (o f) v0 0]
  generalize hu : lN (wuN (hvN c) (pdN (wwN c (o f)) q (10 - q) v0 0) 10) = u0
  obtain ⟨e, e', b1, b2, b3⟩ := two_for (st := fX0_lastMonthOfNoLess_L11 (nI c) (nI (ttN (o f) q)) (nI m) u0) (st' := fX11_when_L53 pm rm td (nI n) mh mm rn sn km kb kc hh rows (nI f) (nI m) (nI q) (u0, L0, T0))
    (fun j z z' => z.1 = z'.1 ∧ z.2.1 = nI (j + 1) ∧ z'.2.1 = nI (j + 1) ∧ z.2.2.1 = lN (10 ^ j) ∧ RLn z.2.2.2 (pdN (mvN c) (ttN (o f) q) (10 - ttN (o f) q) v0 j)) (fun e e' => e.1 = e'.1) m (by omega)
    (fun j z z' hj hI => by
      obtain ⟨x, y, al, b'⟩ := z
      obtain ⟨x', y', L', T'⟩ := z'
      obtain ⟨w1, w2, w3, w4, w5⟩ := hI
      dsimp only at w1 w2 w3 w4 w5
      subst w1 w2 w3 w4
      unfold fX0_lastMonthOfNoLess_L11 fX11_when_L53
      dsimp only
      have e : (nI m < nI (j + 1)) = (m < j + 1) := ltN (by omega) (by omega)
      rw [if_neg (fun w => by have := e.mp w; omega), if_neg (fun w => by have := e.mp w; omega)]
      obtain ⟨b2, c1, c2⟩ := passX hc hq' (lN (10 ^ j)) w5
      obtain ⟨L2, T2, d1⟩ := hM (j + 1) (by omega) L' T'
      rw [c1, d1, bd_s, bd_s, powM (by omega), bd_s]
      dsimp only
      rw [worthAllX hc (lN (10 ^ j) * 10) (nI (ttN (o f) q)) c2, bd_s, p10N]
      have hp := pd_same (c := c) hq (o f) v0 (j + 1)
      have hp2 : (fun v => dsN (mvN c) (ttN (o f) q) (10 - ttN (o f) q) (pdN (mvN c) (ttN (o f) q) (10 - ttN (o f) q) v0 j) v 10) = pdN (mvN c) (ttN (o f) q) (10 - ttN (o f) q) v0 (j + 1) := rfl
      rw [hp2, hp]
      refine ⟨_, _, rfl, rfl, rfl, nI1 (j + 1), nI1 (j + 1), rfl, ?_⟩
      rw [hp2, hp] at c2
      exact c2)
    (fun z z' hI => by
      obtain ⟨x, y, al, b'⟩ := z
      obtain ⟨x', y', L', T'⟩ := z'
      obtain ⟨w1, w2, w3, w4, w5⟩ := hI
      dsimp only at w1 w2 w3 w4 w5
      subst w1 w2 w3 w4
      unfold fX0_lastMonthOfNoLess_L11 fX11_when_L53
      dsimp only
      have e : (nI m < nI (m + 1)) = (m < m + 1) := ltN (by omega) (by omega)
      rw [if_pos (e.mpr (by omega)), if_pos (e.mpr (by omega))]
      exact ⟨_, _, rfl, rfl, rfl⟩) (0, 1, lN (10 ^ 0), b) (0, 1, L0, T0) ⟨rfl, rfl, rfl, rfl, a2⟩
  rw [show (nI 0 : Int32) = 0 from rfl, b1, b2, bd_s, bd_s]
  unfold fX0_lastMonthOfNoLess_X11_45 fX11_when_X53_94
  rw [bd_s]
  exact ⟨_, rfl, _, rfl, b3⟩
