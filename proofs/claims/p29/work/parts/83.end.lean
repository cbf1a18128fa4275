/-! the law answers 1 -/
abbrev LSe := Int32 × Int32 × Int32 × Int32 × (Nat → Int32) × (Nat → Int32) × (Nat → Int32) × (Nat → Int32) × (Nat → Int32) × Int32 × Int32 × Int32 × (Nat → Int32) × (Nat → Int32) × (Nat → Int32) × (Nat → Int32) × (Nat → Int32) × Int32 × Int32 × Int32 × Int64 × Int32 × Int32 × (Nat → Int64) × Int64 × (Nat → Int32) × (Nat → Int32) × (Nat → Int32)
theorem refuseN (u5 : U5t) (hu : u5.2.2.2.2.2.2.1 = 0) {n : Nat} (hn1 : 1 ≤ n) {bh bm came : Int32} {k l o t dd d r w : Nat → Int32} (hR : R29 n k l o t dd d r w bh bm) (ts tb tm : Int32) (tk tl to tt td : Nat → Int32) (pp lw lb : Int32) (ca : Int64) (ck ct : Int32) (cb : Nat → Int64) (sd : Int64) : fL_law_X892_972 u5 (came, nI n, bh, bm, k, l, o, t, dd, ts, tb, tm, tk, tl, to, tt, td, pp, lw, lb, ca, ck, ct, cb, sd, d, r, w) () = some 1 := by
  have hn := hR.1.1
  have h0 := hR.1.2.1
  unfold fL_law_X892_972
  simp only [c00, h0, hu]
  refine chk (rf_about1 hn 0) rfl ?_
  refine chk (rf_about2 hn1 hn) rfl ?_
  refine chk (rf_as1 hn 0) rfl ?_
  refine chk (rf_as2 hn1 hn) rfl ?_
  refine chk (rf_snap1 hn 1) rfl ?_
  refine chk (rf_snap2 hn1 hn) rfl ?_
  refine chk (rf_snap3 hn1 hn) rfl ?_
  refine chk (rf_pay1 hn 0) rfl ?_
  refine chk (rf_pay2 hn1 hn) rfl ?_
  refine chk (rf_debt1 _) rfl ?_
  refine chk (rf_debt2 _) rfl ?_
  refine chk (rf_debt3 _) rfl ?_
  refine chk (rf_debt4 _) rfl ?_
  refine chk (rf_owes _) rfl ?_
  refine chk (rf_bank hn) rfl ?_
  refine chk (rf_fetch1 hn 0) rfl ?_
  refine chk (rf_fetch2 hn1 hn) rfl ?_
  refine chk (rf_least1 _ 1 0) rfl ?_
  refine chk (rf_least2 _ 0) rfl ?_
  refine chk (rf_least3 _ 0) rfl ?_
  refine chk (rf_least4 _) rfl ?_
  refine chk (rf_held1 hn 0 0 0) (lgc_zero.mpr rfl) ?_
  refine chk (rf_held2 hn1 hn 0 0) (lgc_zero.mpr rfl) ?_
  refine chk (rf_held3 hn1 hn 0) (lgc_zero.mpr rfl) ?_
  refine chk (rf_held4 hn1 hn) (lgc_zero.mpr rfl) ?_
  refine chk (rf_when1 hn 0 0) rfl ?_
  refine chk (rf_when2 hn1 hn 0) rfl ?_
  refine chk (rf_when3 hn1 hn) rfl ?_
  refine chk (rf_months1 _ 0 0 0) rfl ?_
  refine chk (rf_months2 _ 0 0) rfl ?_
  refine chk (rf_months3 _ 0) rfl ?_
  refine chk (rf_months4 _) rfl ?_
  refine chk (rf_book1 _ _ _) rfl ?_
  exact chk (rf_book2 _ _) rfl rfl
theorem alsoL : ∀ c a : Fin 5, fX5_isAlso (nI c.val) (nI a.val) = if (a.val = 0 ∨ a.val = c.val ∨ (a.val = 1 ∧ c.val = 4)) then 1 else 0 := by decide
theorem asIn (a47 : LSe) {n : Nat} {bh bm : Int32} {k l o t dd d r w : Nat → Int32} (hR : R29 n k l o t dd d r w bh bm) (h1 : a47.2.1 = nI n) (h2 : a47.2.2.2.2.1 = k) (h3 : a47.2.2.2.2.2.2.2.2.2.2.2.2.2.2.2.2.2.2.2.2.2.2.2.2.2.1 = d) {f : Nat} (hf : f < n) : iter (fL_law_L903 a47 (nI f)) FU 0 = some (Sum.inr ()) := by
  have hn := hR.1.1
  have hf10 : f < 10 := by omega
  obtain ⟨v1, -, -⟩ := hR.1.2.2.1 f hf10
  obtain ⟨⟨c, hc, ek⟩, -, -⟩ := hR.1.2.2.2 f hf10
  refine iter_for (fun a => nI a) 5 (Sum.inr ()) 0 rfl (by omega) (fun a ha => ?_) ?_
  · show fL_law_L903 a47 (nI f) (nI a) = some (Sum.inl (nI (a + 1)))
    have has : fX10_as 0 (nI n) a47.2.2.1 a47.2.2.2.1 k (nI f) (nI a) = some (if (a = 0 ∨ a = c ∨ (a = 1 ∧ c = 4)) then nI f else -1) := by
      have := alsoL ⟨c, hc⟩ ⟨a, ha⟩
      dsimp only at this
      unfold fX10_as
      rw [knows_t hn hf, if_neg (show ¬ (1 : Int32) = 0 by decide), if_neg (show ¬ fX10_isWithin (nI a) 0 4 = 0 from within_iff.mpr ⟨nI_le (a := 0) (Nat.zero_le _) (by omega), nI_le (b := 4) (by omega) (by omega)⟩), gd_t (inbN (by omega) (by omega)), clN (by omega), ek, this]
      by_cases h : (a = 0 ∨ a = c ∨ (a = 1 ∧ c = 4))
      · rw [if_pos h, if_pos h, if_neg (show ¬ (1 : Int32) = 0 by decide)]
      · rw [if_neg h, if_neg h, if_pos rfl]
    have e0 : (nI a = 0) = (a = 0) := eqN (b := 0) (by omega) (by omega)
    have e1 : (nI a = 1) = (a = 1) := eqN (b := 1) (by omega) (by omega)
    have ec : (nI a = nI c) = (a = c) := eqN (by omega) (by omega)
    have e4 : (nI c = 4) = (c = 4) := eqN (b := 4) (by omega) (by omega)
    unfold fL_law_L903 fL_law_J954 fL_law_J955 fL_law_J949
    rw [h1, h2, h3, has, bd_s, if_neg (show ¬ (5 : Int32) ≤ nI a by rw [show (5 : Int32) = nI 5 from rfl, leN (by omega) (by omega)]; omega), a1N, gd_t (inbN (by omega) (by omega)), clN (show 1 + f < 2 ^ 31 by omega), nI1]
    simp only [v1, ek, e0, e1, ec, e4]
    by_cases c0 : a = 0
    · rw [if_pos c0, if_pos (Or.inl c0), if_pos rfl]
    · rw [if_neg c0]
      by_cases c1 : a = c
      · rw [if_pos c1, if_pos (Or.inr (Or.inl c1)), if_pos rfl]
      · rw [if_neg c1]
        by_cases c2 : a = 1
        · rw [if_pos c2]
          by_cases c3 : c = 4
          · rw [if_pos c3, if_pos (Or.inr (Or.inr ⟨c2, c3⟩)), if_pos rfl]
          · rw [if_neg c3, if_neg (show ¬ (a = 0 ∨ a = c ∨ (a = 1 ∧ c = 4)) by omega), if_pos rfl]
        · rw [if_neg c2, if_neg (show ¬ (a = 0 ∨ a = c ∨ (a = 1 ∧ c = 4)) by omega), if_pos rfl]
  · show fL_law_L903 a47 (nI f) (nI 5) = _
    unfold fL_law_L903
    exact if_pos (show (5 : Int32) ≤ nI 5 by decide)
theorem endN (u5 : U5t) (hu : u5.2.2.2.2.2.2.1 = 0) {n : Nat} (hn1 : 1 ≤ n) {bh bm : Int32} {k l o t dd d r w : Nat → Int32} (hR : R29 n k l o t dd d r w bh bm) (ts tb tm : Int32) (tk tl to tt td : Nat → Int32) (pp lw lb : Int32) (ca : Int64) (ck ct : Int32) (cb : Nat → Int64) (sd : Int64) : fL_law_X92_838 u5 (sumL l n + bh + bm, nI n, bh, bm, k, l, o, t, dd, ts, tb, tm, tk, tl, to, tt, td, pp, lw, lb, ca, ck, ct, cb, sd, d, r, w) = some 1 := by
  have hn := hR.1.1
  have h0 := hR.1.2.1
  obtain ⟨a47, ha⟩ : ∃ a47 : LSe, a47 = (sumL l n + bh + bm, nI n, bh, bm, k, l, o, t, dd, ts, tb, tm, tk, tl, to, tt, td, pp, lw, lb, ca, ck, ct, cb, sd, d, r, w) := ⟨_, rfl⟩
  have hd : a47.2.2.2.2.2.2.2.2.2.2.2.2.2.2.2.2.2.2.2.2.2.2.2.2.2.1 = d := by rw [ha]
  have hsum : iter (fL_law_L844 a47) FU (0, 0) = some (sumL l n) := by
    refine iter_for (fun i => (sumL l i, nI i)) n _ _ rfl (by omega) (fun i hi => ?_) ?_
    · obtain ⟨v1, v2, v3⟩ := hR.1.2.2.1 i (by omega)
      show fL_law_L844 a47 (sumL l i, nI i) = some (Sum.inl (sumL l i + l i, nI (i + 1)))
      unfold fL_law_L844
      rw [hd]
      simp only [c00, h0]
      rw [if_neg (by rw [leN (by omega) (by omega)]; omega), a11N, gd_t (inbN (by omega) (by omega)), clN (by omega), v2, nI1]
    · show fL_law_L844 a47 (sumL l n, nI n) = _
      unfold fL_law_L844
      rw [hd]
      simp only [c00, h0]
      rw [if_pos (by rw [leN (by omega) (by omega)]; omega)]
  have has : iter (fL_law_L892 a47) FU 0 = some (Sum.inr ()) := by
    refine iter_for (fun f => nI f) n (Sum.inr ()) 0 rfl (by omega) (fun f hf => ?_) ?_
    · show fL_law_L892 a47 (nI f) = some (Sum.inl (nI (f + 1)))
      unfold fL_law_L892
      rw [asIn a47 hR (by rw [ha]) (by rw [ha]) hd hf, hd]
      simp only [c00, h0]
      rw [if_neg (by rw [leN (by omega) (by omega)]; omega), bd_s]
      show some (Sum.inl (nI f + 1)) = _
      rw [nI1]
    · show fL_law_L892 a47 (nI n) = _
      unfold fL_law_L892
      rw [hd]
      simp only [c00, h0]
      rw [if_pos (by rw [leN (by omega) (by omega)]; omega)]
  rw [← ha]
  unfold fL_law_X92_838
  rw [hsum, bd_s]
  unfold fL_law_X844_870
  rw [hd, has, bd_s]
  have hc : (sumL l n + d (31 : Int32).toNatClampNeg) + d (32 : Int32).toNatClampNeg = a47.1 := by
    rw [c31, c32, hR.2.1, hR.2.2.1, ha]
  rw [if_pos hc, ha]
  exact refuseN u5 hu hn1 hR ..
theorem fL_law_ok (L : Nat) (xs : Nat → Int32) (hL : L ≤ 260) : fL_law L xs = some 1 := by
  obtain ⟨x0, e0⟩ := cellN hL xs (i := 0) (by omega)
  obtain ⟨x1, e1⟩ := cellN hL xs (i := 1) (by omega)
  obtain ⟨n, k, l, o, t, pc, d, r, hn1, hb, hR⟩ := bookN x0 x1
  have hn := hR.1.1
  have h0 := hR.1.2.1
  have e0' : fL_cell L xs 0 = some x0 := e0
  have e1' : fL_cell L xs 1 = some x1 := e1
  unfold fL_law
  rw [e0', bd_s, e1', bd_s, hb, bd_s]
  obtain ⟨u5, hu⟩ : ∃ u5 : U5t, u5 = (1, nI n, k, l, o, t, 0, pc, d, r) := ⟨_, rfl⟩
  rw [← hu]
  have hd : u5.2.2.2.2.2.2.2.2.1 = d := by rw [hu]
  have hst : fL_stands 33 40 36 0 u5.2.1 0 0 u5.2.2.1 u5.2.2.2.1 u5.2.2.2.2.1 u5.2.2.2.2.2.1 (fun _ => 0) u5.2.2.2.2.2.2.1 u5.2.2.2.2.2.2.2.2.1 u5.2.2.2.2.2.2.2.2.2 (fun _ => 0) = some 1 := by
    rw [hu]
    exact standsN hR 0 0
  have hsum : iter (fL_law_L63 u5) FU (0, 0) = some (sumL l n) := by
    refine iter_for (fun i => (sumL l i, nI i)) n _ _ rfl (by omega) (fun i hi => ?_) ?_
    · obtain ⟨v1, v2, v3⟩ := hR.1.2.2.1 i (by omega)
      show fL_law_L63 u5 (sumL l i, nI i) = some (Sum.inl (sumL l i + l i, nI (i + 1)))
      unfold fL_law_L63
      rw [hd]
      simp only [c00, h0]
      rw [if_neg (by rw [leN (by omega) (by omega)]; omega), a11N, gd_t (inbN (by omega) (by omega)), clN (by omega), v2, nI1]
    · show fL_law_L63 u5 (sumL l n, nI n) = _
      unfold fL_law_L63
      rw [hd]
      simp only [c00, h0]
      rw [if_pos (by rw [leN (by omega) (by omega)]; omega)]
  rw [if_neg (show ¬ u5.1 = 0 by rw [hu]; exact (show ¬ (1 : Int32) = 0 by decide)), hst, bd_s, if_neg (show ¬ (1 : Int32) = 0 by decide), hsum, bd_s]
  unfold fL_law_X63_89
  obtain ⟨e, g1, g2⟩ := iter_inv (st := fL_law_L92 L xs u5) (fun s : LSt => ∃ i : Nat, i ≤ 18 ∧ GOOD i s) (fun s => 18 - s.2.1.toNatClampNeg) (fun e => Sum.elim (fL_law_X92_271) (Sum.elim (fL_law_X92_362) (Sum.elim (fL_law_X92_472) (Sum.elim (fL_law_X92_514) (Sum.elim (fL_law_X92_567) (Sum.elim (fL_law_X92_598) (Sum.elim (fL_law_X92_679) (Sum.elim (fL_law_X92_773) (Sum.elim (fL_law_X92_817) (Sum.elim (fL_law_X92_830) (fL_law_X92_838 u5)))))))))) e = some 1)
    (fun s hI => by
      obtain ⟨i, hi, hG⟩ := hI
      by_cases h18 : i < 18
      · obtain ⟨s', a1, a2⟩ := stepL hL xs u5 h18 hG
        refine Or.inl ⟨s', a1, ⟨i + 1, by omega, a2⟩, ?_⟩
        rw [hG.1, a2.1, clN (by omega), clN (by omega)]
        omega
      · obtain rfl : i = 18 := by omega
        obtain ⟨came, tn, sz, bh, bm, k', l', o', t', dd, ts, tb, tm, tk, tl, to, tt, td, pp, lw, lb, ca, ck, ct, cb, sd, d', r', w⟩ := s
        obtain ⟨hz, m, hm1, hsz, hR', hc⟩ := hG
        dsimp only at hz hsz hR' hc
        subst hz; subst hsz; subst hc
        refine Or.inr ⟨_, (by unfold fL_law_L92; exact if_pos (show (18 : Int32) ≤ nI 18 by decide)), ?_⟩
        exact endN u5 (by rw [hu]) hm1 hR' ..)
    20 (sumL l n, 0, u5.2.1, 0, 0, u5.2.2.1, u5.2.2.2.1, u5.2.2.2.2.1, u5.2.2.2.2.2.1, (fun _ => 0), 0, 0, 0, (fun _ => 0), (fun _ => 0), (fun _ => 0), (fun _ => 0), (fun _ => 0), 0, 0, 0, 0, 0, 0, (fun _ => 0), 0, u5.2.2.2.2.2.2.2.2.1, u5.2.2.2.2.2.2.2.2.2, (fun _ => 0))
    ⟨0, by omega, by
      rw [hu]
      exact ⟨rfl, n, hn1, rfl, hR, by show sumL l n = sumL l n + 0 + 0; rw [Int32.add_zero, Int32.add_zero]⟩⟩ (by show 18 - _ < 20; omega)
  rw [g1, bd_s]
  exact g2
