/-! the law's eighteen turns -/
theorem leTurn {a : Nat} (h : a < 10) : ((4 : Int32) ≤ nI a) = (4 ≤ a) := leN (a := 4) (by omega) (by omega)
theorem eqTurn {a b : Nat} (h : a < 10) (hb : b < 10) : (nI a = nI b) = (a = b) := eqN (by omega) (by omega)
theorem stepL {Ls : Nat} (hL : Ls ≤ 260) (xs : Nat → Int32) (u5 : U5t) {i : Nat} (hi : i < 18) {z15 : LSt} (hG : GOOD i z15) : ∃ s' : LSt, fL_law_L92 Ls xs u5 z15 = some (Sum.inl s') ∧ GOOD (i + 1) s' := by
  obtain ⟨came, tn, sz, bh, bm, k, l, o, t, dd, ts, tb, tm, tk, tl, to, tt, td, pp, lw, lb, ca, ck, ct, cb, sd, d, r, w⟩ := z15
  obtain ⟨hz, n, hn1, hsz, hR, hc⟩ := hG
  dsimp only at hz hsz hR hc
  subst hz; subst hsz; subst hc
  have hn := hR.1.1
  have h0 := hR.1.2.1
  obtain ⟨x, ex⟩ := cellN hL xs (i := 2 + i) (by omega)
  obtain ⟨x2, ex2⟩ := cellN hL xs (i := 20 + i) (by omega)
  obtain ⟨sort, hsort, es⟩ := atN x (m := 10) (by omega) (by omega)
  obtain ⟨f, hf, ef⟩ := atN (x >>> (4 &&& 31)) (m := n) (by omega) (by omega)
  obtain ⟨p, hp, ep⟩ := atN (x >>> (8 &&& 31)) (m := 6) (by omega) (by omega)
  obtain ⟨y8, hy8, ey8⟩ := atN (x >>> (11 &&& 31)) (m := 8) (by omega) (by omega)
  obtain ⟨y2, hy2, ey2⟩ := atN (x >>> (11 &&& 31)) (m := 2) (by omega) (by omega)
  obtain ⟨y5, hy5, ey5⟩ := atN (x >>> (11 &&& 31)) (m := 5) (by omega) (by omega)
  obtain ⟨y60, hy60, ey60⟩ := atN (x >>> (11 &&& 31)) (m := 60) (by omega) (by omega)
  obtain ⟨y99, hy99, ey99⟩ := atN (x >>> (11 &&& 31)) (m := 99) (by omega) (by omega)
  obtain ⟨y12, hy12, ey12⟩ := atN (x >>> (11 &&& 31)) (m := 12) (by omega) (by omega)
  obtain ⟨w100, hw100, ew100⟩ := atN (x >>> (14 &&& 31)) (m := 100) (by omega) (by omega)
  obtain ⟨w8, hw8, ew8⟩ := atN (x >>> (14 &&& 31)) (m := 8) (by omega) (by omega)
  obtain ⟨v11, hv11, ev11⟩ := atN (x >>> (17 &&& 31)) (m := 11) (by omega) (by omega)
  obtain ⟨q2, hq2, eq2⟩ := atN (x >>> (18 &&& 31)) (m := 2) (by omega) (by omega)
  obtain ⟨q11, hq11, eq11⟩ := atN (x >>> (18 &&& 31)) (m := 11) (by omega) (by omega)
  obtain ⟨s31, hs31, es31⟩ := and31i x2
  have hf10 : f < 10 := by omega
  obtain ⟨v1, v2, v3⟩ := hR.1.2.2.1 f hf10
  have hGo := hR.1.2.2.2
  rw [show nI 10 = (10 : Int32) from rfl] at es
  rw [show nI 6 = (6 : Int32) from rfl] at ep
  rw [show nI 8 = (8 : Int32) from rfl] at ey8 ew8
  rw [show nI 2 = (2 : Int32) from rfl] at ey2 eq2
  rw [show nI 5 = (5 : Int32) from rfl] at ey5
  rw [show nI 60 = (60 : Int32) from rfl] at ey60
  rw [show nI 99 = (99 : Int32) from rfl] at ey99
  rw [show nI 12 = (12 : Int32) from rfl] at ey12
  rw [show nI 100 = (100 : Int32) from rfl] at ew100
  rw [show nI 11 = (11 : Int32) from rfl] at ev11 eq11
  unfold fL_law_L92
  simp only [c00, h0]
  rw [if_neg (show ¬ (18 : Int32) ≤ nI i by rw [show (18 : Int32) = nI 18 from rfl, leN (by omega) (by omega)]; omega), show (2 + nI i : Int32) = nI (2 + i) from nI_add 2 i, show (20 + nI i : Int32) = nI (20 + i) from nI_add 20 i, ex, bd_s, es, bd_s, ef, bd_s, ep, bd_s]
  have hi21 : inb (nI (21 + f)) 33 = true := inbN (by omega) (by omega)
  have hi11 : inb (nI (11 + f)) 33 = true := inbN (by omega) (by omega)
  by_cases c4 : 4 ≤ sort
  · rw [if_pos (show (4 : Int32) ≤ nI sort by rw [leTurn hsort]; exact c4)]
    by_cases s4 : sort = 4
    · rw [if_pos (show nI sort = 4 by rw [s4]; rfl), ey8, bd_s, a21N, gd_t hi21, clN (show 21 + f < 2 ^ 31 by omega)]
      by_cases hneg : o f < 0
      · rw [if_pos (show d (21 + f) < 0 by rw [v3]; exact hneg)]
        exact snapTurnNo u5 hn1 hR hf hy8 (Or.inl (neg_m1 hGo hf10 hneg)) ..
      · obtain ⟨c, hc, ho⟩ := toNI (n := n) hGo hf10 hneg
        rw [if_neg (show ¬ d (21 + f) < 0 by rw [v3]; exact hneg), a11N, gd_t hi11, clN (show 11 + f < 2 ^ 31 by omega), a1N]
        by_cases hle : l f ≤ nI (1 + y8)
        · rw [if_pos (show d (11 + f) ≤ nI (1 + y8) by rw [v2]; exact hle)]
          exact snapTurnNo u5 hn1 hR hf hy8 (Or.inr hle) ..
        · rw [if_neg (show ¬ d (11 + f) ≤ nI (1 + y8) by rw [v2]; exact hle)]
          exact snapTurnYes u5 hn1 hR hf hy8 hc ho hle ..
    · rw [if_neg (show ¬ nI sort = 4 by rw [show (4 : Int32) = nI 4 from rfl, eqTurn hsort (by omega)]; exact s4)]
      by_cases s5 : sort = 5
      · rw [if_pos (show nI sort = 5 by rw [s5]; rfl), a21N, gd_t hi21, clN (show 21 + f < 2 ^ 31 by omega)]
        by_cases hneg : o f < 0
        · have ho := neg_m1 hGo hf10 hneg
          rw [if_neg (show ¬ (if 0 ≤ d (21 + f) then 0 else 1 : Int32) = 0 by rw [v3, ho]; decide)]
          exact fetchTurn u5 hn1 hR hf hp ho ..
        · obtain ⟨c, hc, ho⟩ := toNI (n := n) hGo hf10 hneg
          rw [if_pos (show (if 0 ≤ d (21 + f) then 0 else 1 : Int32) = 0 by rw [v3, ho, if_pos (show (0 : Int32) ≤ nI c from nI_pos' (by omega))])]
          exact bankTurn u5 hn1 hR hf hp hc ho ..
      · rw [if_neg (show ¬ nI sort = 5 by rw [show (5 : Int32) = nI 5 from rfl, eqTurn hsort (by omega)]; exact s5)]
        by_cases s6 : sort = 6
        · rw [if_pos (show nI sort = 6 by rw [s6]; rfl), ey2, bd_s]
          have eb : (nI y2 = 0) = (y2 = 0) := eqN (b := 0) (by omega) (by omega)
          by_cases b0 : y2 = 0
          · obtain ⟨lost, L, D, g1, g2, hR', hS⟩ := R29_month hR
            have hm : fX10_month 0 (nI n) bh bm k l o 1 = some (lost, bm + lost, L) := by
              unfold fX10_month
              rw [if_neg (show ¬ (1 : Int32) = 0 by decide), g1, bd_s]
            rw [if_pos (eb.mpr b0), hm, bd_s, if_neg (show ¬ (1 : Int32) = 0 by decide), g2, bd_s]
            exact juneTurn u5 hn1 hR' hS.symm x ..
          · have hm : fX10_month 0 (nI n) bh bm k l o 0 = some (0, bm, l) := rfl
            rw [if_neg (fun z => b0 (eb.mp z)), hm, bd_s, if_pos rfl]
            exact juneTurn u5 hn1 hR rfl x ..
        · rw [if_neg (show ¬ nI sort = 6 by rw [show (6 : Int32) = nI 6 from rfl, eqTurn hsort (by omega)]; exact s6)]
          by_cases s7 : sort = 7
          · have hb : ((nI p + 1) + nI y5) - ((nI p + 1) + nI y5) / 6 * 6 = nI ((p + 1 + y5) % 6) := by
              rw [nI1, nI_add]
              exact pk_rem (a := p + 1 + y5) (d := 6) (by omega) (by omega) (by omega)
            have hb6 : (p + 1 + y5) % 6 < 6 := Nat.mod_lt _ (by omega)
            have hbp : p ≠ (p + 1 + y5) % 6 := by omega
            rw [if_pos (show nI sort = 7 by rw [s7]; rfl), ey5, bd_s, ew100, bd_s, hb, m6N]
            generalize (p + 1 + y5) % 6 = b at hb6 hbp
            obtain ⟨e1, -⟩ := hR.2.2.2.2 (6 * p + b) (by omega)
            rw [debtX hp hb6 hbp hw100 0 (nI n) bh bm, bd_s, gd_t (inbN (show 6 * p + b < 36 by omega) (by omega)), clN (show 6 * p + b < 2 ^ 31 by omega)]
            dsimp only
            rw [if_pos e1.symm]
            refine J819N u5 _ rfl ⟨n, hn1, rfl, ?_, rfl⟩ ..
            obtain ⟨b1, b2, b3, b4, b5⟩ := hR
            exact ⟨b1, b2, b3, b4, RD_put b5 _ (by omega)⟩
          · rw [if_neg (show ¬ nI sort = 7 by rw [show (7 : Int32) = nI 7 from rfl, eqTurn hsort (by omega)]; exact s7)]
            by_cases s8 : sort = 8
            · rw [if_pos (show nI sort = 8 by rw [s8]; rfl), eq2, bd_s]
              have eb : (nI q2 = 0) = (q2 = 0) := eqN (b := 0) (by omega) (by omega)
              have hrest : ∀ y : Nat, y < 99 → ∃ s' : LSt, ((fL_least 33 0 (nI n) bh bm k l o pp lw lb d (nI p) (1 + nI y)).bind (fun u230 => if u230.1 = 0 then (some (Sum.inr (Sum.inr (Sum.inr (Sum.inr (Sum.inr (Sum.inr (Sum.inr (Sum.inr (Sum.inl (nI n, bh, bm, k, l, o, t, dd, ts, tb, tm, tk, tl, to, tt, td, u230.2.1, u230.2.2.1, u230.2.2.2, ca, ck, ct, cb, sd, d, r, w))))))))))) else ((fL_at (x >>> (14 &&& 31)) 8).bind (fun u233 => (fL_at (x >>> (18 &&& 31)) 11).bind (fun u235 => (fL_held 33 0 (nI n) bh bm k l o ca ck ct cb d (nI f) u233 u235).bind (fun u237 => if u237.1 = 0 then (some (Sum.inr (Sum.inr (Sum.inr (Sum.inr (Sum.inr (Sum.inr (Sum.inr (Sum.inr (Sum.inl (nI n, bh, bm, k, l, o, t, dd, ts, tb, tm, tk, tl, to, tt, td, u230.2.1, u230.2.2.1, u230.2.2.2, u237.2.1, u237.2.2.1, u237.2.2.2.1, u237.2.2.2.2, sd, d, r, w))))))))))) else (fL_law_J819 u5 (sumL l n + bh + bm, nI i, nI n, bh, bm, k, l, o, t, dd, ts, tb, tm, tk, tl, to, tt, td, pp, lw, lb, ca, ck, ct, cb, sd, d, r, w) (sumL l n + bh + bm, nI n, bh, bm, k, l, o, t, dd, ts, tb, tm, tk, tl, to, tt, td, u230.2.1, u230.2.2.1, u230.2.2.2, u237.2.1, u237.2.2.1, u237.2.2.2.1, u237.2.2.2.2, sd, d, r, w)))))))) = some (Sum.inl s') ∧ GOOD (i + 1) s' := by
                intro y hy
                obtain ⟨qa, ha⟩ := leastN hR.1 hp (sum := 1 + y) (by omega) (by omega) 0 bh bm pp lw lb
                obtain ⟨qb, hb⟩ := heldN hR.1 hf (show w8 < 10 by omega) (show q11 ≤ 10 by omega) 0 bh bm ca ck ct cb
                rw [a1N, ha, bd_s]
                dsimp only
                rw [if_neg (show ¬ (1 : Int32) = 0 by decide), ew8, bd_s, eq11, bd_s, hb, bd_s]
                dsimp only
                rw [if_neg (show ¬ (1 : Int32) = 0 by decide)]
                exact J819N u5 _ rfl ⟨n, hn1, rfl, hR, rfl⟩ ..
              by_cases b0 : q2 = 0
              · rw [if_pos (eb.mpr b0), ey99, bd_s]
                exact hrest y99 hy99
              · rw [if_neg (fun z => b0 (eb.mp z)), ey12, bd_s]
                exact hrest y12 (by omega)
            · rw [if_neg (show ¬ nI sort = 8 by rw [show (8 : Int32) = nI 8 from rfl, eqTurn hsort (by omega)]; exact s8), ey60, bd_s, ev11, bd_s, ex2, bd_s, es31, a1N]
              obtain ⟨q, hq⟩ := monthsN hn1 hR.1 (N := 1 + y60) (T := v11) (sd := s31) (by omega) (by omega) (by omega) hs31 0 bh bm t dd ts tb tm tk tl to tt td sd
              rw [hq, bd_s]
              dsimp only
              rw [if_neg (show ¬ (1 : Int32) = 0 by decide)]
              exact J819N u5 _ rfl ⟨n, hn1, rfl, hR, rfl⟩ ..
  · rw [if_neg (show ¬ (4 : Int32) ≤ nI sort by rw [leTurn hsort]; exact c4), a21N, gd_t hi21, clN (show 21 + f < 2 ^ 31 by omega)]
    by_cases hneg : o f < 0
    · rw [if_pos (show d (21 + f) < 0 by rw [v3]; exact hneg)]
      exact payTurnNo u5 hn1 hR hf hp (Or.inl (neg_m1 hGo hf10 hneg)) ..
    · obtain ⟨c, hc, ho⟩ := toNI (n := n) hGo hf10 hneg
      rw [if_neg (show ¬ d (21 + f) < 0 by rw [v3]; exact hneg)]
      by_cases hs : o f = nI p
      · rw [if_pos (show d (21 + f) = nI p by rw [v3]; exact hs)]
        exact payTurnNo u5 hn1 hR hf hp (Or.inr hs) ..
      · rw [if_neg (show ¬ d (21 + f) = nI p by rw [v3]; exact hs)]
        exact payTurnYes u5 hn1 hR hf hc ho hp (fun z => hs (by rw [ho, z])) ..
