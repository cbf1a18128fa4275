/-! fewest: a step of the class's second row, then both -/
theorem eStep {d g e : Nat → Int32} {b : Nat → Int32} (hb : ∀ S, S < 64 → b S = balN d S) (hg : gOK d g 64) {S : Nat} (he : eOK d g e S) (hS0 : 0 < S) (hS : S < 64) : ∃ v, fX3_mostWithin b e (nI S) = some v ∧ ∃ c, c ≤ S ∧ v = nI c ∧ (∃ T, S &&& T = T ∧ balN d T = 0 ∧ g T = nI c) ∧ ∀ T, S &&& T = T → balN d T = 0 → ∃ c', c' ≤ c ∧ g T = nI c' := by
  unfold fX3_mostWithin
  obtain ⟨m0, h1, m, h2, h3, h4⟩ := one_for (st := fX3_mostWithin_L4 e (nI S)) (fun p z => z.2 = nI p ∧ ∃ m, z.1 = nI m ∧ (m = 0 ∨ ∃ q, q < p ∧ S.testBit q = true ∧ e (S ^^^ 2 ^ q) = nI m) ∧ (m < S ∧ ∀ q, q < p → S.testBit q = true → ∃ c, c ≤ m ∧ e (S ^^^ 2 ^ q) = nI c))
    (fun r => ∃ m, r = nI m ∧ (m = 0 ∨ ∃ q, q < 6 ∧ S.testBit q = true ∧ e (S ^^^ 2 ^ q) = nI m) ∧ (m < S ∧ ∀ q, q < 6 → S.testBit q = true → ∃ c, c ≤ m ∧ e (S ^^^ 2 ^ q) = nI c)) 6 (by omega)
    (fun p z hp hI => by
      obtain ⟨x, y⟩ := z
      obtain ⟨w1, m, w2, w3, w4, w5⟩ := hI
      dsimp only at w1 w2
      subst w1 w2
      unfold fX3_mostWithin_L4 fX3_mostWithin_J33
      dsimp only
      rw [if_neg (show ¬ (6 : Int32) ≤ nI p by rw [show (6 : Int32) = nI 6 from rfl, leN (by omega) (by omega)]; omega), bitN ⟨S, by omega⟩ ⟨p, by omega⟩]
      dsimp only
      by_cases c : S.testBit p = true
      · rw [if_pos c, if_neg (show ¬ (1 : Int32) = 0 by decide)]
        obtain ⟨t1, t2⟩ := takeInt ⟨S, hS⟩ ⟨p, hp⟩ c
        dsimp only at t1 t2
        rw [t1, gd_t (inbN (show S ^^^ 2 ^ p < 64 by omega) (by omega)), clN (show S ^^^ 2 ^ p < 2 ^ 31 by omega)]
        obtain ⟨k, k1, k2, -⟩ := he.2 (S ^^^ 2 ^ p) t2
        rw [k2]
        have hlt : (nI m < nI k) = (m < k) := ltN (by omega) (by omega)
        by_cases cc : m < k
        · rw [if_pos (hlt.mpr cc)]
          refine ⟨_, rfl, nI1 p, k, rfl, Or.inr ⟨p, by omega, c, k2⟩, by omega, fun q hq hqt => ?_⟩
          by_cases eq : q = p
          · subst eq; exact ⟨k, by omega, k2⟩
          · obtain ⟨c', a1, a2⟩ := w5 q (by omega) hqt
            exact ⟨c', by omega, a2⟩
        · rw [if_neg (fun w => cc (hlt.mp w))]
          refine ⟨_, rfl, nI1 p, m, rfl, ?_, w4, fun q hq hqt => ?_⟩
          · rcases w3 with w | ⟨q, a1, a2, a3⟩
            · exact Or.inl w
            · exact Or.inr ⟨q, by omega, a2, a3⟩
          · by_cases eq : q = p
            · subst eq; exact ⟨k, by omega, k2⟩
            · obtain ⟨c', a1, a2⟩ := w5 q (by omega) hqt
              exact ⟨c', by omega, a2⟩
      · rw [if_neg c, if_pos rfl]
        refine ⟨_, rfl, nI1 p, m, rfl, ?_, w4, fun q hq hqt => ?_⟩
        · rcases w3 with w | ⟨q, a1, a2, a3⟩
          · exact Or.inl w
          · exact Or.inr ⟨q, by omega, a2, a3⟩
        · by_cases eq : q = p
          · subst eq; exact absurd hqt c
          · obtain ⟨c', a1, a2⟩ := w5 q (by omega) hqt
            exact ⟨c', by omega, a2⟩)
    (fun z hI => by
      obtain ⟨x, y⟩ := z
      obtain ⟨w1, m, w2, w3, w4⟩ := hI
      dsimp only at w1 w2
      subst w1 w2
      unfold fX3_mostWithin_L4
      dsimp only
      rw [if_pos (by decide)]
      exact ⟨_, rfl, m, rfl, w3, w4⟩) (0, 0) ⟨rfl, 0, rfl, Or.inl rfl, hS0, fun q hq => by omega⟩
  subst h2
  rw [h1, bd_s]
  unfold fX3_mostWithin_X4_39
  rw [gd_t (inbN (show S < 64 by omega) (by omega)), clN (show S < 2 ^ 31 by omega), hb S hS]
  -- an even part of what is left by one
  have hlow : ∃ T, S &&& T = T ∧ T ≠ S ∧ balN d T = 0 ∧ g T = nI m := by
    rcases h3 with rfl | ⟨q, a1, a2, a3⟩
    · exact ⟨0, Nat.and_zero S, by omega, bal_zero d, hg.1⟩
    · obtain ⟨t1, t2⟩ := takeInt ⟨S, hS⟩ ⟨q, a1⟩ a2
      have t3 := takeSub ⟨S, hS⟩ ⟨q, a1⟩ a2
      dsimp only at t2 t3
      obtain ⟨k, k1, k2, ⟨T, b1, b2, b3⟩, -⟩ := he.2 (S ^^^ 2 ^ q) t2
      have hTl := and_le b1
      have e1 : nI k = nI m := k2.symm.trans a3
      exact ⟨T, subTrans t3 b1, by omega, b2, b3.trans e1⟩
  have hup : ∀ T, S &&& T = T → T ≠ S → balN d T = 0 → ∃ c', c' ≤ m ∧ g T = nI c' := by
    intro T a1 a2 a3
    have hTl := and_le a1
    obtain ⟨p, b1, b2, b3⟩ := subOut ⟨S, hS⟩ ⟨T, by omega⟩ a1 (fun w => a2 (by injection w with w; exact w.symm))
    dsimp only at b1 b2 b3
    obtain ⟨c, c1, c2⟩ := h4.2 p.val p.isLt b1
    obtain ⟨k, k1, k2, -, k3⟩ := he.2 _ b3
    obtain ⟨c', d1, d2⟩ := k3 T b2 a3
    have e1 : (nI k = nI c) = (k = c) := eqN (by omega) (by omega)
    have e2 : k = c := e1.mp (k2.symm.trans c2)
    exact ⟨c', by omega, d2⟩
  by_cases hz : balN d S = 0
  · rw [if_pos hz, nI1]
    obtain ⟨a1, -⟩ := hg.2 S hS0 hS
    obtain ⟨c, c1, c2, c3, ⟨U, b1, b2, b3, b4, b5, b6⟩, c5⟩ := a1 hz
    have hc1 : c - 1 ≤ m := by
      obtain ⟨r1, r2, r3, r4, r5⟩ := restSub ⟨S, hS⟩ ⟨U, b3⟩ b1
      dsimp only at r1 r2 r3 r4 r5
      obtain ⟨c', d1, d2⟩ := hup (S ^^^ U) r1 (fun w => by have := r5 w; omega) b5
      have e1 : (nI (c - 1) = nI c') = (c - 1 = c') := eqN (by omega) (by omega)
      have := e1.mp (b6.symm.trans d2)
      omega
    have hc2 : m + 1 ≤ c := by
      obtain ⟨T, t1, t2, t3, t4⟩ := hlow
      have hTl := and_le t1
      obtain ⟨r1, r2, r3, r4, r5⟩ := restSub ⟨S, hS⟩ ⟨T, by omega⟩ t1
      dsimp only at r1 r2 r3 r4 r5
      have hbr : balN d (S ^^^ T) = 0 := by
        have := bal_add d hS (show T < 64 by omega) t1
        rw [hz, t3, Int32.zero_add] at this
        exact this.symm
      obtain ⟨c', d1, d2⟩ := c5 (S ^^^ T) r1 (by
        rcases Nat.eq_zero_or_pos (S ^^^ T) with w | w
        · have := r4 w
          injection this with this
          exact absurd this.symm t2
        · exact w) r3 hbr
      rw [r2] at d2
      have e1 : (nI m = nI c') = (m = c') := eqN (by omega) (by omega)
      have := e1.mp (t4.symm.trans d2)
      omega
    have hc : c = m + 1 := by omega
    subst hc
    refine ⟨_, rfl, m + 1, c2, rfl, ⟨S, Nat.and_self S, hz, c3⟩, fun T d1 d2 => ?_⟩
    by_cases e : T = S
    · subst e; exact ⟨m + 1, Nat.le_refl _, c3⟩
    · obtain ⟨c', f1, f2⟩ := hup T d1 e d2
      exact ⟨c', by omega, f2⟩
  · rw [if_neg hz]
    obtain ⟨T, t1, t2, t3, t4⟩ := hlow
    refine ⟨_, rfl, m, by omega, rfl, ⟨T, t1, t3, t4⟩, fun T d1 d2 => ?_⟩
    exact hup T d1 (fun w => hz (by rw [← w]; exact d2)) d2
theorem evenRow {d g : Nat → Int32} {b : Nat → Int32} (hb : ∀ S, S < 64 → b S = balN d S) (hg : gOK d g 64) (e0 : Nat → Int32) (h0 : e0 0 = 0) : ∃ e, iter (fX3_most_L62 b) FU (1, e0) = some e ∧ eOK d g e 64 := by
  obtain ⟨e, h1, h2⟩ := one_for (st := fX3_most_L62 b) (fun j z => z.1 = nI (j + 1) ∧ eOK d g z.2 (j + 1)) (fun e => eOK d g e 64) 63 (by omega)
    (fun j z hj hI => by
      obtain ⟨x, e⟩ := z
      obtain ⟨w1, w2⟩ := hI
      dsimp only at w1 w2
      subst w1
      obtain ⟨v, a1, c, a2, a3, a4⟩ := eStep hb hg w2 (by omega) (show j + 1 < 64 by omega)
      unfold fX3_most_L62
      dsimp only
      rw [if_neg (show ¬ (64 : Int32) ≤ nI (j + 1) by rw [show (64 : Int32) = nI 64 from rfl, leN (by omega) (by omega)]; omega), a1, bd_s, gd_t (inbN (show j + 1 < 64 by omega) (by omega)), clN (show j + 1 < 2 ^ 31 by omega), nI1]
      refine ⟨_, rfl, rfl, ?_, fun S hS => ?_⟩
      · show upd e (j + 1) v 0 = 0
        rw [upd_eq, if_neg (by omega)]
        exact w2.1
      · show ∃ c, c ≤ S ∧ upd e (j + 1) v S = nI c ∧ _
        rw [upd_eq]
        by_cases k : S = j + 1
        · subst k
          rw [if_pos rfl]
          exact ⟨c, a2, a3, a4⟩
        · rw [if_neg k]
          exact w2.2 S (by omega))
    (fun z hI => by
      obtain ⟨x, e⟩ := z
      obtain ⟨w1, w2⟩ := hI
      dsimp only at w1 w2
      subst w1
      unfold fX3_most_L62
      dsimp only
      rw [if_pos (by decide)]
      exact ⟨_, rfl, w2⟩) (1, e0) ⟨rfl, h0, fun S hS => by
        have : S = 0 := by omega
        subst this
        refine ⟨0, by omega, h0, ⟨0, by decide, bal_zero d, hg.1⟩, fun T a1 a2 => ?_⟩
        have := and_le a1
        have : T = 0 := by omega
        subst this
        exact ⟨0, by omega, hg.1⟩⟩
  exact ⟨e, h1, h2⟩
theorem most_same {d debts : Nat → Int32} (hD : RD d debts) (gb ge : Nat → Int32) (hgb : gb 0 = 0) (hge : ge 0 = 0) (pm rm td n bh bm rn sn km kb kc : Int32) (hh : Int64) (G0 : Nat → Int32) : ∃ v b e g, fX3_most gb ge d = some (v, b, e) ∧ b 0 = 0 ∧ e 0 = 0 ∧ fX11_fewestOf pm rm td n bh bm rn sn km kb kc hh debts G0 = some (6 - v, g) := by
  obtain ⟨g, g1, g2⟩ := fewestM hD pm rm td n bh bm rn sn km kb kc hh G0
  obtain ⟨b, b1, b2⟩ := balRow d gb hgb
  obtain ⟨e, e1, e2⟩ := evenRow b2 g1 ge hge
  unfold fX3_most
  rw [b1, bd_s]
  unfold fX3_most_X2_60
  rw [e1, bd_s]
  unfold fX3_most_X62_85
  refine ⟨_, b, e, g, rfl, by rw [b2 0 (by omega)]; exact bal_zero d, e2.1, ?_⟩
  rw [g2, show (63 : Int32).toNatClampNeg = 63 from by decide]
  have hsame : g 63 = e 63 := by
    obtain ⟨c, c1, c2, ⟨T, t1, t2, t3⟩, c4⟩ := e2.2 63 (by omega)
    obtain ⟨c', d1, d2⟩ := c4 63 (by decide) (bal_all d)
    have hTl := and_le t1
    rw [c2, d2]
    have hcc : c ≤ c' := by
      by_cases k : T = 63
      · subst k
        have e3 : (nI c = nI c') = (c = c') := eqN (by omega) (by omega)
        have := e3.mp (t3.symm.trans d2)
        omega
      · obtain ⟨r1, r2, r3, r4, r5⟩ := restSub ⟨63, by omega⟩ ⟨T, by omega⟩ t1
        dsimp only at r1 r2 r3 r4 r5
        have hbr : balN d (63 ^^^ T) = 0 := by
          have := bal_add d (show 63 < 64 by omega) (show T < 64 by omega) t1
          rw [bal_all, t2, Int32.zero_add] at this
          exact this.symm
        obtain ⟨k1, k2, k4, k3, -, k5⟩ := (g1.2 63 (by omega) (by omega)).1 (bal_all d)
        obtain ⟨c'', f1, f2⟩ := k5 (63 ^^^ T) r1 (by
          rcases Nat.eq_zero_or_pos (63 ^^^ T) with w | w
          · have := r4 w
            injection this with this
            exact absurd this.symm k
          · exact w) r3 hbr
        rw [r2] at f2
        have e3 : (nI c = nI c'') = (c = c'') := eqN (by omega) (by omega)
        have e4 := e3.mp (t3.symm.trans f2)
        have e5 : (nI k1 = nI c') = (k1 = c') := eqN (by omega) (by omega)
        have e6 := e5.mp (k3.symm.trans d2)
        omega
    have : c' = c := by omega
    rw [this]
  rw [hsame]
theorem q_fewest {d debts : Nat → Int32} (hD : RD d debts) (kp sz bh bm : Int32) (gb ge : Nat → Int32) (hgb : gb 0 = 0) (hge : ge 0 = 0) (pm rm td n mh mm rn sn km kb kc : Int32) (hh : Int64) (G0 : Nat → Int32) : ∃ zx, fX10_fewest kp sz bh bm d gb ge = some zx ∧ ∃ zm, fX11_fewest pm rm td n mh mm rn sn km kb kc hh debts G0 = some zm ∧ zx.1 = zm.1 ∧ zx.2.1 0 = 0 ∧ zx.2.2 0 = 0 := by
  obtain ⟨v, b, e, g, h1, h2, h3, h4⟩ := most_same hD gb ge hgb hge pm rm td n mh mm rn sn km kb kc hh G0
  unfold fX10_fewest fX11_fewest
  rw [h1, h4, bd_s, bd_s]
  exact ⟨_, rfl, _, rfl, rfl, h2, h3⟩
