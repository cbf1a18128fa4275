/-! fewest: the model's row whole -/
theorem gInner {d debts : Nat → Int32} (hD : RD d debts) {g : Nat → Int32} {S : Nat} (hg : gOK d g S) (hS0 : 0 < S) (hS : S < 64) (pm rm td n bh bm rn sn km kb kc : Int32) (hh : Int64) (z1 : Int32 × (Nat → Int32)) (hz : z1.1 = nI S) : ∃ g', iter (fX11_fewestOf_L24 pm rm td n bh bm rn sn km kb kc hh debts z1) FU (nI S, upd g S (-1)) = some g' ∧ gOK d g' (S + 1) := by
  obtain ⟨e, h1, h2, h3⟩ := iter_inv (st := fX11_fewestOf_L24 pm rm td n bh bm rn sn km kb kc hh debts z1)
    (fun z => ∃ (u : Nat) (v : Int32), S &&& u = u ∧ z.1 = nI u ∧ (∀ j, j < S → z.2 j = g j) ∧ z.2 S = v ∧ gMid d g S u v)
    (fun z => z.1.toNatClampNeg)
    (fun e => (∀ j, j < S → e j = g j) ∧ gMid d g S 0 (e S))
    (fun z hI => by
      obtain ⟨x, g'⟩ := z
      obtain ⟨u, v, w1, w2, w3, w4, w5⟩ := hI
      dsimp only at w2 w3 w4
      subst w2
      have huS := and_le w1
      by_cases c : 0 < u
      · obtain ⟨g'', v', a1, a2, a3, a4⟩ := gStep hD hg hS0 hS w1 c w5 w3 w4 pm rm td n bh bm rn sn km kb kc hh z1 hz
        obtain ⟨i1, i2, i3, i4, i5⟩ := subInt ⟨S, hS⟩ ⟨u, by omega⟩ w1 c
        dsimp only at i4 i5
        exact Or.inl ⟨_, a1, ⟨_, v', i5, rfl, a2, a3, a4⟩, by show (nI ((u - 1) &&& S)).toNatClampNeg < (nI u).toNatClampNeg; rw [clN (by omega), clN (by omega)]; exact i4⟩
      · have e0 : u = 0 := by omega
        subst e0
        unfold fX11_fewestOf_L24
        dsimp only
        rw [if_pos (show nI 0 ≤ 0 by decide)]
        exact Or.inr ⟨_, rfl, w3, by rw [w4]; exact w5⟩)
    FU (nI S, upd g S (-1)) ⟨S, -1, Nat.and_self S, rfl, fun j hj => by show upd g S (-1) j = _; rw [upd_eq, if_neg (by omega)], by show upd g S (-1) S = _; rw [upd_eq, if_pos rfl], Or.inl ⟨rfl, fun U a1 a2 _ _ => by have := and_le a1; omega⟩⟩ (by show (nI S).toNatClampNeg < 100000; rw [clN (by omega)]; omega)
  refine ⟨e, h1, by rw [h2 0 hS0]; exact hg.1, fun T hT0 hT => ?_⟩
  have hlt : ∀ U, S &&& U = U → 0 < U → U < 64 → S ^^^ U < S := fun U a1 a2 a3 => (subInt ⟨S, hS⟩ ⟨U, a3⟩ a1 a2).2.2.1
  by_cases eT : T = S
  · subst eT
    refine ⟨fun hz0 => ?_, fun hz0 => ?_⟩
    · rcases h3 with ⟨a1, a2⟩ | ⟨c, a1, a2, a3, ⟨U, b1, b2, b3, b4, b5, b6⟩, a5⟩
      · exact absurd (by rw [Nat.xor_self]; exact bal_zero d) (a2 T (Nat.and_self T) hT0 hS hz0)
      · refine ⟨c, a1, a2, a3, ⟨U, b1, b2, b3, b4, b5, by rw [h2 _ (hlt U b1 b2 b3)]; exact b6⟩, fun U c1 c2 c3 c4 => ?_⟩
        have hadd := bal_add d hS c3 c1
        rw [hz0, c4, Int32.zero_add] at hadd
        rw [h2 _ (hlt U c1 c2 c3)]
        exact a5 U c1 c2 c3 c4 hadd.symm
    · rcases h3 with ⟨a1, a2⟩ | ⟨c, a1, a2, a3, ⟨U, b1, b2, b3, b4, b5, b6⟩, a5⟩
      · exact a1
      · exact absurd (by rw [bal_add d hS b3 b1, b4, b5]; rfl) hz0
  · have hTS : T < S := by omega
    obtain ⟨a1, a2⟩ := hg.2 T hT0 hTS
    have hltT : ∀ U, T &&& U = U → 0 < U → U < 64 → T ^^^ U < T := fun U b1 b2 b3 => (subInt ⟨T, by omega⟩ ⟨U, b3⟩ b1 b2).2.2.1
    refine ⟨fun hz0 => ?_, fun hz0 => by rw [h2 T hTS]; exact a2 hz0⟩
    obtain ⟨c, c1, c2, c3, ⟨U, b1, b2, b3, b4, b5, b6⟩, c5⟩ := a1 hz0
    refine ⟨c, c1, c2, by rw [h2 T hTS]; exact c3, ⟨U, b1, b2, b3, b4, b5, ?_⟩, fun U e1 e2 e3 e4 => ?_⟩
    · have := hltT U b1 b2 b3
      rw [h2 _ (by omega)]; exact b6
    · have := hltT U e1 e2 e3
      rw [h2 _ (by omega)]; exact c5 U e1 e2 e3 e4
theorem fewestM {d debts : Nat → Int32} (hD : RD d debts) (pm rm td n bh bm rn sn km kb kc : Int32) (hh : Int64) (G0 : Nat → Int32) : ∃ g, gOK d g 64 ∧ fX11_fewestOf pm rm td n bh bm rn sn km kb kc hh debts G0 = some (6 - g 63, g) := by
  unfold fX11_fewestOf
  obtain ⟨e, h1, h2⟩ := one_for (st := fX11_fewestOf_L9 pm rm td n bh bm rn sn km kb kc hh debts) (fun j z => z.1 = nI (j + 1) ∧ gOK d z.2 (j + 1)) (fun e => gOK d e 64) 63 (by omega)
    (fun j z hj hI => by
      obtain ⟨x, g⟩ := z
      obtain ⟨w1, w2⟩ := hI
      dsimp only at w1 w2
      subst w1
      unfold fX11_fewestOf_L9
      dsimp only
      obtain ⟨g', a1, a2⟩ := gInner hD w2 (by omega) (show j + 1 < 64 by omega) pm rm td n bh bm rn sn km kb kc hh (nI (j + 1), g) rfl
      rw [if_neg (show ¬ (64 : Int32) ≤ nI (j + 1) by rw [show (64 : Int32) = nI 64 from rfl, leN (by omega) (by omega)]; omega), gd_t (inbN (by omega) (by omega)), clN (by omega), a1, bd_s]
      unfold fX11_fewestOf_X24_82
      exact ⟨_, rfl, nI1 (j + 1), a2⟩)
    (fun z hI => by
      obtain ⟨x, g⟩ := z
      obtain ⟨w1, w2⟩ := hI
      dsimp only at w1 w2
      subst w1
      unfold fX11_fewestOf_L9
      dsimp only
      rw [if_pos (by decide)]
      exact ⟨_, rfl, w2⟩) (1, upd G0 (0 : Int32).toNatClampNeg 0) ⟨rfl, by show upd G0 (0 : Int32).toNatClampNeg 0 0 = 0; rw [upd_eq, if_pos (by decide)], fun S h1 h2 => by omega⟩
  rw [h1, bd_s]
  refine ⟨e, h2, ?_⟩
  unfold fX11_fewestOf_X9_88
  rw [show (63 : Int32).toNatClampNeg = 63 from by decide]
