/-! fewest: the model's row -/
theorem bal_zero (d : Nat → Int32) : balN d 0 = 0 := by
  unfold balN
  rw [bal_same]
  have hx : ∀ p, xN 0 p = 0 := fun p => by unfold xN; rw [Nat.zero_testBit, if_neg Bool.false_ne_true]
  rw [hx, hx, hx, hx, hx, hx]
  grind
theorem bal_all (d : Nat → Int32) : balN d 63 = 0 := by
  unfold balN
  rw [bal_same, show xN 63 0 = 1 from by decide, show xN 63 1 = 1 from by decide, show xN 63 2 = 1 from by decide, show xN 63 3 = 1 from by decide, show xN 63 4 = 1 from by decide, show xN 63 5 = 1 from by decide]
  simp only [bsN, Nat.reduceMul, Nat.reduceAdd]
  grind
/-- after the parts above u of the set S were tried: the best so far -/
def gMid (d : Nat → Int32) (g : Nat → Int32) (S u : Nat) (v : Int32) : Prop :=
  (v = -1 ∧ ∀ U, S &&& U = U → u < U → U < 64 → balN d U = 0 → ¬ balN d (S ^^^ U) = 0) ∨ ∃ c, 0 < c ∧ c ≤ S ∧ v = nI c ∧ (∃ U, S &&& U = U ∧ 0 < U ∧ U < 64 ∧ balN d U = 0 ∧ balN d (S ^^^ U) = 0 ∧ g (S ^^^ U) = nI (c - 1)) ∧ ∀ U, S &&& U = U → u < U → U < 64 → balN d U = 0 → balN d (S ^^^ U) = 0 → ∃ c', c' < c ∧ g (S ^^^ U) = nI c'
theorem and_le {S U : Nat} (h : S &&& U = U) : U ≤ S := by
  have := Nat.and_le_left (n := S) (m := U)
  rw [h] at this
  exact this
theorem gStep {d debts : Nat → Int32} (hD : RD d debts) {g g' : Nat → Int32} {S u : Nat} {v : Int32} (hg : gOK d g S) (hS0 : 0 < S) (hS : S < 64) (hu : S &&& u = u) (hu0 : 0 < u) (hv : gMid d g S u v) (hg1 : ∀ j, j < S → g' j = g j) (hg2 : g' S = v) (pm rm td n bh bm rn sn km kb kc : Int32) (hh : Int64) (z1 : Int32 × (Nat → Int32)) (hz : z1.1 = nI S) : ∃ (g'' : Nat → Int32) (v' : Int32), fX11_fewestOf_L24 pm rm td n bh bm rn sn km kb kc hh debts z1 (nI u, g') = some (Sum.inl (nI ((u - 1) &&& S), g'')) ∧ (∀ j, j < S → g'' j = g j) ∧ g'' S = v' ∧ gMid d g S ((u - 1) &&& S) v' := by
  have huS := and_le hu
  obtain ⟨i1, i2, i3, i4, i5⟩ := subInt ⟨S, hS⟩ ⟨u, by omega⟩ hu hu0
  dsimp only at i1 i2 i3 i4 i5
  have hnew : ∀ U, S &&& U = U → ((u - 1) &&& S) < U → U < 64 → U = u ∨ u < U := by
    intro U h1 h2 h3
    by_cases e : U < u
    · have := subStep ⟨S, hS⟩ ⟨u, by omega⟩ hu hu0 ⟨U, h3⟩ h1 e
      dsimp only at this
      omega
    · omega
  -- where u counts for nothing
  have hvac : (balN d u = 0 → ¬ balN d (S ^^^ u) = 0) → gMid d g S ((u - 1) &&& S) v := by
    intro hno
    rcases hv with ⟨h1, h2⟩ | ⟨c, h1, h2, h3, h4, h5⟩
    · refine Or.inl ⟨h1, fun U a1 a2 a3 a4 => ?_⟩
      rcases hnew U a1 a2 a3 with e | e
      · subst e; exact hno a4
      · exact h2 U a1 e a3 a4
    · refine Or.inr ⟨c, h1, h2, h3, h4, fun U a1 a2 a3 a4 a5 => ?_⟩
      rcases hnew U a1 a2 a3 with e | e
      · subst e; exact absurd a5 (hno a4)
      · exact h5 U a1 e a3 a4 a5
  have hrest : (¬ balN d (S ^^^ u) = 0 ∧ g (S ^^^ u) = -1) ∨ (balN d (S ^^^ u) = 0 ∧ ∃ c, c ≤ S ^^^ u ∧ g (S ^^^ u) = nI c) := by
    by_cases e : S ^^^ u = 0
    · rw [e]
      exact Or.inr ⟨bal_zero d, 0, Nat.le_refl _, hg.1⟩
    · obtain ⟨a1, a2⟩ := hg.2 (S ^^^ u) (by omega) i3
      by_cases hb : balN d (S ^^^ u) = 0
      · obtain ⟨c, -, c2, c3, -⟩ := a1 hb
        exact Or.inr ⟨hb, c, c2, c3⟩
      · exact Or.inl ⟨hb, a2 hb⟩
  have hJ : ∀ a : Nat → Int32, fX11_fewestOf_J73 z1 (nI u, g') a = some (Sum.inl (nI ((u - 1) &&& S), a)) := by
    intro a
    unfold fX11_fewestOf_J73
    dsimp only
    rw [hz, i1]
  unfold fX11_fewestOf_L24
  simp only [hJ]
  rw [if_neg (nI_nle hu0 (by omega)), hz, i2, gd_t (inbN (show S ^^^ u < 64 by omega) (by omega)), clN (show S ^^^ u < 2 ^ 31 by omega), clN (show S < 2 ^ 31 by omega), hg1 _ i3, hg2]
  rcases hrest with ⟨r1, r2⟩ | ⟨r1, c0, r2, r3⟩
  · rw [if_pos r2]
    exact ⟨g', v, rfl, hg1, hg2, hvac (fun _ => r1)⟩
  rw [r3, if_neg (show ¬ nI c0 = -1 by rw [m1N (by omega)]; exact id), balM hD (show u < 64 by omega), bd_s, nI1]
  by_cases hb : balN d u = 0
  · rw [if_pos (show msN d u 36 = 0 from hb)]
    have htake : (∀ U, S &&& U = U → u < U → U < 64 → balN d U = 0 → balN d (S ^^^ U) = 0 → ∃ c', c' < c0 + 1 ∧ g (S ^^^ U) = nI c') → gMid d g S ((u - 1) &&& S) (nI (c0 + 1)) := by
      intro hall
      refine Or.inr ⟨c0 + 1, by omega, by omega, rfl, ⟨u, hu, hu0, by omega, hb, r1, r3⟩, fun U a1 a2 a3 a4 a5 => ?_⟩
      rcases hnew U a1 a2 a3 with e | e
      · subst e; exact ⟨c0, by omega, r3⟩
      · exact hall U a1 e a3 a4 a5
    have hupd : ∀ j, j < S → upd g' S (nI (c0 + 1)) j = g j := fun j hj => by rw [upd_eq, if_neg (by omega)]; exact hg1 j hj
    have hupd2 : upd g' S (nI (c0 + 1)) S = nI (c0 + 1) := by rw [upd_eq, if_pos rfl]
    rcases hv with ⟨rfl, h2⟩ | ⟨c, h1, h2, rfl, h4, h5⟩
    · rw [if_neg (show ¬ nI (c0 + 1) ≤ -1 by
        rw [Int32.le_iff_toInt_le, nI_toInt (by omega)]
        have : (-1 : Int32).toInt = -1 := by decide
        omega)]
      exact ⟨_, _, rfl, hupd, hupd2, htake (fun U a1 a2 a3 a4 a5 => absurd a5 (h2 U a1 a2 a3 a4))⟩
    · have e1 : (nI (c0 + 1) ≤ nI c) = (c0 + 1 ≤ c) := leN (by omega) (by omega)
      by_cases hc : c0 + 1 ≤ c
      · rw [if_pos (e1.mpr hc)]
        refine ⟨g', _, rfl, hg1, hg2, Or.inr ⟨c, h1, h2, rfl, h4, fun U a1 a2 a3 a4 a5 => ?_⟩⟩
        rcases hnew U a1 a2 a3 with e | e
        · subst e; exact ⟨c0, by omega, r3⟩
        · exact h5 U a1 e a3 a4 a5
      · rw [if_neg (fun w => hc (e1.mp w))]
        refine ⟨_, _, rfl, hupd, hupd2, htake (fun U a1 a2 a3 a4 a5 => ?_)⟩
        obtain ⟨c', b1, b2⟩ := h5 U a1 a2 a3 a4 a5
        exact ⟨c', by omega, b2⟩
  · rw [if_neg (show ¬ msN d u 36 = 0 from hb)]
    exact ⟨g', v, rfl, hg1, hg2, hvac (fun w => absurd w hb)⟩
