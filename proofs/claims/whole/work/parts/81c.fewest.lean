/-! fewest: even groups of a set; the greatest number of even parts (g) against the greatest chain (e) -/
def balN (d : Nat → Int32) (S : Nat) : Int32 := msN d S 36
theorem bal_add (d : Nat → Int32) {S T : Nat} (hS : S < 64) (hT : T < 64) (h : S &&& T = T) : balN d S = balN d T + balN d (S ^^^ T) := by
  have hx : ∀ p : Nat, p < 6 → xN S p = xN T p + xN (S ^^^ T) p := by
    intro p hp
    obtain ⟨h1, h2⟩ := subBits ⟨S, hS⟩ ⟨T, hT⟩ h ⟨p, hp⟩
    dsimp only at h1 h2
    unfold xN
    rw [h1]
    cases hb : T.testBit p with
    | false =>
      rw [Bool.false_or, if_neg Bool.false_ne_true, Int32.zero_add]
    | true =>
      rw [hb, Bool.true_and] at h2
      rw [h2]
      rfl
  unfold balN
  rw [bal_same, bal_same, bal_same, hx 0 (by omega), hx 1 (by omega), hx 2 (by omega), hx 3 (by omega), hx 4 (by omega), hx 5 (by omega)]
  grind
/-- what the model's row holds for the sets below B: -1, or the greatest number of even parts -/
def gOK (d : Nat → Int32) (g : Nat → Int32) (B : Nat) : Prop := g 0 = 0 ∧ ∀ S, 0 < S → S < B → (balN d S = 0 → ∃ c, 0 < c ∧ c ≤ S ∧ g S = nI c ∧ (∃ U, S &&& U = U ∧ 0 < U ∧ U < 64 ∧ balN d U = 0 ∧ balN d (S ^^^ U) = 0 ∧ g (S ^^^ U) = nI (c - 1)) ∧ ∀ U, S &&& U = U → 0 < U → U < 64 → balN d U = 0 → ∃ c', c' < c ∧ g (S ^^^ U) = nI c') ∧ (¬ balN d S = 0 → g S = -1)
