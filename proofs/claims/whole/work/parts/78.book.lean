/-! the page read: digits and letters -/
def dgt (c : Nat → Int32) (i : Nat) : Bool := decide (¬ fX6_isDigit (c i) = 0)
def prN (c : Nat → Int32) : Nat → Nat
  | 0 => 0
  | i + 1 => prN c i + (if dgt c i = true then 1 else 0)
def pkN (c : Nat → Int32) : Nat → Int32
  | 0 => 0
  | i + 1 => if dgt c i = true then 0 else fX5_ofLetter (c i)
def FK (c : Nat → Int32) (i : Nat) (K L : Nat → Int32) : Prop := (∀ j : Nat, j < i → dgt c j = true → K (prN c j) = pkN c j ∧ L (prN c j) = c j - 48) ∧ (¬ pkN c i = 0 → K (prN c i) = pkN c i)
def tfl (c : Nat → Int32) (i : Nat) : Int32 := if pkN c i = 0 then 0 else 1
theorem prN_le (c : Nat → Int32) : ∀ i, prN c i ≤ i
  | 0 => Nat.le_refl _
  | i + 1 => by
    have := prN_le c i
    show prN c i + _ ≤ _
    split <;> omega
theorem prN_mono (c : Nat → Int32) (i : Nat) : ∀ k, prN c i ≤ prN c (i + k)
  | 0 => Nat.le_refl _
  | k + 1 => by
    have := prN_mono c i k
    show _ ≤ prN c (i + k) + _
    omega
theorem letter_dgt {x : Int32} (h : ¬ fX6_isDigit x = 0) : fX5_ofLetter x = -1 := by
  unfold fX5_ofLetter
  by_cases h1 : x = 98
  · subst h1; exact absurd (by decide) h
  rw [if_neg h1]
  by_cases h2 : x = 109
  · subst h2; exact absurd (by decide) h
  rw [if_neg h2]
  by_cases h3 : x = 112
  · subst h3; exact absurd (by decide) h
  rw [if_neg h3]
  by_cases h4 : x = 119
  · subst h4; exact absurd (by decide) h
  rw [if_neg h4]
theorem letter_rng (x : Int32) : fX5_ofLetter x = -1 ∨ ∃ q : Nat, 0 < q ∧ q < 5 ∧ fX5_ofLetter x = nI q := by
  unfold fX5_ofLetter
  repeat' split
  · exact Or.inr ⟨1, by omega, by omega, rfl⟩
  · exact Or.inr ⟨2, by omega, by omega, rfl⟩
  · exact Or.inr ⟨3, by omega, by omega, rfl⟩
  · exact Or.inr ⟨4, by omega, by omega, rfl⟩
  · exact Or.inl rfl
theorem dgt_eq (x : Int32) : fX11_in x.toInt64 48 57 = fX6_isDigit x := in_eq x 48 57
theorem FK_digit {c : Nat → Int32} {i : Nat} {K L : Nat → Int32} (h : FK c i K L) (hd : dgt c i = true) (K' : Nat → Int32) (hK : K' = upd K (prN c i) (pkN c i)) : FK c (i + 1) K' (upd L (prN c i) (c i - 48)) := by
  subst hK
  refine ⟨fun j hj hdj => ?_, fun h0 => ?_⟩
  · rw [upd_eq, upd_eq]
    by_cases e : j = i
    · subst e; rw [if_pos rfl, if_pos rfl]; exact ⟨rfl, rfl⟩
    · have h1 : prN c j < prN c i := by
        have h2 := prN_mono c (j + 1) (i - (j + 1))
        rw [show j + 1 + (i - (j + 1)) = i by omega] at h2
        have h3 : prN c (j + 1) = prN c j + 1 := by
          show prN c j + _ = _
          rw [if_pos hdj]
        omega
      rw [if_neg (by omega), if_neg (by omega)]
      exact h.1 j (by omega) hdj
  · exact absurd (by show (if dgt c i = true then (0 : Int32) else _) = 0; rw [if_pos hd]) h0
theorem FK_letter {c : Nat → Int32} {i : Nat} {K L : Nat → Int32} (h : FK c i K L) (hd : ¬ dgt c i = true) : FK c (i + 1) (upd K (prN c i) (fX5_ofLetter (c i))) L := by
  have hp : prN c (i + 1) = prN c i := by
    show prN c i + _ = _
    rw [if_neg hd]
    rfl
  have hk : pkN c (i + 1) = fX5_ofLetter (c i) := by
    show (if dgt c i = true then (0 : Int32) else _) = _
    rw [if_neg hd]
  refine ⟨fun j hj hdj => ?_, fun _ => ?_⟩
  · have e : j ≠ i := fun e => hd (e ▸ hdj)
    have h1 : prN c j < prN c i := by
      have h2 := prN_mono c (j + 1) (i - (j + 1))
      rw [show j + 1 + (i - (j + 1)) = i by omega] at h2
      have h3 : prN c (j + 1) = prN c j + 1 := by
        show prN c j + _ = _
        rw [if_pos hdj]
      omega
    rw [upd_eq, if_neg (by omega)]
    exact h.1 j (by omega) hdj
  · rw [hp, hk, upd_eq, if_pos rfl]
/-- both readings of the page side by side -/
theorem q_faultOf {codes : Nat → Int32} {size : Int32} {page : Nat → Int32} {pm : Int32} (hP : RelP codes size page pm) (rm td many mh mm rn sn km kb kc : Int32) (hh : Int64) (K0 L0 : Nat → Int32) : ∃ (i : Nat) (K L : Nat → Int32), fX6_firstFault size codes = some (nI i) ∧ fX11_faultOf pm rm td many mh mm rn sn km kb kc hh page K0 L0 = some (nI i, nI (prN codes i), tfl codes i, K, L) ∧ size = nI (size.toNatClampNeg) ∧ i ≤ size.toNatClampNeg ∧ FK codes i K L ∧ prN codes i ≤ 10 ∧ ∀ j : Nat, j < i → dgt codes j = true ∨ ¬ fX5_ofLetter (codes j) = -1 := by
  obtain ⟨p, hp, rfl, rfl, hq⟩ := hP
  rw [clN (by omega)]
  unfold fX6_firstFault fX11_faultOf
  obtain ⟨e, e', h1, h2, i, K, L, h3, h4, h5, h6, h7, h8⟩ := iter_two (st := fX6_firstFault_L6 (nI p) codes) (st' := fX11_faultOf_L12 (nI p) many mh mm rn sn km kb kc hh page)
    (fun z z' => ∃ (i : Nat) (K L : Nat → Int32), i ≤ p ∧ z = (nI (prN codes i), tfl codes i, nI i) ∧ z' = (nI i, nI (prN codes i), tfl codes i, K, L) ∧ FK codes i K L ∧ prN codes i ≤ 10 ∧ ∀ j : Nat, j < i → dgt codes j = true ∨ ¬ fX5_ofLetter (codes j) = -1)
    (fun z => p - z.2.2.toNatClampNeg)
    (fun e e' => ∃ (i : Nat) (K L : Nat → Int32), Sum.elim fX6_firstFault_X6_20 (Sum.elim fX6_firstFault_X6_64 (fX6_firstFault_X6_72 (nI p))) e = some (nI i) ∧ e' = (nI i, nI (prN codes i), tfl codes i, K, L) ∧ i ≤ p ∧ FK codes i K L ∧ prN codes i ≤ 10 ∧ ∀ j : Nat, j < i → dgt codes j = true ∨ ¬ fX5_ofLetter (codes j) = -1)
    (fun z z' hI => by
      obtain ⟨i, K, L, hi, rfl, rfl, hF, h10, hA⟩ := hI
      unfold fX6_firstFault_L6 fX11_faultOf_L12
      dsimp only
      by_cases hip : i = p
      · subst hip
        have hx : nI i ≤ nI i := by rw [leN (by omega) (by omega)]; omega
        rw [if_pos hx, if_pos hx]
        exact Or.inr ⟨_, _, rfl, rfl, i, K, L, rfl, rfl, hi, hF, h10, hA⟩
      have hx : ¬ nI p ≤ nI i := by rw [leN (by omega) (by omega)]; omega
      have hp10 : (nI (prN codes i) = 10) = (prN codes i = 10) := eqN (b := 10) (by omega) (by omega)
      have hpg : page i = codes i := (hq i (by omega)).1
      rw [if_neg hx, if_neg hx, gd_t (inbN (by omega) (by omega)), gd_t (inbN (by omega) (by omega)), clN (show i < 2 ^ 31 by omega)]
      unfold fX11_go fX11_go_J46 fX11_go_J90
      rw [hpg, dgt_eq, show fX11_kindOf (codes i) = fX5_ofLetter (codes i) from rfl]
      by_cases hr : prN codes i = 10
      · have hr' := hp10.mpr hr
        rw [if_pos hr', if_pos hr', bd_s]
        dsimp only
        rw [if_pos rfl]
        exact Or.inr ⟨_, _, rfl, rfl, i, K, L, rfl, rfl, hi, hF, h10, hA⟩
      have hr' : ¬ nI (prN codes i) = 10 := fun q => hr (hp10.mp q)
      rw [if_neg hr', if_neg hr']
      have hmes : p - (nI (i + 1)).toNatClampNeg < p - i := by rw [clN (by omega)]; omega
      have hA' : dgt codes i = true ∨ ¬ fX5_ofLetter (codes i) = -1 → ∀ j : Nat, j < i + 1 → dgt codes j = true ∨ ¬ fX5_ofLetter (codes j) = -1 := fun h j hj => by
        by_cases e : j = i
        · subst e; exact h
        · exact hA j (by omega)
      by_cases hd : dgt codes i = true
      · have hd0 : ¬ fX6_isDigit (codes i) = 0 := of_decide_eq_true hd
        have hpr : prN codes (i + 1) = prN codes i + 1 := by
          show prN codes i + _ = _
          rw [if_pos hd]
        have hpk : pkN codes (i + 1) = 0 := by
          show (if dgt codes i = true then (0 : Int32) else _) = 0
          rw [if_pos hd]
        have htf : tfl codes (i + 1) = 0 := by unfold tfl; rw [if_pos hpk]
        rw [if_neg hd0, if_neg hd0, letter_dgt hd0, gd_t (inbN (show prN codes i < 10 by omega) (by omega)), gd_t (inbN (show prN codes i < 10 by omega) (by omega)), clN (show prN codes i < 2 ^ 31 by omega), nI1]
        unfold fX6_firstFault_J66
        dsimp only
        have hK : ∀ v : Int32, v = pkN codes i → ∃ (i' : Nat) (K' L' : Nat → Int32), i' ≤ p ∧ (nI (prN codes i + 1), (0 : Int32), nI i + 1) = (nI (prN codes i'), tfl codes i', nI i') ∧ (nI i + 1, nI (prN codes i + 1), (0 : Int32), upd K (prN codes i) v, upd L (prN codes i) (codes i - 48)) = (nI i', nI (prN codes i'), tfl codes i', K', L') ∧ FK codes i' K' L' ∧ prN codes i' ≤ 10 ∧ ∀ j : Nat, j < i' → dgt codes j = true ∨ ¬ fX5_ofLetter (codes j) = -1 := by
          intro v hv
          refine ⟨i + 1, upd K (prN codes i) v, _, by omega, ?_, ?_, FK_digit hF hd _ (by rw [hv]), by omega, hA' (Or.inl hd)⟩
          · rw [hpr, htf, nI1]
          · rw [hpr, htf, nI1]
        have hmes' : p - (nI i + 1).toNatClampNeg < p - i := by rw [nI1]; exact hmes
        by_cases ht : pkN codes i = 0
        · rw [show tfl codes i = 0 by unfold tfl; rw [if_pos ht]]
          rw [if_pos rfl, if_pos rfl, if_pos rfl, bd_s]
          dsimp only
          rw [if_neg (show ¬ (1 : Int32) = 0 by decide)]
          exact Or.inl ⟨_, _, rfl, rfl, hK 0 ht.symm, hmes'⟩
        · rw [show tfl codes i = 1 by unfold tfl; rw [if_neg ht]]
          rw [if_neg (show ¬ (1 : Int32) = 0 by decide), if_neg (show ¬ (1 : Int32) = 0 by decide), gd_t (inbN (show prN codes i < 10 by omega) (by omega)), bd_s]
          dsimp only
          rw [if_neg (show ¬ (1 : Int32) = 0 by decide)]
          exact Or.inl ⟨_, _, rfl, rfl, hK (K (prN codes i)) (hF.2 ht), hmes'⟩
      · have hd0 : fX6_isDigit (codes i) = 0 := by
          cases Classical.em (fX6_isDigit (codes i) = 0) with
          | inl h => exact h
          | inr h => exact absurd (decide_eq_true h) hd
        have hpr : prN codes (i + 1) = prN codes i := by
          show prN codes i + _ = _
          rw [if_neg hd]
          rfl
        have hpk : pkN codes (i + 1) = fX5_ofLetter (codes i) := by
          show (if dgt codes i = true then (0 : Int32) else _) = _
          rw [if_neg hd]
        rw [if_pos hd0, if_pos hd0]
        by_cases ht : pkN codes i = 0
        · rw [show tfl codes i = 0 by unfold tfl; rw [if_pos ht]]
          rw [if_pos rfl, if_pos rfl]
          by_cases hl : fX5_ofLetter (codes i) = -1
          · rw [if_pos hl, if_pos hl, bd_s]
            dsimp only
            rw [if_pos rfl]
            exact Or.inr ⟨_, _, rfl, rfl, i, K, L, rfl, by rw [show tfl codes i = 0 by unfold tfl; rw [if_pos ht]], hi, hF, h10, hA⟩
          · rw [if_neg hl, if_neg hl, gd_t (inbN (show prN codes i < 10 by omega) (by omega)), clN (show prN codes i < 2 ^ 31 by omega), bd_s]
            dsimp only
            rw [if_neg (show ¬ (1 : Int32) = 0 by decide)]
            unfold fX6_firstFault_J66
            dsimp only
            have htf : tfl codes (i + 1) = 1 := by
              unfold tfl
              rw [hpk, if_neg]
              rcases letter_rng (codes i) with h | ⟨q, hq1, hq2, hq3⟩
              · exact absurd h hl
              · rw [hq3]; exact nI_ne0 hq1 (by omega)
            refine Or.inl ⟨_, _, rfl, rfl, ⟨i + 1, _, _, by omega, ?_, ?_, FK_letter hF hd, by omega, hA' (Or.inr hl)⟩, ?_⟩
            · rw [hpr, htf, nI1]
            · rw [hpr, htf, nI1]
            · show p - (nI i + 1).toNatClampNeg < _
              rw [nI1]; exact hmes
        · have e1 : tfl codes i = 1 := by unfold tfl; rw [if_neg ht]
          rw [e1]
          rw [if_neg (show ¬ (1 : Int32) = 0 by decide), if_neg (show ¬ (1 : Int32) = 0 by decide), bd_s]
          dsimp only
          rw [if_pos rfl]
          exact Or.inr ⟨_, _, rfl, rfl, i, K, L, rfl, by rw [e1], hi, hF, h10, hA⟩)
    FU (0, 0, 0) (0, 0, 0, K0, L0) ⟨0, K0, L0, by omega, rfl, rfl, ⟨fun j hj => absurd hj (Nat.not_lt_zero _), fun h => absurd rfl h⟩, Nat.zero_le _, fun j hj => absurd hj (Nat.not_lt_zero _)⟩ (by show p - _ < 100000; omega)
  refine ⟨i, K, L, ?_, ?_, rfl, h5, h6, h7, h8⟩
  · rw [h1, bd_s, h3]
  · rw [h2, bd_s]
    unfold fX11_faultOf_X12_39
    rw [h4]
theorem q_fault {codes : Nat → Int32} {size : Int32} {page : Nat → Int32} {pm : Int32} (hP : RelP codes size page pm) (kp rm td many mh mm rn sn km kb kc : Int32) (hh : Int64) (K0 L0 : Nat → Int32) : ∃ zx, fX10_fault kp size codes = some zx ∧ ∃ zm, fX11_fault pm rm td many mh mm rn sn km kb kc hh page K0 L0 = some zm ∧ zx = zm.1 := by
  obtain ⟨i, K, L, h1, h2, -⟩ := q_faultOf hP rm td many mh mm rn sn km kb kc hh K0 L0
  unfold fX10_fault fX11_fault
  rw [h1, h2]
  exact ⟨_, rfl, _, rfl, rfl⟩
