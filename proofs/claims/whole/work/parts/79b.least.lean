/-! least: the model tries every set -/
def hisN (own : Nat → Bool) (S : Nat) : Nat → Bool
  | 0 => true
  | i + 1 => hisN own S i && (!S.testBit i || own i)
theorem hisN_iff (own : Nat → Bool) (S : Nat) : ∀ i, hisN own S i = true ↔ ∀ j, j < i → S.testBit j = true → own j = true
  | 0 => ⟨fun _ j hj => absurd hj (Nat.not_lt_zero _), fun _ => rfl⟩
  | i + 1 => by
    show (hisN own S i && (!S.testBit i || own i)) = true ↔ _
    rw [Bool.and_eq_true, hisN_iff own S i]
    constructor
    · intro ⟨h1, h2⟩ j hj hj2
      by_cases e : j = i
      · subst e
        rw [hj2] at h2
        exact h2
      · exact h1 j (by omega) hj2
    · intro h
      refine ⟨fun j hj => h j (by omega), ?_⟩
      cases c : S.testBit i with
      | false => rfl
      | true => exact h i (by omega) c
theorem worthMN {rows k l o t : Nat → Int32} (hC : RC k l o t rows) {th : Nat → Nat} {n : Nat} (hn : n ≤ 10) (ht : ∀ j, j < n → fX5_behindHand (k j) (l j) = nI (th j)) (a b c d e f' g i j k' m : Int32) (h : Int64) {f : Nat} (hf : f < n) : fX11_worth a b c d e f' g i j k' m h rows (nI f) = some (nI (th f)) := by
  obtain ⟨r1, r2, r3⟩ := hC.1 f (by omega)
  obtain ⟨⟨ck, hck, ek⟩, ⟨cl, hcl, el⟩, -⟩ := hC.2.2 f (by omega)
  rw [worthM _ _ _ _ _ _ _ _ _ _ _ _ _ (show f < 10 by omega), r1, r2, ← ht f hf, ek, el, hand_eq hck hcl]
theorem setM {rows k l o t : Nat → Int32} (hC : RC k l o t rows) {payer : Int32} {own : Nat → Bool} {lf th : Nat → Nat} {n : Nat} (hn : n ≤ 10) (hown : ∀ j, j < n → (own j = true ↔ o j = payer)) (hl : ∀ j, j < n → l j = nI (lf j)) (ht : ∀ j, j < n → fX5_behindHand (k j) (l j) = nI (th j)) (p r td bh bm rn sn km kb kc : Int32) (hh : Int64) {S : Nat} (hS : S < 1024) (z1 : Int32 × Int32 × Int32) (hz : z1.2.2 = nI S) : iter (fX11_leastOf_L32 p r td (nI n) bh bm rn sn km kb kc hh rows payer z1) FU (0, 0, 1, 0) = some (nI (smN lf S n), nI (smN th S n), if hisN own S n = true then 1 else 0) := by
  obtain ⟨e, h1, h2⟩ := one_for (st := fX11_leastOf_L32 p r td (nI n) bh bm rn sn km kb kc hh rows payer z1) (fun i z => z = (nI (smN lf S i), nI (smN th S i), (if hisN own S i = true then 1 else 0), nI i)) (fun e => e = (nI (smN lf S n), nI (smN th S n), if hisN own S n = true then 1 else 0)) n (by omega)
    (fun i z hi hI => by
      subst hI
      obtain ⟨r1, r2, r3⟩ := hC.1 i (by omega)
      unfold fX11_leastOf_L32 fX11_leastOf_J77 fX11_leastOf_J78 fX11_leastOf_J108
      dsimp only
      rw [if_neg (show ¬ nI n ≤ nI i by rw [leN (by omega) (by omega)]; omega), hz, bitN ⟨S, hS⟩ ⟨i, by omega⟩, m8N1, m8N2, gd_t (inbN (by omega) (by omega)), gd_t (inbN (by omega) (by omega)), gd_t (inbN (by omega) (by omega)), worthMN hC hn ht _ _ _ _ _ _ _ _ _ _ _ _ hi, clN (by omega), clN (by omega), r2, hl i hi, bd_s, bd_s, nI_add, nI_add, nI1]
      have hHS : hisN own S (i + 1) = (hisN own S i && (!S.testBit i || own i)) := rfl
      have hLS : ∀ g : Nat → Nat, smN g S (i + 1) = smN g S i + (if S.testBit i = true then g i else 0) := fun g => rfl
      have ho : ((rows (8 * i + 2)) = payer) = (own i = true) := by rw [r3]; exact propext (hown i hi).symm
      rw [hHS, hLS, hLS]
      cases c : S.testBit i with
      | false =>
        rw [if_neg Bool.false_ne_true, if_neg Bool.false_ne_true, if_neg (show ¬ (0 : Int32) = 1 by decide), if_neg Bool.false_ne_true]
        refine ⟨_, rfl, ?_⟩
        show _ = (nI (smN lf S i + 0), nI (smN th S i + 0), (if (hisN own S i && true) = true then 1 else 0), nI (i + 1))
        rw [Bool.and_true]
        rfl
      | true =>
        rw [if_pos rfl, if_pos rfl, if_pos rfl, if_pos rfl]
        cases hb : hisN own S i with
        | false =>
          rw [if_neg Bool.false_ne_true, if_pos rfl]
          exact ⟨_, rfl, rfl⟩
        | true =>
          rw [if_pos rfl, if_neg (show ¬ (1 : Int32) = 0 by decide)]
          by_cases co : own i = true
          · rw [if_pos (ho.mpr co), co]
            exact ⟨_, rfl, rfl⟩
          · rw [if_neg (fun q => co (ho.mp q))]
            have co' : own i = false := by
              cases h : own i with
              | false => rfl
              | true => exact absurd h co
            rw [co']
            exact ⟨_, rfl, rfl⟩)
    (fun z hI => by
      subst hI
      unfold fX11_leastOf_L32
      dsimp only
      rw [if_pos (show nI n ≤ nI n by rw [leN (by omega) (by omega)]; omega)]
      exact ⟨_, rfl, rfl⟩) (0, 0, 1, 0) rfl
  rw [h1, h2]
/-- the model's best of the sets below B -/
def bestN (n : Nat) (own : Nat → Bool) (lf th : Nat → Nat) (sum : Nat) (B : Nat) (s : Option Nat) : Prop :=
  match s with
  | none => ∀ S, S < B → ¬ feasN n own th sum S
  | some b => b < B ∧ feasN n own th sum b ∧ ∀ S, S < B → feasN n own th sum S → leK (smN lf b n, some b) (smN lf S n) S
def bestW (n : Nat) (lf : Nat → Nat) : Option Nat → Int32
  | none => 0
  | some b => nI (smN lf b n)
theorem leastM {rows k l o t : Nat → Int32} (hC : RC k l o t rows) {payer : Int32} {own : Nat → Bool} {lf th : Nat → Nat} {n sum : Nat} (hn : n ≤ 10) (hsum : sum < 100) (hlf : ∀ j, lf j ≤ 9) (hth : ∀ j, th j ≤ 9) (hown : ∀ j, j < n → (own j = true ↔ o j = payer)) (hl : ∀ j, j < n → l j = nI (lf j)) (ht : ∀ j, j < n → fX5_behindHand (k j) (l j) = nI (th j)) (p r td bh bm rn sn km kb kc : Int32) (hh : Int64) : ∃ s, iter (fX11_leastOf_L9 p r td (nI n) bh bm rn sn km kb kc hh rows payer (nI sum)) FU (-1, 0, 0) = some (bI s, bestW n lf s) ∧ bestN n own lf th sum (2 ^ n) s := by
  have h2n : 2 ^ n ≤ 1024 := Nat.pow_le_pow_right (n := 2) (by omega) hn
  obtain ⟨e, h1, s, h2, h3⟩ := one_for (st := fX11_leastOf_L9 p r td (nI n) bh bm rn sn km kb kc hh rows payer (nI sum)) (fun B z => ∃ s, z = (bI s, bestW n lf s, nI B) ∧ bestN n own lf th sum B s) (fun e => ∃ s, e = (bI s, bestW n lf s) ∧ bestN n own lf th sum (2 ^ n) s) (2 ^ n) (by omega)
    (fun B z hB hI => by
      obtain ⟨s, rfl, hs⟩ := hI
      unfold fX11_leastOf_L9
      dsimp only
      rw [pow2N ⟨n, by omega⟩]
      dsimp only
      have hw := smN_bound lf B 9 hlf n
      have hq := smN_bound th B 9 hth n
      rw [if_neg (show ¬ nI (2 ^ n) ≤ nI B by rw [leN (by omega) (by omega)]; omega), setM hC hn hown hl ht p r td bh bm rn sn km kb kc hh (show B < 1024 by omega) _ rfl, bd_s]
      have e1 : (nI (smN th B n) < nI sum) = (smN th B n < sum) := ltN (by omega) (by omega)
      have hfe : feasN n own th sum B ↔ hisN own B n = true ∧ ¬ smN th B n < sum := by
        unfold feasN
        rw [hisN_iff]
        constructor
        · intro ⟨_, h, h'⟩; exact ⟨h, by omega⟩
        · intro ⟨h, h'⟩; exact ⟨hB, h, by omega⟩
      -- what a step leaves: the set B taken or not
      have hkeep : ∀ q : Int32, (q = 0 ∨ ¬ feasN n own th sum B) → (¬ feasN n own th sum B ∨ ∃ b, s = some b ∧ leK (smN lf b n, some b) (smN lf B n) B) → ∃ tt, fX11_leastOf_J152 (nI sum) (bI s, bestW n lf s, nI B) (nI (smN lf B n), nI (smN th B n), if hisN own B n = true then 1 else 0) q = some (Sum.inl tt) ∧ ∃ s', tt = (bI s', bestW n lf s', nI (B + 1)) ∧ bestN n own lf th sum (B + 1) s' := by
        intro q hq0 hno
        have hv : (if (if hisN own B n = true then (1 : Int32) else 0) = 0 then bI s else (if nI (smN th B n) < nI sum then bI s else (if q = 0 then bI s else nI B : Int32) : Int32) : Int32) = bI s ∧ (if (if hisN own B n = true then (1 : Int32) else 0) = 0 then bestW n lf s else (if nI (smN th B n) < nI sum then bestW n lf s else (if q = 0 then bestW n lf s else nI (smN lf B n) : Int32) : Int32) : Int32) = bestW n lf s := by
          by_cases c1 : hisN own B n = true
          · rw [if_pos c1, if_neg (show ¬ (1 : Int32) = 0 by decide), if_neg (show ¬ (1 : Int32) = 0 by decide)]
            by_cases c2 : smN th B n < sum
            · rw [if_pos (e1.mpr c2), if_pos (e1.mpr c2)]; exact ⟨rfl, rfl⟩
            · have hq0' : q = 0 := hq0.resolve_right (fun w => w (hfe.mpr ⟨c1, c2⟩))
              rw [if_neg (fun w => c2 (e1.mp w)), if_neg (fun w => c2 (e1.mp w)), if_pos hq0', if_pos hq0']; exact ⟨rfl, rfl⟩
          · rw [if_neg c1, if_pos rfl, if_pos rfl]; exact ⟨rfl, rfl⟩
        refine ⟨_, rfl, s, ?_, ?_⟩
        · exact Prod.ext hv.1 (Prod.ext hv.2 (nI1 B))
        · cases s with
          | none =>
            intro S hS hf
            by_cases e : S = B
            · subst e
              rcases hno with h | ⟨b, hb, -⟩
              · exact h hf
              · cases hb
            · exact hs S (by omega) hf
          | some b =>
            obtain ⟨g1, g2, g3⟩ := hs
            refine ⟨by omega, g2, fun S hS hf => ?_⟩
            by_cases e : S = B
            · subst e
              rcases hno with h | ⟨b', hb, h⟩
              · exact absurd hf h
              · obtain rfl := Option.some.inj hb
                exact h
            · exact g3 S (by omega) hf
      have htake : (∀ b, s = some b → ∀ S, leK (smN lf b n, some b) (smN lf S n) S → leK (smN lf B n, some B) (smN lf S n) S) → ∃ tt, fX11_leastOf_J147 (nI sum) (bI s, bestW n lf s, nI B) (nI (smN lf B n), nI (smN th B n), if hisN own B n = true then 1 else 0) () = some (Sum.inl tt) ∧ ∃ s', tt = (bI s', bestW n lf s', nI (B + 1)) ∧ bestN n own lf th sum (B + 1) s' := by
        intro hbt
        by_cases hf : feasN n own th sum B
        · obtain ⟨c1, c2⟩ := hfe.mp hf
          have hv : (if (if hisN own B n = true then (1 : Int32) else 0) = 0 then bI s else (if nI (smN th B n) < nI sum then bI s else (if (1 : Int32) = 0 then bI s else nI B : Int32) : Int32) : Int32) = nI B ∧ (if (if hisN own B n = true then (1 : Int32) else 0) = 0 then bestW n lf s else (if nI (smN th B n) < nI sum then bestW n lf s else (if (1 : Int32) = 0 then bestW n lf s else nI (smN lf B n) : Int32) : Int32) : Int32) = nI (smN lf B n) := by
            rw [if_pos c1, if_neg (show ¬ (1 : Int32) = 0 by decide), if_neg (fun w => c2 (e1.mp w)), if_neg (show ¬ (1 : Int32) = 0 by decide), if_neg (show ¬ (1 : Int32) = 0 by decide), if_neg (fun w => c2 (e1.mp w)), if_neg (show ¬ (1 : Int32) = 0 by decide)]
            exact ⟨rfl, rfl⟩
          refine ⟨_, rfl, some B, Prod.ext hv.1 (Prod.ext hv.2 (nI1 B)), by omega, hf, fun S hS hfS => ?_⟩
          by_cases e : S = B
          · subst e; exact Or.inr ⟨rfl, S, rfl, Or.inr ⟨rfl, Nat.le_refl _⟩⟩
          · cases s with
            | none => exact absurd hfS (hs S (by omega))
            | some b => exact hbt b rfl S (hs.2.2 S (by omega) hfS)
        · obtain ⟨tt, g1, g2⟩ := hkeep 1 (Or.inr hf) (Or.inl hf)
          exact ⟨tt, g1, g2⟩
      unfold fX11_leastOf_X32_114 fX11_leastOf_J151
      dsimp only
      cases s with
      | none =>
        rw [show bI none = -1 from rfl, if_pos rfl]
        exact htake (fun b hb => absurd hb (fun w => by cases w))
      | some b =>
        obtain ⟨g1, g2, g3⟩ := hs
        have hwb := smN_bound lf b 9 hlf n
        have hp1 := popT_le b
        have hp2 := popT_le B
        have hb1 : b < 1024 := by have := g2.1; omega
        rw [show bI (some b) = nI b from rfl, show bestW n lf (some b) = nI (smN lf b n) from rfl]
        rw [if_neg (show ¬ nI b = -1 by rw [m1N (by omega)]; exact id)]
        have e2 : (nI (smN lf B n) < nI (smN lf b n)) = (smN lf B n < smN lf b n) := ltN (by omega) (by omega)
        have e3 : (nI (smN lf B n) = nI (smN lf b n)) = (smN lf B n = smN lf b n) := eqN (by omega) (by omega)
        have e4 : (nI (popT b 10) ≤ nI (popT B 10)) = (popT b 10 ≤ popT B 10) := leN (by omega) (by omega)
        by_cases c1 : smN lf B n < smN lf b n
        · rw [if_pos (e2.mpr c1)]
          refine htake (fun b' hb' S hS => ?_)
          obtain rfl := Option.some.inj hb'
          rcases hS with h | ⟨h, -⟩
          · exact Or.inl (Nat.lt_trans c1 h)
          · exact Or.inl (by have h : smN lf b n = _ := h; show smN lf B n < _; omega)
        · rw [if_neg (fun w => c1 (e2.mp w))]
          by_cases c2 : smN lf B n = smN lf b n
          · rw [if_pos (e3.mpr c2), popM (show B < 1024 by omega), popM hb1, bd_s, bd_s]
            by_cases c3 : popT b 10 ≤ popT B 10
            · rw [if_pos (e4.mpr c3)]
              exact hkeep 0 (Or.inl rfl) (Or.inr ⟨b, rfl, Or.inr ⟨c2.symm, b, rfl, by omega⟩⟩)
            · rw [if_neg (fun w => c3 (e4.mp w))]
              refine htake (fun b' hb' S hS => ?_)
              obtain rfl := Option.some.inj hb'
              rcases hS with h | ⟨h, b3, hb3, h3⟩
              · exact Or.inl (by have h : smN lf b n < _ := h; show smN lf B n < _; omega)
              · obtain rfl := Option.some.inj hb3
                exact Or.inr ⟨c2.trans h, B, rfl, by omega⟩
          · rw [if_neg (fun w => c2 (e3.mp w))]
            exact hkeep 0 (Or.inl rfl) (Or.inr ⟨b, rfl, Or.inl (by show smN lf b n < _; omega)⟩))
    (fun z hI => by
      obtain ⟨s, rfl, hs⟩ := hI
      unfold fX11_leastOf_L9
      dsimp only
      rw [pow2N ⟨n, by omega⟩]
      dsimp only
      rw [if_pos (show nI (2 ^ n) ≤ nI (2 ^ n) by rw [leN (by omega) (by omega)]; omega)]
      exact ⟨_, rfl, s, rfl, hs⟩) (-1, 0, 0) ⟨none, rfl, fun S hS => absurd hS (Nat.not_lt_zero _)⟩
  refine ⟨s, ?_, h3⟩
  rw [h1, h2]
theorem q_least {k l o t d : Nat → Int32} {sz bh bm : Int32} {rows debts : Nat → Int32} {many mh mm : Int32} (hH : RelH k l o t d sz bh bm rows debts many mh mm) (kp pp lw lb p r td rn sn km kb kc : Int32) (hh : Int64) (x1 x2 x3 : Int32) : ∃ zx, fX10_least kp sz bh bm k l o pp lw lb x1 x2 x3 = some zx ∧ ∃ zm, fX11_least p r td many mh mm rn sn km kb kc hh rows x1 x2 x3 = some zm ∧ zx.1 = zm := by
  obtain ⟨n, hn, rfl, rfl, rfl, rfl, hC, hRD⟩ := hH
  unfold fX10_least fX11_least
  rw [isPerson_eq, show fX11_in x2.toInt64 1 99 = fX10_isWithin x2 1 99 from in_eq x2 1 99, show fX11_in x3.toInt64 0 1 = fX10_isWithin x3 0 1 from in_eq x3 0 1]
  by_cases c1 : fX10_isPerson x1 = 0
  · rw [if_pos c1, if_pos c1]; exact ⟨_, rfl, _, rfl, rfl⟩
  rw [if_neg c1, if_neg c1]
  by_cases c2 : fX10_isWithin x2 1 99 = 0
  · rw [if_pos c2, if_pos c2]; exact ⟨_, rfl, _, rfl, rfl⟩
  rw [if_neg c2, if_neg c2]
  by_cases c3 : fX10_isWithin x3 0 1 = 0
  · rw [if_pos c3, if_pos c3]; exact ⟨_, rfl, _, rfl, rfl⟩
  rw [if_neg c3, if_neg c3]
  obtain ⟨sum, hs1, hs2, rfl⟩ := withinN (lo := 1) (hi := 99) (by omega) (by omega) c2
  obtain ⟨w3, -, hw3, rfl⟩ := withinN (lo := 0) (hi := 1) (by omega) (by omega) c3
  -- the fronds as numbers
  have hlf : ∃ lf : Nat → Nat, (∀ j, lf j ≤ 9) ∧ ∀ j, j < n → l j = nI (lf j) := by
    refine ⟨fun j => if j < 10 then (l j).toNatClampNeg else 0, fun j => ?_, fun j hj => ?_⟩
    · show (if j < 10 then (l j).toNatClampNeg else 0) ≤ 9
      by_cases h : j < 10
      · rw [if_pos h]
        obtain ⟨-, ⟨c, hc, e⟩, -⟩ := hC.2.2 j h
        rw [e, clN (by omega)]; omega
      · rw [if_neg h]; omega
    · obtain ⟨-, ⟨c, hc, e⟩, -⟩ := hC.2.2 j (by omega)
      show l j = nI (if j < 10 then (l j).toNatClampNeg else 0)
      rw [if_pos (show j < 10 by omega), e, clN (by omega)]
  have hth : ∃ th : Nat → Nat, (∀ j, th j ≤ 9) ∧ ∀ j, j < n → fX5_behindHand (k j) (l j) = nI (th j) := by
    refine ⟨fun j => if j < 10 then (fX5_behindHand (k j) (l j)).toNatClampNeg else 0, fun j => ?_, fun j hj => ?_⟩
    · show (if j < 10 then (fX5_behindHand (k j) (l j)).toNatClampNeg else 0) ≤ 9
      by_cases h : j < 10
      · rw [if_pos h]
        obtain ⟨⟨ck, hck, ek⟩, ⟨cl, hcl, el⟩, -⟩ := hC.2.2 j h
        obtain ⟨w, hw, -, ew⟩ := hand_lt hck hcl
        rw [ek, el, ew, clN (by omega)]; omega
      · rw [if_neg h]; omega
    · obtain ⟨⟨ck, hck, ek⟩, ⟨cl, hcl, el⟩, -⟩ := hC.2.2 j (by omega)
      obtain ⟨w, hw, -, ew⟩ := hand_lt hck hcl
      show fX5_behindHand (k j) (l j) = nI (if j < 10 then (fX5_behindHand (k j) (l j)).toNatClampNeg else 0)
      rw [if_pos (show j < 10 by omega), ek, el, ew, clN (by omega)]
  obtain ⟨lf, hlf, hl⟩ := hlf
  obtain ⟨th, hth, ht⟩ := hth
  have hown : ∀ j, j < n → ((fun j => decide (o j = x1)) j = true ↔ o j = x1) := fun j _ => ⟨fun h => of_decide_eq_true h, fun h => decide_eq_true h⟩
  generalize (fun j => decide (o j = x1)) = own at hown
  -- the class
  unfold fX7_search
  obtain ⟨e, h1, h2⟩ := one_for (st := fX7_search_L22 (nI n) mh mm k l o x1) (fun i z => z = (nI (totN own th i), nI i)) (fun e => e = nI (totN own th n)) n (by omega)
    (fun i z hi hI => by
      subst hI
      unfold fX7_search_L22 fX7_search_J53
      dsimp only
      rw [if_neg (show ¬ nI n ≤ nI i by rw [leN (by omega) (by omega)]; omega), gd_t (inbN (by omega) (by omega)), clN (by omega), worthX _ _ _ _ _ (show i < 10 by omega), ht i hi, bd_s, nI1, nI_add]
      have hT : totN own th (i + 1) = totN own th i + (if own i = true then th i else 0) := rfl
      rw [hT]
      by_cases c : o i = x1
      · rw [if_pos c, if_pos ((hown i hi).mpr c)]
        exact ⟨_, rfl, rfl⟩
      · rw [if_neg c, if_neg (fun q => c ((hown i hi).mp q))]
        exact ⟨_, rfl, rfl⟩)
    (fun z hI => by
      subst hI
      unfold fX7_search_L22
      dsimp only
      rw [if_pos (show nI n ≤ nI n by rw [leN (by omega) (by omega)]; omega)]
      exact ⟨_, rfl, rfl⟩) (0, 0) rfl
  obtain ⟨s', g1, g2, -, g4⟩ := chooseN (payer := x1) (bh := mh) (bm := mm) hn (show sum < 100 by omega) hlf hth hown hl ht 12 0 0 (91, none) (by omega) (by omega) (by decide) (fun j hj => absurd hj (Nat.not_lt_zero _)) (Or.inl rfl)
  obtain ⟨s, m1, m2⟩ := leastM hC hn (show sum < 100 by omega) hlf hth hown hl ht p r td mh mm rn sn km kb kc hh
  have g1 : fX7_choose 12 x1 91 (-1) (nI n) mh mm k l o 0 0 0 (nI sum) (nI (totN own th n)) = some (nI s'.1, bI s'.2) := by
    rw [← g1]
    show _ = fX7_choose 12 x1 91 (-1) (nI n) mh mm k l o 0 0 0 (nI sum - 0) (nI (totN own th n))
    rw [Int32.sub_zero]
  rw [h1, bd_s, h2]
  unfold fX7_search_X22_59 fX11_leastOf
  rw [g1, bd_s, bd_s, m1, bd_s]
  dsimp only
  unfold fX11_leastOf_X9_184 fX7_worth fX7_bits
  dsimp only
  -- both found the same set
  have hsame : s'.2 = s ∧ (∀ b, s = some b → b < 1024 ∧ nI s'.1 = bestW n lf s) := by
    rcases g2 with rfl | ⟨B, hB, rfl⟩
    · cases s with
      | none => exact ⟨rfl, fun b hb => by cases hb⟩
      | some b =>
        exfalso
        have h3 := g4 b m2.2.1 (Nat.mod_one b)
        have h5 := smN_bound lf b 9 hlf n
        rcases h3 with h | ⟨h, b2, hb2, -⟩
        · have h : 91 < smN lf b n := h
          omega
        · cases hb2
    · have h2n : 2 ^ n ≤ 1024 := Nat.pow_le_pow_right (n := 2) (by omega) hn
      have hB1 := hB.1
      cases s with
      | none => exact absurd hB (m2 B hB.1)
      | some b =>
        have h3 := g4 b m2.2.1 (Nat.mod_one b)
        have h5 := m2.2.2 B hB.1 hB
        have hb : B = b := by
          rcases h3 with h | ⟨h, b2, hb2, h6⟩
          · have h : smN lf B n < smN lf b n := h
            rcases h5 with h7 | ⟨h7, -⟩
            · have h7 : smN lf b n < smN lf B n := h7
              omega
            · have h7 : smN lf b n = smN lf B n := h7
              omega
          · have h : smN lf B n = smN lf b n := h
            obtain rfl := Option.some.inj hb2
            rcases h5 with h7 | ⟨h7, b3, hb3, h8⟩
            · have h7 : smN lf b n < smN lf B n := h7
              omega
            · obtain rfl := Option.some.inj hb3
              omega
        subst hb
        refine ⟨rfl, fun b hb => ?_⟩
        obtain rfl := Option.some.inj hb
        exact ⟨by omega, rfl⟩
  obtain ⟨f1, f2⟩ := hsame
  rw [f1]
  have e3 : (nI w3 = 0) = (w3 = 0) := eqN (b := 0) (by omega) (by omega)
  have e4 : (nI w3 = 1) = (w3 = 1) := eqN (b := 1) (by omega) (by omega)
  cases s with
  | none =>
    rw [show bI none = -1 from rfl, if_pos rfl, if_pos rfl]
    by_cases c : w3 = 0
    · rw [if_pos (e3.mpr c)]; exact ⟨_, rfl, _, rfl, rfl⟩
    · rw [if_neg (fun q => c (e3.mp q))]; exact ⟨_, rfl, _, rfl, rfl⟩
  | some b =>
    obtain ⟨f3, f4⟩ := f2 b rfl
    rw [show bI (some b) = nI b from rfl, if_neg (show ¬ nI b = -1 by rw [m1N (by omega)]; exact id), if_neg (show ¬ nI b = -1 by rw [m1N (by omega)]; exact id), f4]
    by_cases c : w3 = 0
    · rw [if_pos (e3.mpr c), if_neg (fun q => by rw [e4] at q; omega)]; exact ⟨_, rfl, _, rfl, rfl⟩
    · rw [if_neg (fun q => c (e3.mp q)), if_pos (e4.mpr (by omega))]; exact ⟨_, rfl, _, rfl, rfl⟩
