/-! least: the search over sets of fronds, against all sets -/
def smN (g : Nat → Nat) (S : Nat) : Nat → Nat
  | 0 => 0
  | i + 1 => smN g S i + (if S.testBit i = true then g i else 0)
def popT (S : Nat) (i : Nat) : Nat := smN (fun _ => 1) S i
def totN (own : Nat → Bool) (g : Nat → Nat) : Nat → Nat
  | 0 => 0
  | i + 1 => totN own g i + (if own i = true then g i else 0)
theorem smN_mod (g : Nat → Nat) (S f : Nat) : ∀ i, i ≤ f → smN g (S % 2 ^ f) i = smN g S i
  | 0, _ => rfl
  | i + 1, h => by
    show smN g (S % 2 ^ f) i + _ = smN g S i + _
    rw [smN_mod g S f i (by omega), Nat.testBit_mod_two_pow, decide_eq_true (show i < f by omega), Bool.true_and]
theorem smN_high (g : Nat → Nat) {b f : Nat} (hb : b < 2 ^ f) : ∀ k, smN g b (f + k) = smN g b f
  | 0 => rfl
  | k + 1 => by
    show smN g b (f + k) + _ = _
    rw [smN_high g hb k, show b.testBit (f.add k) = false from Nat.testBit_lt_two_pow (Nat.lt_of_lt_of_le hb (Nat.pow_le_pow_right (by omega) (show f ≤ f + k by omega))), if_neg Bool.false_ne_true]
    rfl
theorem smN_mono (g : Nat → Nat) (S i : Nat) : ∀ k, smN g S i ≤ smN g S (i + k)
  | 0 => Nat.le_refl _
  | k + 1 => by
    have := smN_mono g S i k
    show _ ≤ smN g S (i + k) + _
    omega
theorem smN_bound (g : Nat → Nat) (S : Nat) (c : Nat) (h : ∀ j, g j ≤ c) : ∀ i, smN g S i ≤ c * i
  | 0 => Nat.zero_le _
  | i + 1 => by
    have h1 := smN_bound g S c h i
    have h2 := h i
    show smN g S i + _ ≤ _
    rw [Nat.mul_succ]
    split <;> omega
theorem totN_bound (own : Nat → Bool) (g : Nat → Nat) (c : Nat) (h : ∀ j, g j ≤ c) : ∀ i, totN own g i ≤ c * i
  | 0 => Nat.zero_le _
  | i + 1 => by
    have h1 := totN_bound own g c h i
    have h2 := h i
    show totN own g i + _ ≤ _
    rw [Nat.mul_succ]
    split <;> omega
theorem totN_mono (own : Nat → Bool) (g : Nat → Nat) (i : Nat) : ∀ k, totN own g i ≤ totN own g (i + k)
  | 0 => Nat.le_refl _
  | k + 1 => by
    have := totN_mono own g i k
    show _ ≤ totN own g (i + k) + _
    omega
theorem sm_tot (own : Nat → Bool) (g : Nat → Nat) (S f : Nat) : ∀ k, (∀ j, j < f + k → S.testBit j = true → own j = true) → smN g S (f + k) + totN own g f ≤ smN g S f + totN own g (f + k)
  | 0, _ => Nat.le_refl _
  | k + 1, h => by
    have h1 := sm_tot own g S f k (fun j hj => h j (by omega))
    show smN g S (f + k) + (if S.testBit (f + k) = true then g (f + k) else 0) + _ ≤ _ + (totN own g (f + k) + (if own (f + k) = true then g (f + k) else 0))
    by_cases c : S.testBit (f + k) = true
    · rw [if_pos c, if_pos (h (f + k) (by omega) c)]; omega
    · rw [if_neg c]; omega
theorem smN_low {g : Nat → Nat} {b f : Nat} (hb : b < 2 ^ f) : smN g (b + 2 ^ f) (f + 1) = smN g b f + g f := by
  have h1 : (b + 2 ^ f) % 2 ^ f = b := by rw [Nat.add_mod_right, Nat.mod_eq_of_lt hb]
  show smN g (b + 2 ^ f) f + _ = _
  rw [← smN_mod g (b + 2 ^ f) f f (Nat.le_refl _), h1, Nat.add_comm b, Nat.testBit_two_pow_add_eq, Nat.testBit_lt_two_pow hb]
  rfl
def leK (s : Nat × Option Nat) (w B : Nat) : Prop := s.1 < w ∨ (s.1 = w ∧ ∃ b, s.2 = some b ∧ (popT b 10 < popT B 10 ∨ (popT b 10 = popT B 10 ∧ b ≤ B)))
def bI : Option Nat → Int32
  | none => -1
  | some b => nI b
theorem orN : ∀ f : Fin 10, ∀ b : Fin (2 ^ f.val), (nI b.val ||| (1 <<< (nI f.val &&& 31))) = nI (b.val + 2 ^ f.val) := by decide +kernel
theorem bitN : ∀ b : Fin 1024, ∀ i : Fin 10, ((nI b.val >>> (nI i.val &&& 31)) &&& 1) = if b.val.testBit i.val = true then 1 else 0 := by decide +kernel
theorem pow2N : ∀ f : Fin 11, (1 <<< (nI f.val &&& 31) : Int32) = nI (2 ^ f.val) := by decide +kernel
theorem popX : ∀ b : Fin 1024, fJ6_bitCount_0f7a4 (nI b.val) = nI (popT b.val 10) := by decide +kernel
def feasN (n : Nat) (own : Nat → Bool) (th : Nat → Nat) (sum S : Nat) : Prop := S < 2 ^ n ∧ (∀ j, j < n → S.testBit j = true → own j = true) ∧ sum ≤ smN th S n
def validN (n : Nat) (own : Nat → Bool) (lf th : Nat → Nat) (sum : Nat) (s : Nat × Option Nat) : Prop := s = (91, none) ∨ ∃ B, feasN n own th sum B ∧ s = (smN lf B n, some B)
theorem popT_le (b : Nat) : popT b 10 ≤ 10 := by
  have := smN_bound (fun _ => 1) b 1 (fun _ => Nat.le_refl _) 10
  exact this
theorem keepN {payer : Int32} {n : Nat} {own : Nat → Bool} {lf th : Nat → Nat} {sum : Nat} (hn : n ≤ 10) (hlf : ∀ j, lf j ≤ 9) {s : Nat × Option Nat} (hv : validN n own lf th sum s) {b : Nat} (hb : feasN n own th sum b) : ∃ s', fX7_keepIfBetter payer (nI s.1) (bI s.2) (nI b) (nI (smN lf b n)) = some (nI s'.1, bI s'.2) ∧ validN n own lf th sum s' ∧ (∀ w B, leK s w B → leK s' w B) ∧ leK s' (smN lf b n) b := by
  have hw := smN_bound lf b 9 hlf n
  have h2n : 2 ^ n ≤ 1024 := Nat.pow_le_pow_right (n := 2) (by omega) hn
  have hb1 := hb.1
  have hself : leK (smN lf b n, some b) (smN lf b n) b := Or.inr ⟨rfl, b, rfl, Or.inr ⟨rfl, Nat.le_refl _⟩⟩
  have hs91 : s.1 ≤ 91 := by
    rcases hv with rfl | ⟨B, hB, rfl⟩
    · exact Nat.le_refl _
    · have := smN_bound lf B 9 hlf n
      show smN lf B n ≤ 91
      omega
  unfold fX7_keepIfBetter fX7_keepIfBetter_J24 fX7_isSmaller
  by_cases c1 : smN lf b n < s.1
  · rw [if_pos (show nI (smN lf b n) < nI s.1 by rw [ltN (by omega) (by omega)]; exact c1)]
    refine ⟨(smN lf b n, some b), rfl, Or.inr ⟨b, hb, rfl⟩, fun w B h => ?_, hself⟩
    rcases h with h | ⟨h, -⟩
    · exact Or.inl (Nat.lt_trans c1 h)
    · exact Or.inl (h ▸ c1)
  rw [if_neg (show ¬ nI (smN lf b n) < nI s.1 by rw [ltN (by omega) (by omega)]; exact c1)]
  by_cases c2 : smN lf b n = s.1
  · rw [if_pos (by rw [c2])]
    rcases hv with rfl | ⟨B0, hB, rfl⟩
    · exfalso
      have : smN lf b n = 91 := c2
      omega
    have hB1 := hB.1
    have hp1 := popT_le b
    have hp2 := popT_le B0
    show ∃ s' : Nat × Option Nat, (if (if fJ6_bitCount_0f7a4 (nI b) - fJ6_bitCount_0f7a4 (nI B0) < 0 then (1 : Int32) else if fJ6_bitCount_0f7a4 (nI b) - fJ6_bitCount_0f7a4 (nI B0) = 0 then if nI B0 ≤ nI b then 0 else 1 else 0) = 0 then some (nI (smN lf B0 n), nI B0) else some (nI (smN lf b n), nI b)) = some (nI s'.1, bI s'.2) ∧ _
    rw [popX ⟨b, by omega⟩, popX ⟨B0, by omega⟩]
    have e1 : (nI (popT b 10) - nI (popT B0 10) < 0) = (popT b 10 < popT B0 10) := by
      rw [Int32.lt_iff_toInt_lt, pk_sub_toInt (by omega) (by omega)]
      show ((popT b 10 : Int) - (popT B0 10 : Int) < 0) = _
      exact propext (by omega)
    have e2 : (nI (popT b 10) - nI (popT B0 10) = 0) = (popT b 10 = popT B0 10) := by
      rw [← Int32.toInt_inj, pk_sub_toInt (by omega) (by omega)]
      show ((popT b 10 : Int) - (popT B0 10 : Int) = 0) = _
      exact propext (by omega)
    have e3 : (nI B0 ≤ nI b) = (B0 ≤ b) := leN (by omega) (by omega)
    simp only [e1, e2, e3]
    have c2 : smN lf b n = smN lf B0 n := c2
    have hbt : popT b 10 < popT B0 10 ∨ (popT b 10 = popT B0 10 ∧ b < B0) → (∃ s' : Nat × Option Nat, some (nI (smN lf b n), nI b) = some (nI s'.1, bI s'.2) ∧ validN n own lf th sum s' ∧ (∀ w B, leK (smN lf B0 n, some B0) w B → leK s' w B) ∧ leK s' (smN lf b n) b) := by
      intro hlt
      refine ⟨(smN lf b n, some b), rfl, Or.inr ⟨b, hb, rfl⟩, fun w B h => ?_, hself⟩
      rcases h with h | ⟨h, b2, hb2, h2⟩
      · refine Or.inl ?_
        have h : smN lf B0 n < w := h
        show smN lf b n < w
        omega
      · obtain rfl := Option.some.inj hb2
        refine Or.inr ⟨c2.trans h, b, rfl, ?_⟩
        omega
    have hst : ¬ (popT b 10 < popT B0 10 ∨ (popT b 10 = popT B0 10 ∧ b < B0)) → (∃ s' : Nat × Option Nat, some (nI (smN lf B0 n), nI B0) = some (nI s'.1, bI s'.2) ∧ validN n own lf th sum s' ∧ (∀ w B, leK (smN lf B0 n, some B0) w B → leK s' w B) ∧ leK s' (smN lf b n) b) := by
      intro hge
      refine ⟨(smN lf B0 n, some B0), rfl, Or.inr ⟨B0, hB, rfl⟩, fun w B h => h, Or.inr ⟨c2.symm, B0, rfl, ?_⟩⟩
      omega
    by_cases c3 : popT b 10 < popT B0 10
    · rw [if_pos c3, if_neg (show ¬ (1 : Int32) = 0 by decide)]
      exact hbt (Or.inl c3)
    · rw [if_neg c3]
      by_cases c4 : popT b 10 = popT B0 10
      · rw [if_pos c4]
        by_cases c5 : B0 ≤ b
        · rw [if_pos c5, if_pos rfl]
          exact hst (by omega)
        · rw [if_neg c5, if_neg (show ¬ (1 : Int32) = 0 by decide)]
          exact hbt (Or.inr ⟨c4, by omega⟩)
      · rw [if_neg c4, if_pos rfl]
        exact hst (by omega)
  · rw [if_neg (show ¬ nI (smN lf b n) = nI s.1 by rw [eqN (by omega) (by omega)]; exact c2)]
    refine ⟨s, rfl, hv, fun w B h => h, Or.inl (by omega)⟩
theorem extends_le {lf : Nat → Nat} {n S f : Nat} (hf : f ≤ n) (hn : n ≤ 10) : leK (smN lf (S % 2 ^ f) n, some (S % 2 ^ f)) (smN lf S n) S := by
  have hb : S % 2 ^ f < 2 ^ f := Nat.mod_lt _ (Nat.two_pow_pos f)
  have hg : ∀ (g : Nat → Nat) (m : Nat), f ≤ m → smN g (S % 2 ^ f) m ≤ smN g S m := by
    intro g m hm
    have h1 := smN_high g hb (m - f)
    have h2 := smN_mono g S f (m - f)
    rw [show f + (m - f) = m by omega] at h1 h2
    rw [h1, smN_mod g S f f (Nat.le_refl _)]
    exact h2
  have h1 := hg lf n hf
  have h2 := hg (fun _ => 1) 10 (by omega)
  have h3 := Nat.mod_le S (2 ^ f)
  by_cases c : smN lf (S % 2 ^ f) n < smN lf S n
  · exact Or.inl c
  · refine Or.inr ⟨by show smN lf (S % 2 ^ f) n = _; omega, _, rfl, ?_⟩
    have h2 : popT (S % 2 ^ f) 10 ≤ popT S 10 := h2
    omega
theorem chooseN {payer bh bm : Int32} {n : Nat} {k l o : Nat → Int32} {own : Nat → Bool} {lf th : Nat → Nat} {sum : Nat} (hn : n ≤ 10) (hsum : sum < 100) (hlf : ∀ j, lf j ≤ 9) (hth : ∀ j, th j ≤ 9) (hown : ∀ j, j < n → (own j = true ↔ o j = payer)) (hl : ∀ j, j < n → l j = nI (lf j)) (ht : ∀ j, j < n → fX5_behindHand (k j) (l j) = nI (th j)) : ∀ (d f b : Nat) (s : Nat × Option Nat), f ≤ n → n + 1 ≤ f + d → b < 2 ^ f → (∀ j, j < f → b.testBit j = true → own j = true) → validN n own lf th sum s → ∃ s', fX7_choose d payer (nI s.1) (bI s.2) (nI n) bh bm k l o (nI f) (nI b) (nI (smN lf b f)) (nI sum - nI (smN th b f)) (nI (totN own th n - totN own th f)) = some (nI s'.1, bI s'.2) ∧ validN n own lf th sum s' ∧ (∀ w B, leK s w B → leK s' w B) ∧ ∀ S, feasN n own th sum S → S % 2 ^ f = b → leK s' (smN lf S n) S
  | 0, f, b, s, hf, hd, _, _, _ => absurd hd (by omega)
  | d + 1, f, b, s, hf, hd, hb, hbo, hv => by
    have hw := smN_bound lf b 9 hlf f
    have hq := smN_bound th b 9 hth f
    have htn := totN_bound own th 9 hth n
    have htf := totN_mono own th f (n - f)
    rw [show f + (n - f) = n by omega] at htf
    have hs91 : s.1 ≤ 91 := by
      rcases hv with rfl | ⟨B, hB, rfl⟩
      · exact Nat.le_refl _
      · have := smN_bound lf B 9 hlf n
        show smN lf B n ≤ 91
        omega
    have hext : ∀ S g, S % 2 ^ f = b → smN g S f = smN g b f := by
      intro S g h
      rw [← h]
      exact (smN_mod g S f f (Nat.le_refl _)).symm
    show ∃ s', fX7_choose_b (fX7_choose d) payer (nI s.1) (bI s.2) (nI n) bh bm k l o (nI f) (nI b) (nI (smN lf b f)) (nI sum - nI (smN th b f)) (nI (totN own th n - totN own th f)) = _ ∧ _
    unfold fX7_choose_b
    have e1 : (nI s.1 < nI (smN lf b f)) = (s.1 < smN lf b f) := ltN (by omega) (by omega)
    by_cases c1 : s.1 < smN lf b f
    · rw [if_pos (e1.mpr c1)]
      refine ⟨s, rfl, hv, fun w B h => h, fun S hS hSb => Or.inl ?_⟩
      have h1 := smN_mono lf S f (n - f)
      rw [show f + (n - f) = n by omega, hext S lf hSb] at h1
      omega
    rw [if_neg (fun q => c1 (e1.mp q))]
    have e2 : (nI sum - nI (smN th b f) ≤ nI (totN own th n - totN own th f)) = (sum ≤ smN th b f + (totN own th n - totN own th f)) := by
      rw [Int32.le_iff_toInt_le, pk_sub_toInt (by omega) (by omega), nI_toInt (by omega)]
      exact propext (by omega)
    by_cases c2 : sum ≤ smN th b f + (totN own th n - totN own th f)
    · rw [if_pos (e2.mpr c2)]
      have e3 : (0 < nI sum - nI (smN th b f)) = (smN th b f < sum) := by
        rw [Int32.lt_iff_toInt_lt, pk_sub_toInt (by omega) (by omega)]
        show ((0 : Int) < _) = _
        exact propext (by omega)
      by_cases c3 : smN th b f < sum
      · rw [if_pos (e3.mpr c3)]
        by_cases c4 : f = n
        · subst c4
          rw [if_pos (show fX4_knows (nI f) bh bm (nI f) = 0 by
            unfold fX4_knows
            by_cases c : nI f < 0
            · rw [if_pos c]
            · rw [if_neg c, if_pos (show nI f ≤ nI f by rw [leN (by omega) (by omega)]; omega)])]
          refine ⟨s, rfl, hv, fun w B h => h, fun S hS hSb => ?_⟩
          exfalso
          have h1 := hS.2.2
          rw [hext S th hSb] at h1
          omega
        rw [knows_t hn (show f < n by omega), if_neg (show ¬ (1 : Int32) = 0 by decide), gd_t (inbN (show f < 10 by omega) (by omega)), clN (show f < 2 ^ 31 by omega)]
        have hb' : b < 2 ^ (f + 1) := by rw [Nat.pow_succ]; omega
        have htb : b.testBit f = false := Nat.testBit_lt_two_pow hb
        have hsm0 : ∀ g, smN g b (f + 1) = smN g b f := by
          intro g
          show smN g b f + _ = _
          rw [htb, if_neg Bool.false_ne_true]
          rfl
        have hbo0 : ∀ j, j < f + 1 → b.testBit j = true → own j = true := by
          intro j hj hj2
          by_cases e : j = f
          · subst e; rw [htb] at hj2; exact absurd hj2 Bool.false_ne_true
          · exact hbo j (by omega) hj2
        have hms := fun S => Nat.mod_pow_succ (x := S) (b := 2) (k := f)
        by_cases c5 : o f = payer
        · have hof : own f = true := (hown f (by omega)).mpr c5
          have htot : totN own th (f + 1) = totN own th f + th f := by
            show totN own th f + _ = _
            rw [if_pos hof]
          have htf2 := totN_mono own th (f + 1) (n - (f + 1))
          rw [show f + 1 + (n - (f + 1)) = n by omega] at htf2
          have htl := hth f
          rw [if_pos c5, worthX _ _ _ _ _ (show f < 10 by omega), bd_s, ht f (by omega), hl f (by omega), orN ⟨f, by omega⟩ ⟨b, hb⟩, nI1, nI_add]
          have a1 : nI sum - nI (smN th b f) - nI (th f) = nI sum - nI (smN th (b + 2 ^ f) (f + 1)) := by
            rw [smN_low hb, ← nI_add]
            grind
          have a2 : nI (totN own th n - totN own th f) - nI (th f) = nI (totN own th n - totN own th (f + 1)) := by
            rw [subN (by omega)]
            congr 1
            omega
          have a3 : smN lf b f + lf f = smN lf (b + 2 ^ f) (f + 1) := (smN_low hb).symm
          rw [a1, a2, a3]
          obtain ⟨s1, g1, g2, g3, g4⟩ := chooseN hn hsum hlf hth hown hl ht d (f + 1) (b + 2 ^ f) s (by omega) (by omega) (by rw [Nat.pow_succ]; omega) (fun j hj hj2 => by
            by_cases e : j = f
            · subst e; exact hof
            · refine hbo j (by omega) ?_
              have hm : (b + 2 ^ f) % 2 ^ f = b := by rw [Nat.add_mod_right, Nat.mod_eq_of_lt hb]
              rw [← hm, Nat.testBit_mod_two_pow, decide_eq_true (show j < f by omega), Bool.true_and]
              exact hj2) hv
          obtain ⟨s2, g5, g6, g7, g8⟩ := chooseN hn hsum hlf hth hown hl ht d (f + 1) b s1 (by omega) (by omega) hb' hbo0 g2
          rw [hsm0, hsm0] at g5
          rw [g1, bd_s]
          dsimp only
          rw [g5, bd_s]
          refine ⟨s2, rfl, g6, fun w B h => g7 w B (g3 w B h), fun S hS hSb => ?_⟩
          rcases Nat.mod_two_eq_zero_or_one (S / 2 ^ f) with h | h
          · refine g8 S hS ?_
            rw [hms S, hSb, h, Nat.mul_zero, Nat.add_zero]
          · refine g7 _ _ (g4 S hS ?_)
            rw [hms S, hSb, h, Nat.mul_one]
        · have hof : own f = false := by
            cases h : own f with
            | false => rfl
            | true => exact absurd ((hown f (by omega)).mp h) c5
          have htot : totN own th (f + 1) = totN own th f := by
            show totN own th f + _ = _
            rw [hof, if_neg Bool.false_ne_true]
            rfl
          obtain ⟨s1, g1, g2, g3, g4⟩ := chooseN hn hsum hlf hth hown hl ht d (f + 1) b s (by omega) (by omega) hb' hbo0 hv
          rw [hsm0, hsm0, htot] at g1
          rw [if_neg c5, nI1, g1, bd_s]
          refine ⟨s1, rfl, g2, g3, fun S hS hSb => g4 S hS ?_⟩
          rw [hms S, hSb]
          rcases Nat.mod_two_eq_zero_or_one (S / 2 ^ f) with h | h
          · rw [h, Nat.mul_zero, Nat.add_zero]
          · exfalso
            have h1 : S.testBit f = true := by
              rw [Nat.testBit_eq_decide_div_mod_eq]
              exact decide_eq_true h
            have h2 := hS.2.1 f (by omega) h1
            rw [hof] at h2
            exact absurd h2 Bool.false_ne_true
      · rw [if_neg (fun q => c3 (e3.mp q))]
        have hhi : ∀ g, smN g b n = smN g b f := by
          intro g
          have := smN_high g hb (n - f)
          rw [show f + (n - f) = n by omega] at this
          exact this
        have hfe : feasN n own th sum b := by
          refine ⟨Nat.lt_of_lt_of_le hb (Nat.pow_le_pow_right (by omega) hf), fun j hj hj2 => ?_, by rw [hhi]; omega⟩
          by_cases e : j < f
          · exact hbo j e hj2
          · rw [Nat.testBit_lt_two_pow (Nat.lt_of_lt_of_le hb (Nat.pow_le_pow_right (by omega) (show f ≤ j by omega)))] at hj2
            exact absurd hj2 Bool.false_ne_true
        obtain ⟨s1, g1, g2, g3, g4⟩ := keepN (payer := payer) hn hlf hv hfe
        rw [← hhi lf, g1, bd_s]
        refine ⟨s1, rfl, g2, g3, fun S hS hSb => ?_⟩
        have h1 := extends_le (lf := lf) (S := S) hf hn
        rw [hSb] at h1
        -- what the kept set beats, s1 beats
        rcases g4 with h | ⟨h, b2, hb2, h2⟩
        · rcases h1 with h3 | ⟨h3, -⟩
          · exact Or.inl (Nat.lt_trans h h3)
          · exact Or.inl (by have h3 : smN lf b n = _ := h3; omega)
        · rcases h1 with h3 | ⟨h3, b3, hb3, h4⟩
          · exact Or.inl (by have h3 : smN lf b n < _ := h3; omega)
          · obtain rfl := Option.some.inj hb3
            exact Or.inr ⟨h.trans h3, b2, hb2, by omega⟩
    · rw [if_neg (fun q => c2 (e2.mp q))]
      refine ⟨s, rfl, hv, fun w B h => h, fun S hS hSb => ?_⟩
      exfalso
      have h1 := sm_tot own th S f (n - f) (by rw [show f + (n - f) = n by omega]; exact hS.2.1)
      rw [show f + (n - f) = n by omega, hext S th hSb] at h1
      have h2 := hS.2.2
      omega
/-! least, by the law: all sets, from the greatest number down -/
def hisN (own : Nat → Bool) (S : Nat) : Nat → Bool
  | 0 => true
  | i + 1 => hisN own S i && (!S.testBit i || own i)
theorem hisN_iff (own : Nat → Bool) (S : Nat) : ∀ i, hisN own S i = true ↔ ∀ j, j < i → S.testBit j = true → own j = true
  | 0 => ⟨fun _ j hj => absurd hj (Nat.not_lt_zero _), fun _ => rfl⟩
  | i + 1 => by
    show (hisN own S i && (!S.testBit i || own i)) = true ↔ _
    rw [Bool.and_eq_true, hisN_iff own S i]
    constructor
    · intro ⟨h1, h2⟩ j hj hj2
      by_cases e : j = i
      · subst e
        rw [hj2] at h2
        exact h2
      · exact h1 j (by omega) hj2
    · intro h
      refine ⟨fun j hj => h j (by omega), ?_⟩
      cases c : S.testBit i with
      | false => rfl
      | true => exact h i (by omega) c
theorem and01 : ∀ a b : Bool, ((if a = true then 1 else 0 : Int32) &&& (if b = true then 1 else 0 : Int32)) = if (a && b) = true then 1 else 0 := by decide
theorem setL {n : Nat} {k l o d : Nat → Int32} (hW : RW n k l o d) {payer : Int32} {own : Nat → Bool} {lf th : Nat → Nat} (hown : ∀ j, j < n → (own j = true ↔ o j = payer)) (hl : ∀ j, j < n → l j = nI (lf j)) (ht : ∀ j, j < n → fL_hand (k j) (l j) = nI (th j)) {S : Nat} (hS : S < 1024) {z2 : Int32 × Int32 × Int32 × Int32} (hz : z2.2.2.2 = nI S) : iter (fL_least_L41 33 d payer z2) FU (0, 0, 0, 1, 0) = some (nI (smN lf S n), nI (smN th S n), nI (popT S n), if hisN own S n = true then 1 else 0) := by
  obtain ⟨hn, h0, hV, hG⟩ := hW
  refine iter_for (fun i => (nI (smN lf S i), nI (smN th S i), nI (popT S i), (if hisN own S i = true then 1 else 0), nI i)) n _ _ rfl (by omega) (fun i hi => ?_) ?_
  · obtain ⟨v1, v2, v3⟩ := hV i (by omega)
    show fL_least_L41 33 d payer z2 (nI (smN lf S i), nI (smN th S i), nI (popT S i), (if hisN own S i = true then 1 else 0), nI i) = some (Sum.inl (nI (smN lf S i + (if S.testBit i = true then lf i else 0)), nI (smN th S i + (if S.testBit i = true then th i else 0)), nI (popT S i + (if S.testBit i = true then 1 else 0)), (if (hisN own S i && (!S.testBit i || own i)) = true then 1 else 0), nI (i + 1)))
    unfold fL_least_L41 fL_least_J119
    simp only [c00, h0]
    rw [if_neg (by rw [leN (by omega) (by omega)]; omega), hz, bitN ⟨S, hS⟩ ⟨i, by omega⟩, nI1]
    dsimp only
    cases c : S.testBit i with
    | false =>
      rw [if_neg Bool.false_ne_true, if_pos rfl, if_neg Bool.false_ne_true, if_neg Bool.false_ne_true, if_neg Bool.false_ne_true, Nat.add_zero, Nat.add_zero, Nat.add_zero]
      show _ = some (Sum.inl (_, _, _, (if (hisN own S i && true) = true then 1 else 0), _))
      rw [Bool.and_true]
      rfl
    | true =>
      rw [if_pos rfl, if_neg (show ¬ (1 : Int32) = 0 by decide), if_pos rfl, if_pos rfl, if_pos rfl, a21N, a11N, a1N, gd_t (inbN (by omega) (by omega)), gd_t (inbN (by omega) (by omega)), gd_t (inbN (by omega) (by omega)), clN (by omega), clN (by omega), clN (by omega), v1, v2, v3, ht i hi, hl i hi, nI_add, nI_add, nI1]
      have ho : (if o i = payer then 1 else 0 : Int32) = if own i = true then 1 else 0 := by
        by_cases h : o i = payer
        · rw [if_pos h, if_pos ((hown i hi).mpr h)]
        · rw [if_neg h, if_neg (fun q => h ((hown i hi).mp q))]
      rw [ho, and01]
      rfl
  · show fL_least_L41 33 d payer z2 (nI (smN lf S n), nI (smN th S n), nI (popT S n), (if hisN own S n = true then 1 else 0), nI n) = _
    unfold fL_least_L41
    simp only [c00, h0]
    rw [if_pos (by rw [leN (by omega) (by omega)]; omega)]
/-- the best of the sets from B up -/
def bestD (n : Nat) (own : Nat → Bool) (lf th : Nat → Nat) (sum : Nat) (B : Nat) (s : Option Nat) : Prop :=
  match s with
  | none => ∀ S, B ≤ S → ¬ feasN n own th sum S
  | some b => B ≤ b ∧ feasN n own th sum b ∧ ∀ S, B ≤ S → feasN n own th sum S → leK (smN lf b n, some b) (smN lf S n) S
def lwN (n : Nat) (lf : Nat → Nat) : Option Nat → Nat
  | none => 999
  | some b => smN lf b n
def fwN (n : Nat) : Option Nat → Nat
  | none => 99
  | some b => popT b n
theorem popn {S n : Nat} (h : S < 2 ^ n) (hn : n ≤ 10) : popT S 10 = popT S n := by
  have := smN_high (fun _ => 1) h (10 - n)
  rw [show n + (10 - n) = 10 by omega] at this
  exact this
theorem bestStep {n : Nat} (hn : n ≤ 10) {own : Nat → Bool} {lf th : Nat → Nat} {sum S : Nat} (hS : S < 2 ^ n) (hlf : ∀ j, lf j ≤ 9) {s : Option Nat} (hb : bestD n own lf th sum (S + 1) s) : ∃ s' : Option Nat, bestD n own lf th sum S s' ∧ (¬ feasN n own th sum S → s' = s) ∧ (feasN n own th sum S → s' = if lwN n lf s < smN lf S n then s else if smN lf S n = lwN n lf s then (if popT S n ≤ fwN n s then some S else s) else some S) := by
  by_cases hf : feasN n own th sum S
  · refine ⟨_, ?_, fun h => absurd hf h, fun _ => rfl⟩
    have hbd := smN_bound lf S 9 hlf n
    cases s with
    | none =>
      rw [if_neg (show ¬ lwN n lf none < smN lf S n by show ¬ 999 < _; omega), if_neg (show ¬ smN lf S n = lwN n lf none by show ¬ _ = 999; omega)]
      refine ⟨Nat.le_refl S, hf, fun S' hS' hf' => ?_⟩
      by_cases e : S' = S
      · subst e; exact Or.inr ⟨rfl, S', rfl, Or.inr ⟨rfl, Nat.le_refl _⟩⟩
      · exact absurd hf' (hb S' (by omega))
    | some b =>
      obtain ⟨b1, b2, b3⟩ := hb
      have hself : leK (smN lf S n, some S) (smN lf S n) S := Or.inr ⟨rfl, S, rfl, Or.inr ⟨rfl, Nat.le_refl _⟩⟩
      have hpS := popn hS hn
      have hpb := popn b2.1 hn
      show bestD n own lf th sum S (if smN lf b n < smN lf S n then some b else if smN lf S n = smN lf b n then (if popT S n ≤ popT b n then some S else some b) else some S)
      -- what the set S must beat
      have hnew : (smN lf S n < smN lf b n ∨ (smN lf S n = smN lf b n ∧ popT S n ≤ popT b n)) → bestD n own lf th sum S (some S) := by
        intro hlt
        refine ⟨Nat.le_refl S, hf, fun S' hS' hf' => ?_⟩
        by_cases e : S' = S
        · subst e; exact hself
        · rcases b3 S' (by omega) hf' with h | ⟨h, b', hb', h2⟩
          · refine Or.inl ?_
            have h : smN lf b n < smN lf S' n := h
            show smN lf S n < smN lf S' n
            omega
          · obtain rfl := Option.some.inj hb'
            have h : smN lf b n = smN lf S' n := h
            rcases hlt with h3 | ⟨h3, h4⟩
            · refine Or.inl ?_
              show smN lf S n < smN lf S' n
              omega
            · exact Or.inr ⟨h3.trans h, S, rfl, by omega⟩
      have hold : leK (smN lf b n, some b) (smN lf S n) S → bestD n own lf th sum S (some b) := by
        intro h
        refine ⟨by omega, b2, fun S' hS' hf' => ?_⟩
        by_cases e : S' = S
        · subst e; exact h
        · exact b3 S' (by omega) hf'
      by_cases c1 : smN lf b n < smN lf S n
      · rw [if_pos c1]
        exact hold (Or.inl c1)
      · rw [if_neg c1]
        by_cases c2 : smN lf S n = smN lf b n
        · rw [if_pos c2]
          by_cases c3 : popT S n ≤ popT b n
          · rw [if_pos c3]
            exact hnew (Or.inr ⟨c2, c3⟩)
          · rw [if_neg c3]
            exact hold (Or.inr ⟨c2.symm, b, rfl, Or.inl (by omega)⟩)
        · rw [if_neg c2]
          exact hnew (Or.inl (by omega))
  · refine ⟨s, ?_, fun _ => rfl, fun h => absurd h hf⟩
    cases s with
    | none =>
      intro S' hS'
      by_cases e : S' = S
      · subst e; exact hf
      · exact hb S' (by omega)
    | some b =>
      obtain ⟨b1, b2, b3⟩ := hb
      refine ⟨by omega, b2, fun S' hS' hf' => ?_⟩
      by_cases e : S' = S
      · subst e; exact absurd hf' hf
      · exact b3 S' (by omega) hf'
theorem leastL {n : Nat} {k l o d : Nat → Int32} (hW : RW n k l o d) {payer : Int32} {own : Nat → Bool} {lf th : Nat → Nat} {sum : Nat} (hsum : sum < 100) (hlf : ∀ j, lf j ≤ 9) (hth : ∀ j, th j ≤ 9) (hown : ∀ j, j < n → (own j = true ↔ o j = payer)) (hl : ∀ j, j < n → l j = nI (lf j)) (ht : ∀ j, j < n → fL_hand (k j) (l j) = nI (th j)) : ∃ s : Option Nat, iter (fL_least_L21 33 d payer (nI sum)) FU (-1, 999, 99, nI (2 ^ n) - 1) = some (bI s, nI (lwN n lf s)) ∧ bestD n own lf th sum 0 s := by
  have hn := hW.1
  have h2n : 2 ^ n ≤ 1024 := Nat.pow_le_pow_right (n := 2) (by omega) hn
  have hp : 0 < 2 ^ n := Nat.two_pow_pos n
  obtain ⟨e, h1, s, h2, h3⟩ := one_for (st := fL_least_L21 33 d payer (nI sum)) (fun i z => ∃ s : Option Nat, z = (bI s, nI (lwN n lf s), nI (fwN n s), nI (2 ^ n - i) - 1) ∧ bestD n own lf th sum (2 ^ n - i) s) (fun e => ∃ s : Option Nat, e = (bI s, nI (lwN n lf s)) ∧ bestD n own lf th sum 0 s) (2 ^ n) (by omega)
    (fun i z hi hI => by
      obtain ⟨s, rfl, hs⟩ := hI
      obtain ⟨S, hSe⟩ : ∃ S, 2 ^ n - i = S + 1 := ⟨2 ^ n - i - 1, by omega⟩
      have hS : S < 2 ^ n := by omega
      rw [hSe] at hs
      have hset : nI (2 ^ n - i) - 1 = nI S := by
        rw [hSe, show (1 : Int32) = nI 1 from rfl, subN (by omega)]
        rfl
      have hnext : nI S + (-1) = nI (2 ^ n - (i + 1)) - 1 := by
        rw [show 2 ^ n - (i + 1) = S by omega]
        grind
      rw [hset]
      have hb1 := smN_bound lf S 9 hlf n
      have hb2 := smN_bound th S 9 hth n
      have hb3 : popT S n ≤ 1 * n := smN_bound (fun _ => 1) S 1 (fun _ => Nat.le_refl _) n
      have hlw : lwN n lf s ≤ 999 := by
        cases s with
        | none => exact Nat.le_refl _
        | some b =>
          have := smN_bound lf b 9 hlf n
          show smN lf b n ≤ 999
          omega
      have hfw : fwN n s ≤ 99 := by
        cases s with
        | none => exact Nat.le_refl _
        | some b =>
          have : popT b n ≤ 1 * n := smN_bound (fun _ => 1) b 1 (fun _ => Nat.le_refl _) n
          show popT b n ≤ 99
          omega
      obtain ⟨s', g1, g2, g3⟩ := bestStep hn hS hlf hs
      unfold fL_least_L21
      dsimp only
      rw [if_neg (show ¬ nI S < 0 by rw [show (0 : Int32) = nI 0 from rfl, ltN (by omega) (by omega)]; omega), setL hW hown hl ht (show S < 1024 by omega) rfl, bd_s]
      unfold fL_least_X41_125
      dsimp only
      have hfe : feasN n own th sum S ↔ hisN own S n = true ∧ ¬ smN th S n < sum := by
        unfold feasN
        rw [hisN_iff]
        constructor
        · intro ⟨_, h, h'⟩; exact ⟨h, by omega⟩
        · intro ⟨h, h'⟩; exact ⟨hS, h, by omega⟩
      have e1 : (nI (smN th S n) < nI sum) = (smN th S n < sum) := ltN (by omega) (by omega)
      have e2 : (nI (lwN n lf s) < nI (smN lf S n)) = (lwN n lf s < smN lf S n) := ltN (by omega) (by omega)
      have e3 : (nI (smN lf S n) = nI (lwN n lf s)) = (smN lf S n = lwN n lf s) := eqN (by omega) (by omega)
      have e4 : (nI (popT S n) ≤ nI (fwN n s)) = (popT S n ≤ fwN n s) := leN (by omega) (by omega)
      simp only [e1, e2, e3, e4]
      refine ⟨_, rfl, s', ?_, ?_⟩
      · by_cases c1 : hisN own S n = true
        · rw [if_pos c1, if_neg (show ¬ (1 : Int32) = 0 by decide), if_neg (show ¬ (1 : Int32) = 0 by decide), if_neg (show ¬ (1 : Int32) = 0 by decide)]
          by_cases c2 : smN th S n < sum
          · rw [if_pos c2, if_pos c2, if_pos c2, g2 (fun q => (hfe.mp q).2 c2), hnext]
          · rw [if_neg c2, if_neg c2, if_neg c2, g3 (hfe.mpr ⟨c1, c2⟩), hnext]
            by_cases c3 : lwN n lf s < smN lf S n
            · rw [if_pos c3, if_pos c3, if_pos c3, if_pos c3]
            · rw [if_neg c3, if_neg c3, if_neg c3, if_neg c3]
              by_cases c4 : smN lf S n = lwN n lf s
              · rw [if_pos c4, if_pos c4, if_pos c4, if_pos c4]
                by_cases c5 : popT S n ≤ fwN n s
                · rw [if_pos c5, if_pos c5, if_pos c5, if_pos c5]; rfl
                · rw [if_neg c5, if_neg c5, if_neg c5, if_neg c5]
              · rw [if_neg c4, if_neg c4, if_neg c4, if_neg c4]; rfl
        · rw [if_neg c1, if_pos rfl, if_pos rfl, if_pos rfl, g2 (fun q => c1 (hfe.mp q).1), hnext]
      · rw [show 2 ^ n - (i + 1) = S by omega]
        exact g1)
    (fun z hI => by
      obtain ⟨s, rfl, hs⟩ := hI
      unfold fL_least_L21
      dsimp only
      rw [Nat.sub_self, if_pos (by decide)]
      rw [Nat.sub_self] at hs
      exact ⟨_, rfl, s, rfl, hs⟩) (-1, 999, 99, nI (2 ^ n) - 1) ⟨none, rfl, fun S hS hf => absurd hf.1 (by omega)⟩
  refine ⟨s, ?_, h3⟩
  rw [h1, h2]
/-- what least answers, the class -/
theorem leastX {n : Nat} (hn : n ≤ 10) {k l o : Nat → Int32} {who sum : Nat} (hwho : who < 6) (hs1 : 1 ≤ sum) (hs2 : sum ≤ 99) {own : Nat → Bool} {lf th : Nat → Nat} (hlf : ∀ j, lf j ≤ 9) (hth : ∀ j, th j ≤ 9) (hown : ∀ j, j < n → (own j = true ↔ o j = nI who)) (hl : ∀ j, j < n → l j = nI (lf j)) (ht : ∀ j, j < n → fX5_behindHand (k j) (l j) = nI (th j)) {s : Option Nat} (hs : bestD n own lf th sum 0 s) (kp bh bm pp lw lb : Int32) : (∃ q1 q2 q3 : Int32, fX10_least kp (nI n) bh bm k l o pp lw lb (nI who) (nI sum) 0 = some ((if s = none then -1 else nI (lwN n lf s)), q1, q2, q3)) ∧ ∃ q1 q2 q3 : Int32, fX10_least kp (nI n) bh bm k l o pp lw lb (nI who) (nI sum) 1 = some (bI s, q1, q2, q3) := by
  have e0 : ∀ part : Int32, (part = 0 ∨ part = 1) → fX10_least kp (nI n) bh bm k l o pp lw lb (nI who) (nI sum) part = (fX7_search pp lw lb (nI n) bh bm k l o (nI who) (nI sum)).bind (fun u4 => if part = 0 then (some ((fX7_worth u4.1 u4.2.1 u4.2.2), u4.1, u4.2.1, u4.2.2)) else (some ((fX7_bits u4.1 u4.2.1 u4.2.2), u4.1, u4.2.1, u4.2.2))) := by
    intro part hp
    unfold fX10_least
    rw [if_neg (person_t hwho), if_neg (show ¬ fX10_isWithin (nI sum) 1 99 = 0 from within_iff.mpr ⟨nI_le (a := 1) hs1 (by omega), nI_le (b := 99) hs2 (by omega)⟩), if_neg (show ¬ fX10_isWithin part 0 1 = 0 by rcases hp with rfl | rfl <;> decide)]
  have hsr : ∃ w : Int32, fX7_search pp lw lb (nI n) bh bm k l o (nI who) (nI sum) = some (nI who, w, bI s) ∧ (s = none ∨ w = nI (lwN n lf s)) := by
    unfold fX7_search
    have h1 := iter_for (st := fX7_search_L22 (nI n) bh bm k l o (nI who)) (fun i => (nI (totN own th i), nI i)) n (nI (totN own th n)) (0, 0) rfl (by omega) (fun i hi => by
        show fX7_search_L22 (nI n) bh bm k l o (nI who) (nI (totN own th i), nI i) = some (Sum.inl (nI (totN own th i + (if own i = true then th i else 0)), nI (i + 1)))
        unfold fX7_search_L22 fX7_search_J53
        dsimp only
        rw [if_neg (by rw [leN (by omega) (by omega)]; omega), gd_t (inbN (by omega) (by omega)), clN (by omega), worthX _ _ _ _ _ (show i < 10 by omega), ht i hi, bd_s, nI1, nI_add]
        by_cases c : o i = nI who
        · rw [if_pos c, if_pos ((hown i hi).mpr c)]
        · rw [if_neg c, if_neg (fun q => c ((hown i hi).mp q))]; rfl) (by
        show fX7_search_L22 (nI n) bh bm k l o (nI who) (nI (totN own th n), nI n) = _
        unfold fX7_search_L22
        dsimp only
        rw [if_pos (by rw [leN (by omega) (by omega)]; omega)])
    obtain ⟨s', g1, g2, -, g4⟩ := chooseN (payer := nI who) (bh := bh) (bm := bm) hn (show sum < 100 by omega) hlf hth hown hl ht 12 0 0 (91, none) (by omega) (by omega) (by decide) (fun j hj => absurd hj (Nat.not_lt_zero _)) (Or.inl rfl)
    have g1 : fX7_choose 12 (nI who) 91 (-1) (nI n) bh bm k l o 0 0 0 (nI sum) (nI (totN own th n)) = some (nI s'.1, bI s'.2) := by
      rw [← g1]
      show _ = fX7_choose 12 (nI who) 91 (-1) (nI n) bh bm k l o 0 0 0 (nI sum - 0) (nI (totN own th n))
      rw [Int32.sub_zero]
    rw [h1, bd_s]
    unfold fX7_search_X22_59
    rw [g1, bd_s]
    dsimp only
    have hsame : s'.2 = s ∧ (s = none ∨ nI s'.1 = nI (lwN n lf s)) := by
      rcases g2 with rfl | ⟨B, hB, rfl⟩
      · cases s with
        | none => exact ⟨rfl, Or.inl rfl⟩
        | some b =>
          exfalso
          have h3 := g4 b hs.2.1 (Nat.mod_one b)
          have h5 := smN_bound lf b 9 hlf n
          rcases h3 with h | ⟨h, b2, hb2, -⟩
          · have h : 91 < smN lf b n := h
            omega
          · cases hb2
      · cases s with
        | none => exact absurd hB (hs B (Nat.zero_le _))
        | some b =>
          have h3 := g4 b hs.2.1 (Nat.mod_one b)
          have h5 := hs.2.2 B (Nat.zero_le _) hB
          have hb : B = b := by
            rcases h3 with h | ⟨h, b2, hb2, h6⟩
            · have h : smN lf B n < smN lf b n := h
              rcases h5 with h7 | ⟨h7, -⟩
              · have h7 : smN lf b n < smN lf B n := h7
                omega
              · have h7 : smN lf b n = smN lf B n := h7
                omega
            · have h : smN lf B n = smN lf b n := h
              obtain rfl := Option.some.inj hb2
              rcases h5 with h7 | ⟨h7, b3, hb3, h8⟩
              · have h7 : smN lf b n < smN lf B n := h7
                omega
              · obtain rfl := Option.some.inj hb3
                omega
          subst hb
          exact ⟨rfl, Or.inr rfl⟩
    exact ⟨nI s'.1, by rw [hsame.1], hsame.2⟩
  obtain ⟨w, hw1, hw2⟩ := hsr
  rw [e0 0 (Or.inl rfl), e0 1 (Or.inr rfl), hw1, bd_s, bd_s, if_pos rfl, if_neg (show ¬ (1 : Int32) = 0 by decide)]
  unfold fX7_worth fX7_bits
  dsimp only
  refine ⟨⟨nI who, w, bI s, ?_⟩, _, _, _, rfl⟩
  cases s with
  | none => rfl
  | some b =>
    rcases hw2 with h | h
    · cases h
    · have hb1 : b < 1024 := Nat.lt_of_lt_of_le hs.2.1.1 (Nat.pow_le_pow_right (n := 2) (by omega) hn)
      rw [show bI (some b) = nI b from rfl, if_neg (show ¬ nI b = -1 by rw [m1N (by omega)]; exact id), if_neg (show ¬ (some b : Option Nat) = none by simp), h]
theorem leastN {n : Nat} {k l o d : Nat → Int32} (hW : RW n k l o d) {who sum : Nat} (hwho : who < 6) (hs1 : 1 ≤ sum) (hs2 : sum ≤ 99) (kp bh bm pp lw lb : Int32) : ∃ q : Int32 × Int32 × Int32, fL_least 33 kp (nI n) bh bm k l o pp lw lb d (nI who) (nI sum) = some (1, q.1, q.2.1, q.2.2) := by
  obtain ⟨hn, h0, hV, hG⟩ := hW
  have hlf : ∃ lf : Nat → Nat, (∀ j, lf j ≤ 9) ∧ ∀ j, j < n → l j = nI (lf j) := by
    refine ⟨fun j => if j < 10 then (l j).toNatClampNeg else 0, fun j => ?_, fun j hj => ?_⟩
    · show (if j < 10 then (l j).toNatClampNeg else 0) ≤ 9
      by_cases h : j < 10
      · rw [if_pos h]
        obtain ⟨-, ⟨c, hc, e⟩, -⟩ := hG j h
        rw [e, clN (by omega)]; omega
      · rw [if_neg h]; omega
    · obtain ⟨-, ⟨c, hc, e⟩, -⟩ := hG j (by omega)
      show l j = nI (if j < 10 then (l j).toNatClampNeg else 0)
      rw [if_pos (show j < 10 by omega), e, clN (by omega)]
  have hth : ∃ th : Nat → Nat, (∀ j, th j ≤ 9) ∧ ∀ j, j < n → fX5_behindHand (k j) (l j) = nI (th j) ∧ fL_hand (k j) (l j) = nI (th j) := by
    refine ⟨fun j => if j < 10 then (fX5_behindHand (k j) (l j)).toNatClampNeg else 0, fun j => ?_, fun j hj => ?_⟩
    · show (if j < 10 then (fX5_behindHand (k j) (l j)).toNatClampNeg else 0) ≤ 9
      by_cases h : j < 10
      · rw [if_pos h]
        obtain ⟨c, v, w, hc, hv, hw, hwv, ek, el, ew, ew'⟩ := RG_at hG h
        rw [ew, clN (by omega)]; omega
      · rw [if_neg h]; omega
    · obtain ⟨c, v, w, hc, hv, hw, hwv, ek, el, ew, ew'⟩ := RG_at hG (show j < 10 by omega)
      show fX5_behindHand (k j) (l j) = nI (if j < 10 then (fX5_behindHand (k j) (l j)).toNatClampNeg else 0) ∧ _ = nI (if j < 10 then (fX5_behindHand (k j) (l j)).toNatClampNeg else 0)
      rw [if_pos (show j < 10 by omega), ew, clN (by omega)]
      exact ⟨rfl, ew'⟩
  obtain ⟨lf, hlf, hl⟩ := hlf
  obtain ⟨th, hth, ht⟩ := hth
  have hown : ∀ j, j < n → ((fun j => decide (o j = nI who)) j = true ↔ o j = nI who) := fun j _ => ⟨fun h => of_decide_eq_true h, fun h => decide_eq_true h⟩
  generalize (fun j => decide (o j = nI who)) = own at hown
  obtain ⟨s, h1, h2⟩ := leastL ⟨hn, h0, hV, hG⟩ (show sum < 100 by omega) hlf hth hown hl (fun j hj => (ht j hj).2)
  have hX := leastX hn hwho hs1 hs2 hlf hth hown hl (fun j hj => (ht j hj).1) h2 kp bh bm
  obtain ⟨⟨p1, p2, p3, hA⟩, -⟩ := hX pp lw lb
  obtain ⟨-, ⟨r1, r2, r3, hB⟩⟩ := hX p1 p2 p3
  unfold fL_least
  have hp2 := pow2N ⟨n, by omega⟩
  dsimp only at hp2
  rw [c00, h0, gd_t (show inb 0 33 = true by decide), hp2, h1, bd_s]
  unfold fL_least_X21_178
  rw [hA, bd_s]
  dsimp only
  have hv : (if s = none then -1 else nI (lwN n lf s) : Int32) = (if 0 ≤ bI s then nI (lwN n lf s) else (-1) : Int32) := by
    cases s with
    | none => rfl
    | some b =>
      have hb1 : b < 1024 := Nat.lt_of_lt_of_le h2.2.1.1 (Nat.pow_le_pow_right (n := 2) (by omega) hn)
      rw [if_neg (show ¬ (some b : Option Nat) = none by simp), if_pos (show (0 : Int32) ≤ bI (some b) from nI_pos' (by omega))]
  rw [if_pos hv, hB, bd_s]
  dsimp only
  rw [if_pos rfl]
  exact ⟨(r1, r2, r3), rfl⟩
