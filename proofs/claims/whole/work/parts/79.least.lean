/-! least: the search over sets of fronds, against all sets -/
def smN (g : Nat → Nat) (S : Nat) : Nat → Nat
  | 0 => 0
  | i + 1 => smN g S i + (if S.testBit i = true then g i else 0)
def popT (S : Nat) (i : Nat) : Nat := smN (fun _ => 1) S i
def totN (own : Nat → Bool) (g : Nat → Nat) : Nat → Nat
  | 0 => 0
  | i + 1 => totN own g i + (if own i = true then g i else 0)
theorem smN_mod (g : Nat → Nat) (S f : Nat) : ∀ i, i ≤ f → smN g (S % 2 ^ f) i = smN g S i
  | 0, _ => rfl
  | i + 1, h => by
    show smN g (S % 2 ^ f) i + _ = smN g S i + _
    rw [smN_mod g S f i (by omega), Nat.testBit_mod_two_pow, decide_eq_true (show i < f by omega), Bool.true_and]
theorem smN_high (g : Nat → Nat) {b f : Nat} (hb : b < 2 ^ f) : ∀ k, smN g b (f + k) = smN g b f
  | 0 => rfl
  | k + 1 => by
    show smN g b (f + k) + _ = _
    rw [smN_high g hb k, show b.testBit (f.add k) = false from Nat.testBit_lt_two_pow (Nat.lt_of_lt_of_le hb (Nat.pow_le_pow_right (by omega) (show f ≤ f + k by omega))), if_neg Bool.false_ne_true]
    rfl
theorem smN_mono (g : Nat → Nat) (S i : Nat) : ∀ k, smN g S i ≤ smN g S (i + k)
  | 0 => Nat.le_refl _
  | k + 1 => by
    have := smN_mono g S i k
    show _ ≤ smN g S (i + k) + _
    omega
theorem smN_bound (g : Nat → Nat) (S : Nat) (c : Nat) (h : ∀ j, g j ≤ c) : ∀ i, smN g S i ≤ c * i
  | 0 => Nat.zero_le _
  | i + 1 => by
    have h1 := smN_bound g S c h i
    have h2 := h i
    show smN g S i + _ ≤ _
    rw [Nat.mul_succ]
    split <;> omega
theorem totN_bound (own : Nat → Bool) (g : Nat → Nat) (c : Nat) (h : ∀ j, g j ≤ c) : ∀ i, totN own g i ≤ c * i
  | 0 => Nat.zero_le _
  | i + 1 => by
    have h1 := totN_bound own g c h i
    have h2 := h i
    show totN own g i + _ ≤ _
    rw [Nat.mul_succ]
    split <;> omega
theorem totN_mono (own : Nat → Bool) (g : Nat → Nat) (i : Nat) : ∀ k, totN own g i ≤ totN own g (i + k)
  | 0 => Nat.le_refl _
  | k + 1 => by
    have := totN_mono own g i k
    show _ ≤ totN own g (i + k) + _
    omega
theorem sm_tot (own : Nat → Bool) (g : Nat → Nat) (S f : Nat) : ∀ k, (∀ j, j < f + k → S.testBit j = true → own j = true) → smN g S (f + k) + totN own g f ≤ smN g S f + totN own g (f + k)
  | 0, _ => Nat.le_refl _
  | k + 1, h => by
    have h1 := sm_tot own g S f k (fun j hj => h j (by omega))
    show smN g S (f + k) + (if S.testBit (f + k) = true then g (f + k) else 0) + _ ≤ _ + (totN own g (f + k) + (if own (f + k) = true then g (f + k) else 0))
    by_cases c : S.testBit (f + k) = true
    · rw [if_pos c, if_pos (h (f + k) (by omega) c)]; omega
    · rw [if_neg c]; omega
theorem smN_low {g : Nat → Nat} {b f : Nat} (hb : b < 2 ^ f) : smN g (b + 2 ^ f) (f + 1) = smN g b f + g f := by
  have h1 : (b + 2 ^ f) % 2 ^ f = b := by rw [Nat.add_mod_right, Nat.mod_eq_of_lt hb]
  show smN g (b + 2 ^ f) f + _ = _
  rw [← smN_mod g (b + 2 ^ f) f f (Nat.le_refl _), h1, Nat.add_comm b, Nat.testBit_two_pow_add_eq, Nat.testBit_lt_two_pow hb]
  rfl
def leK (s : Nat × Option Nat) (w B : Nat) : Prop := s.1 < w ∨ (s.1 = w ∧ ∃ b, s.2 = some b ∧ (popT b 10 < popT B 10 ∨ (popT b 10 = popT B 10 ∧ b ≤ B)))
def bI : Option Nat → Int32
  | none => -1
  | some b => nI b
theorem orN : ∀ f : Fin 10, ∀ b : Fin (2 ^ f.val), (nI b.val ||| (1 <<< (nI f.val &&& 31))) = nI (b.val + 2 ^ f.val) := by decide +kernel
theorem bitN : ∀ b : Fin 1024, ∀ i : Fin 10, ((nI b.val >>> (nI i.val &&& 31)) &&& 1) = if b.val.testBit i.val = true then 1 else 0 := by decide +kernel
theorem pow2N : ∀ f : Fin 11, (1 <<< (nI f.val &&& 31) : Int32) = nI (2 ^ f.val) := by decide +kernel
theorem popX : ∀ b : Fin 1024, fJ6_bitCount_0f7a4 (nI b.val) = nI (popT b.val 10) := by decide +kernel
theorem popM {b : Nat} (hb : b < 1024) : fX11_ones (nI b) = some (nI (popT b 10)) := by
  unfold fX11_ones
  obtain ⟨e, h1, h2⟩ := one_for (st := fX11_ones_L4 (nI b)) (fun i z => z = (nI (popT b i), nI i)) (fun e => e = nI (popT b 10)) 10 (by omega)
    (fun i z hi hI => by
      subst hI
      unfold fX11_ones_L4
      dsimp only
      rw [if_neg (show ¬ (10 : Int32) ≤ nI i by rw [show (10 : Int32) = nI 10 from rfl, leN (by omega) (by omega)]; omega), bitN ⟨b, hb⟩ ⟨i, hi⟩]
      refine ⟨_, rfl, Prod.ext ?_ (nI1 i)⟩
      show nI (popT b i) + (if b.testBit i = true then 1 else 0) = nI (popT b i + (if b.testBit i = true then 1 else 0))
      by_cases c : b.testBit i = true
      · rw [if_pos c, if_pos c, nI1]
      · rw [if_neg c, if_neg c]; exact Int32.add_zero _)
    (fun z hI => by
      subst hI
      unfold fX11_ones_L4
      dsimp only
      rw [if_pos (by decide)]
      exact ⟨_, rfl, rfl⟩) (0, 0) rfl
  rw [h1, h2]
  rfl
def feasN (n : Nat) (own : Nat → Bool) (th : Nat → Nat) (sum S : Nat) : Prop := S < 2 ^ n ∧ (∀ j, j < n → S.testBit j = true → own j = true) ∧ sum ≤ smN th S n
def validN (n : Nat) (own : Nat → Bool) (lf th : Nat → Nat) (sum : Nat) (s : Nat × Option Nat) : Prop := s = (91, none) ∨ ∃ B, feasN n own th sum B ∧ s = (smN lf B n, some B)
theorem popT_le (b : Nat) : popT b 10 ≤ 10 := by
  have := smN_bound (fun _ => 1) b 1 (fun _ => Nat.le_refl _) 10
  exact this
theorem keepN {payer : Int32} {n : Nat} {own : Nat → Bool} {lf th : Nat → Nat} {sum : Nat} (hn : n ≤ 10) (hlf : ∀ j, lf j ≤ 9) {s : Nat × Option Nat} (hv : validN n own lf th sum s) {b : Nat} (hb : feasN n own th sum b) : ∃ s', fX7_keepIfBetter payer (nI s.1) (bI s.2) (nI b) (nI (smN lf b n)) = some (nI s'.1, bI s'.2) ∧ validN n own lf th sum s' ∧ (∀ w B, leK s w B → leK s' w B) ∧ leK s' (smN lf b n) b := by
  have hw := smN_bound lf b 9 hlf n
  have h2n : 2 ^ n ≤ 1024 := Nat.pow_le_pow_right (n := 2) (by omega) hn
  have hb1 := hb.1
  have hself : leK (smN lf b n, some b) (smN lf b n) b := Or.inr ⟨rfl, b, rfl, Or.inr ⟨rfl, Nat.le_refl _⟩⟩
  have hs91 : s.1 ≤ 91 := by
    rcases hv with rfl | ⟨B, hB, rfl⟩
    · exact Nat.le_refl _
    · have := smN_bound lf B 9 hlf n
      show smN lf B n ≤ 91
      omega
  unfold fX7_keepIfBetter fX7_keepIfBetter_J24 fX7_isSmaller
  by_cases c1 : smN lf b n < s.1
  · rw [if_pos (show nI (smN lf b n) < nI s.1 by rw [ltN (by omega) (by omega)]; exact c1)]
    refine ⟨(smN lf b n, some b), rfl, Or.inr ⟨b, hb, rfl⟩, fun w B h => ?_, hself⟩
    rcases h with h | ⟨h, -⟩
    · exact Or.inl (Nat.lt_trans c1 h)
    · exact Or.inl (h ▸ c1)
  rw [if_neg (show ¬ nI (smN lf b n) < nI s.1 by rw [ltN (by omega) (by omega)]; exact c1)]
  by_cases c2 : smN lf b n = s.1
  · rw [if_pos (by rw [c2])]
    rcases hv with rfl | ⟨B0, hB, rfl⟩
    · exfalso
      have : smN lf b n = 91 := c2
      omega
    have hB1 := hB.1
    have hp1 := popT_le b
    have hp2 := popT_le B0
    show ∃ s' : Nat × Option Nat, (if (if fJ6_bitCount_0f7a4 (nI b) - fJ6_bitCount_0f7a4 (nI B0) < 0 then (1 : Int32) else if fJ6_bitCount_0f7a4 (nI b) - fJ6_bitCount_0f7a4 (nI B0) = 0 then if nI B0 ≤ nI b then 0 else 1 else 0) = 0 then some (nI (smN lf B0 n), nI B0) else some (nI (smN lf b n), nI b)) = some (nI s'.1, bI s'.2) ∧ _
    rw [popX ⟨b, by omega⟩, popX ⟨B0, by omega⟩]
    have e1 : (nI (popT b 10) - nI (popT B0 10) < 0) = (popT b 10 < popT B0 10) := by
      rw [Int32.lt_iff_toInt_lt, pk_sub_toInt (by omega) (by omega)]
      show ((popT b 10 : Int) - (popT B0 10 : Int) < 0) = _
      exact propext (by omega)
    have e2 : (nI (popT b 10) - nI (popT B0 10) = 0) = (popT b 10 = popT B0 10) := by
      rw [← Int32.toInt_inj, pk_sub_toInt (by omega) (by omega)]
      show ((popT b 10 : Int) - (popT B0 10 : Int) = 0) = _
      exact propext (by omega)
    have e3 : (nI B0 ≤ nI b) = (B0 ≤ b) := leN (by omega) (by omega)
    simp only [e1, e2, e3]
    have c2 : smN lf b n = smN lf B0 n := c2
    have hbt : popT b 10 < popT B0 10 ∨ (popT b 10 = popT B0 10 ∧ b < B0) → (∃ s' : Nat × Option Nat, some (nI (smN lf b n), nI b) = some (nI s'.1, bI s'.2) ∧ validN n own lf th sum s' ∧ (∀ w B, leK (smN lf B0 n, some B0) w B → leK s' w B) ∧ leK s' (smN lf b n) b) := by
      intro hlt
      refine ⟨(smN lf b n, some b), rfl, Or.inr ⟨b, hb, rfl⟩, fun w B h => ?_, hself⟩
      rcases h with h | ⟨h, b2, hb2, h2⟩
      · refine Or.inl ?_
        have h : smN lf B0 n < w := h
        show smN lf b n < w
        omega
      · obtain rfl := Option.some.inj hb2
        refine Or.inr ⟨c2.trans h, b, rfl, ?_⟩
        omega
    have hst : ¬ (popT b 10 < popT B0 10 ∨ (popT b 10 = popT B0 10 ∧ b < B0)) → (∃ s' : Nat × Option Nat, some (nI (smN lf B0 n), nI B0) = some (nI s'.1, bI s'.2) ∧ validN n own lf th sum s' ∧ (∀ w B, leK (smN lf B0 n, some B0) w B → leK s' w B) ∧ leK s' (smN lf b n) b) := by
      intro hge
      refine ⟨(smN lf B0 n, some B0), rfl, Or.inr ⟨B0, hB, rfl⟩, fun w B h => h, Or.inr ⟨c2.symm, B0, rfl, ?_⟩⟩
      omega
    by_cases c3 : popT b 10 < popT B0 10
    · rw [if_pos c3, if_neg (show ¬ (1 : Int32) = 0 by decide)]
      exact hbt (Or.inl c3)
    · rw [if_neg c3]
      by_cases c4 : popT b 10 = popT B0 10
      · rw [if_pos c4]
        by_cases c5 : B0 ≤ b
        · rw [if_pos c5, if_pos rfl]
          exact hst (by omega)
        · rw [if_neg c5, if_neg (show ¬ (1 : Int32) = 0 by decide)]
          exact hbt (Or.inr ⟨c4, by omega⟩)
      · rw [if_neg c4, if_pos rfl]
        exact hst (by omega)
  · rw [if_neg (show ¬ nI (smN lf b n) = nI s.1 by rw [eqN (by omega) (by omega)]; exact c2)]
    refine ⟨s, rfl, hv, fun w B h => h, Or.inl (by omega)⟩
theorem extends_le {lf : Nat → Nat} {n S f : Nat} (hf : f ≤ n) (hn : n ≤ 10) : leK (smN lf (S % 2 ^ f) n, some (S % 2 ^ f)) (smN lf S n) S := by
  have hb : S % 2 ^ f < 2 ^ f := Nat.mod_lt _ (Nat.two_pow_pos f)
  have hg : ∀ (g : Nat → Nat) (m : Nat), f ≤ m → smN g (S % 2 ^ f) m ≤ smN g S m := by
    intro g m hm
    have h1 := smN_high g hb (m - f)
    have h2 := smN_mono g S f (m - f)
    rw [show f + (m - f) = m by omega] at h1 h2
    rw [h1, smN_mod g S f f (Nat.le_refl _)]
    exact h2
  have h1 := hg lf n hf
  have h2 := hg (fun _ => 1) 10 (by omega)
  have h3 := Nat.mod_le S (2 ^ f)
  by_cases c : smN lf (S % 2 ^ f) n < smN lf S n
  · exact Or.inl c
  · refine Or.inr ⟨by show smN lf (S % 2 ^ f) n = _; omega, _, rfl, ?_⟩
    have h2 : popT (S % 2 ^ f) 10 ≤ popT S 10 := h2
    omega
theorem chooseN {payer bh bm : Int32} {n : Nat} {k l o : Nat → Int32} {own : Nat → Bool} {lf th : Nat → Nat} {sum : Nat} (hn : n ≤ 10) (hsum : sum < 100) (hlf : ∀ j, lf j ≤ 9) (hth : ∀ j, th j ≤ 9) (hown : ∀ j, j < n → (own j = true ↔ o j = payer)) (hl : ∀ j, j < n → l j = nI (lf j)) (ht : ∀ j, j < n → fX5_behindHand (k j) (l j) = nI (th j)) : ∀ (d f b : Nat) (s : Nat × Option Nat), f ≤ n → n + 1 ≤ f + d → b < 2 ^ f → (∀ j, j < f → b.testBit j = true → own j = true) → validN n own lf th sum s → ∃ s', fX7_choose d payer (nI s.1) (bI s.2) (nI n) bh bm k l o (nI f) (nI b) (nI (smN lf b f)) (nI sum - nI (smN th b f)) (nI (totN own th n - totN own th f)) = some (nI s'.1, bI s'.2) ∧ validN n own lf th sum s' ∧ (∀ w B, leK s w B → leK s' w B) ∧ ∀ S, feasN n own th sum S → S % 2 ^ f = b → leK s' (smN lf S n) S
  | 0, f, b, s, hf, hd, _, _, _ => absurd hd (by omega)
  | d + 1, f, b, s, hf, hd, hb, hbo, hv => by
    have hw := smN_bound lf b 9 hlf f
    have hq := smN_bound th b 9 hth f
    have htn := totN_bound own th 9 hth n
    have htf := totN_mono own th f (n - f)
    rw [show f + (n - f) = n by omega] at htf
    have hs91 : s.1 ≤ 91 := by
      rcases hv with rfl | ⟨B, hB, rfl⟩
      · exact Nat.le_refl _
      · have := smN_bound lf B 9 hlf n
        show smN lf B n ≤ 91
        omega
    have hext : ∀ S g, S % 2 ^ f = b → smN g S f = smN g b f := by
      intro S g h
      rw [← h]
      exact (smN_mod g S f f (Nat.le_refl _)).symm
    show ∃ s', fX7_choose_b (fX7_choose d) payer (nI s.1) (bI s.2) (nI n) bh bm k l o (nI f) (nI b) (nI (smN lf b f)) (nI sum - nI (smN th b f)) (nI (totN own th n - totN own th f)) = _ ∧ _
    unfold fX7_choose_b
    have e1 : (nI s.1 < nI (smN lf b f)) = (s.1 < smN lf b f) := ltN (by omega) (by omega)
    by_cases c1 : s.1 < smN lf b f
    · rw [if_pos (e1.mpr c1)]
      refine ⟨s, rfl, hv, fun w B h => h, fun S hS hSb => Or.inl ?_⟩
      have h1 := smN_mono lf S f (n - f)
      rw [show f + (n - f) = n by omega, hext S lf hSb] at h1
      omega
    rw [if_neg (fun q => c1 (e1.mp q))]
    have e2 : (nI sum - nI (smN th b f) ≤ nI (totN own th n - totN own th f)) = (sum ≤ smN th b f + (totN own th n - totN own th f)) := by
      rw [Int32.le_iff_toInt_le, pk_sub_toInt (by omega) (by omega), nI_toInt (by omega)]
      exact propext (by omega)
    by_cases c2 : sum ≤ smN th b f + (totN own th n - totN own th f)
    · rw [if_pos (e2.mpr c2)]
      have e3 : (0 < nI sum - nI (smN th b f)) = (smN th b f < sum) := by
        rw [Int32.lt_iff_toInt_lt, pk_sub_toInt (by omega) (by omega)]
        show ((0 : Int) < _) = _
        exact propext (by omega)
      by_cases c3 : smN th b f < sum
      · rw [if_pos (e3.mpr c3)]
        by_cases c4 : f = n
        · subst c4
          rw [if_pos (show fX4_knows (nI f) bh bm (nI f) = 0 by
            unfold fX4_knows
            by_cases c : nI f < 0
            · rw [if_pos c]
            · rw [if_neg c, if_pos (show nI f ≤ nI f by rw [leN (by omega) (by omega)]; omega)])]
          refine ⟨s, rfl, hv, fun w B h => h, fun S hS hSb => ?_⟩
          exfalso
          have h1 := hS.2.2
          rw [hext S th hSb] at h1
          omega
        rw [knows_t hn (show f < n by omega), if_neg (show ¬ (1 : Int32) = 0 by decide), gd_t (inbN (show f < 10 by omega) (by omega)), clN (show f < 2 ^ 31 by omega)]
        have hb' : b < 2 ^ (f + 1) := by rw [Nat.pow_succ]; omega
        have htb : b.testBit f = false := Nat.testBit_lt_two_pow hb
        have hsm0 : ∀ g, smN g b (f + 1) = smN g b f := by
          intro g
          show smN g b f + _ = _
          rw [htb, if_neg Bool.false_ne_true]
          rfl
        have hbo0 : ∀ j, j < f + 1 → b.testBit j = true → own j = true := by
          intro j hj hj2
          by_cases e : j = f
          · subst e; rw [htb] at hj2; exact absurd hj2 Bool.false_ne_true
          · exact hbo j (by omega) hj2
        have hms := fun S => Nat.mod_pow_succ (x := S) (b := 2) (k := f)
        by_cases c5 : o f = payer
        · have hof : own f = true := (hown f (by omega)).mpr c5
          have htot : totN own th (f + 1) = totN own th f + th f := by
            show totN own th f + _ = _
            rw [if_pos hof]
          have htf2 := totN_mono own th (f + 1) (n - (f + 1))
          rw [show f + 1 + (n - (f + 1)) = n by omega] at htf2
          have htl := hth f
          rw [if_pos c5, worthX _ _ _ _ _ (show f < 10 by omega), bd_s, ht f (by omega), hl f (by omega), orN ⟨f, by omega⟩ ⟨b, hb⟩, nI1, nI_add]
          have a1 : nI sum - nI (smN th b f) - nI (th f) = nI sum - nI (smN th (b + 2 ^ f) (f + 1)) := by
            rw [smN_low hb, ← nI_add]
            grind
          have a2 : nI (totN own th n - totN own th f) - nI (th f) = nI (totN own th n - totN own th (f + 1)) := by
            rw [subN (by omega)]
            congr 1
            omega
          have a3 : smN lf b f + lf f = smN lf (b + 2 ^ f) (f + 1) := (smN_low hb).symm
          rw [a1, a2, a3]
          obtain ⟨s1, g1, g2, g3, g4⟩ := chooseN hn hsum hlf hth hown hl ht d (f + 1) (b + 2 ^ f) s (by omega) (by omega) (by rw [Nat.pow_succ]; omega) (fun j hj hj2 => by
            by_cases e : j = f
            · subst e; exact hof
            · refine hbo j (by omega) ?_
              have hm : (b + 2 ^ f) % 2 ^ f = b := by rw [Nat.add_mod_right, Nat.mod_eq_of_lt hb]
              rw [← hm, Nat.testBit_mod_two_pow, decide_eq_true (show j < f by omega), Bool.true_and]
              exact hj2) hv
          obtain ⟨s2, g5, g6, g7, g8⟩ := chooseN hn hsum hlf hth hown hl ht d (f + 1) b s1 (by omega) (by omega) hb' hbo0 g2
          rw [hsm0, hsm0] at g5
          rw [g1, bd_s]
          dsimp only
          rw [g5, bd_s]
          refine ⟨s2, rfl, g6, fun w B h => g7 w B (g3 w B h), fun S hS hSb => ?_⟩
          rcases Nat.mod_two_eq_zero_or_one (S / 2 ^ f) with h | h
          · refine g8 S hS ?_
            rw [hms S, hSb, h, Nat.mul_zero, Nat.add_zero]
          · refine g7 _ _ (g4 S hS ?_)
            rw [hms S, hSb, h, Nat.mul_one]
        · have hof : own f = false := by
            cases h : own f with
            | false => rfl
            | true => exact absurd ((hown f (by omega)).mp h) c5
          have htot : totN own th (f + 1) = totN own th f := by
            show totN own th f + _ = _
            rw [hof, if_neg Bool.false_ne_true]
            rfl
          obtain ⟨s1, g1, g2, g3, g4⟩ := chooseN hn hsum hlf hth hown hl ht d (f + 1) b s (by omega) (by omega) hb' hbo0 hv
          rw [hsm0, hsm0, htot] at g1
          rw [if_neg c5, nI1, g1, bd_s]
          refine ⟨s1, rfl, g2, g3, fun S hS hSb => g4 S hS ?_⟩
          rw [hms S, hSb]
          rcases Nat.mod_two_eq_zero_or_one (S / 2 ^ f) with h | h
          · rw [h, Nat.mul_zero, Nat.add_zero]
          · exfalso
            have h1 : S.testBit f = true := by
              rw [Nat.testBit_eq_decide_div_mod_eq]
              exact decide_eq_true h
            have h2 := hS.2.1 f (by omega) h1
            rw [hof] at h2
            exact absurd h2 Bool.false_ne_true
      · rw [if_neg (fun q => c3 (e3.mp q))]
        have hhi : ∀ g, smN g b n = smN g b f := by
          intro g
          have := smN_high g hb (n - f)
          rw [show f + (n - f) = n by omega] at this
          exact this
        have hfe : feasN n own th sum b := by
          refine ⟨Nat.lt_of_lt_of_le hb (Nat.pow_le_pow_right (by omega) hf), fun j hj hj2 => ?_, by rw [hhi]; omega⟩
          by_cases e : j < f
          · exact hbo j e hj2
          · rw [Nat.testBit_lt_two_pow (Nat.lt_of_lt_of_le hb (Nat.pow_le_pow_right (by omega) (show f ≤ j by omega)))] at hj2
            exact absurd hj2 Bool.false_ne_true
        obtain ⟨s1, g1, g2, g3, g4⟩ := keepN (payer := payer) hn hlf hv hfe
        rw [← hhi lf, g1, bd_s]
        refine ⟨s1, rfl, g2, g3, fun S hS hSb => ?_⟩
        have h1 := extends_le (lf := lf) (S := S) hf hn
        rw [hSb] at h1
        -- what the kept set beats, s1 beats
        rcases g4 with h | ⟨h, b2, hb2, h2⟩
        · rcases h1 with h3 | ⟨h3, -⟩
          · exact Or.inl (Nat.lt_trans h h3)
          · exact Or.inl (by have h3 : smN lf b n = _ := h3; omega)
        · rcases h1 with h3 | ⟨h3, b3, hb3, h4⟩
          · exact Or.inl (by have h3 : smN lf b n < _ := h3; omega)
          · obtain rfl := Option.some.inj hb3
            exact Or.inr ⟨h.trans h3, b2, hb2, by omega⟩
    · rw [if_neg (fun q => c2 (e2.mp q))]
      refine ⟨s, rfl, hv, fun w B h => h, fun S hS hSb => ?_⟩
      exfalso
      have h1 := sm_tot own th S f (n - f) (by rw [show f + (n - f) = n by omega]; exact hS.2.1)
      rw [show f + (n - f) = n by omega, hext S th hSb] at h1
      have h2 := hS.2.2
      omega
