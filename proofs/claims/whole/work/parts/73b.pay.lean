/-! payments, the bank -/
theorem q_bank {k l o t d : Nat → Int32} {sz bh bm : Int32} {rows debts : Nat → Int32} {many mh mm : Int32} (hH : RelH k l o t d sz bh bm rows debts many mh mm) (kp pm rm td rn sn km kb kc : Int32) (hh : Int64) (x1 : Int32) : ∃ zx, fX10_bank kp sz bh bm k l o t x1 = some zx ∧ ∃ zm, fX11_bank pm rm td many mh mm rn sn km kb kc hh rows x1 = some zm ∧ zx.1 = zm.1 ∧ RelH k zx.2.2.1 zx.2.2.2.1 zx.2.2.2.2 d sz zx.2.1 bm zm.2.2 debts many zm.2.1 mm := by
  have hH0 := hH
  obtain ⟨n, hn, rfl, rfl, rfl, rfl, hC, hRD⟩ := hH
  unfold fX10_bank fX11_bank
  rw [isFrond_eq hn _ _ _ _ _ _ _ _ _ _ _ _ mh mm]
  by_cases h : fX4_knows (nI n) mh mm x1 = 0
  · rw [if_pos h, if_pos h]
    exact ⟨_, rfl, _, rfl, rfl, hH0⟩
  · rw [if_neg h, if_neg h]
    obtain ⟨f, hf, rfl⟩ := knowsN hn h
    obtain ⟨w, hw, ew, hC2, hx, hm, h1⟩ := q_hand hC (show f < 10 by omega) (to := -1) (Or.inl rfl)
    rw [bankN _ _ _ _ (by omega), m8N2, m8N1, gd_t (inbN (show 8 * f + 2 < 80 by omega) (by omega)), clN (show 8 * f + 2 < 2 ^ 31 by omega), (hC.1 f (by omega)).2.2]
    by_cases h3 : o f = -1
    · rw [if_pos h3, if_pos h3]
      simp only [bd_s]
      exact ⟨_, if_neg (by decide), _, rfl, rfl, hH0⟩
    · rw [if_neg h3, if_neg h3, hm, bd_s, bd_s]
      refine ⟨_, (if_pos rfl).trans (by rw [hx]; rfl), _, (gd_t (inbN (show 8 * f + 1 < 80 by omega) (by omega))), ?_, n, hn, rfl, rfl, rfl, rfl, hC2, hRD⟩
      show nI w = handM rows f (nI w) (-1) (nI (8 * f + 1)).toNatClampNeg
      rw [clN (by omega)]
      exact h1.symm
theorem q_pay {k l o t d : Nat → Int32} {sz bh bm : Int32} {rows debts : Nat → Int32} {many mh mm : Int32} (hH : RelH k l o t d sz bh bm rows debts many mh mm) (kp pm rm td rn sn km kb kc : Int32) (hh : Int64) (x1 x2 : Int32) : ∃ zx, fX10_pay kp sz bh bm k l o t d x1 x2 = some zx ∧ ∃ zm, fX11_pay pm rm td many mh mm rn sn km kb kc hh rows debts x1 x2 = some zm ∧ zx.1 = zm.1 ∧ RelH k zx.2.2.1 zx.2.2.2.1 zx.2.2.2.2.1 zx.2.2.2.2.2 sz zx.2.1 bm zm.2.2.1 zm.2.2.2 many zm.2.1 mm := by
  have hH0 := hH
  obtain ⟨n, hn, rfl, rfl, rfl, rfl, hC, hRD⟩ := hH
  unfold fX10_pay fX11_pay
  rw [isFrond_eq hn _ _ _ _ _ _ _ _ _ _ _ _ mh mm, isPerson_eq]
  by_cases h : fX4_knows (nI n) mh mm x1 = 0
  · rw [if_pos h, if_pos h]
    exact ⟨_, rfl, _, rfl, rfl, hH0⟩
  · rw [if_neg h, if_neg h]
    obtain ⟨f, hf, rfl⟩ := knowsN hn h
    by_cases h2 : fX10_isPerson x2 = 0
    · rw [if_pos h2, if_pos h2]
      exact ⟨_, rfl, _, rfl, rfl, hH0⟩
    · rw [if_neg h2, if_neg h2, bankN _ _ _ _ (by omega), m8N2, m8N1, gd_t (inbN (show 8 * f + 2 < 80 by omega) (by omega)), clN (show 8 * f + 2 < 2 ^ 31 by omega), (hC.1 f (by omega)).2.2]
      obtain ⟨p, hp, rfl⟩ := personN h2
      by_cases h3 : o f = -1
      · rw [if_pos h3, if_pos h3]
        simp only [bd_s]
        exact ⟨_, if_neg (by decide), _, rfl, rfl, hH0⟩
      · rw [if_neg h3, if_neg h3]
        obtain ⟨c, hc, ec⟩ := (hC.2.2 f (by omega)).2.2.resolve_left h3
        obtain ⟨w, hw, ew, hC2, hx, hm, h1⟩ := q_hand hC (show f < 10 by omega) (to := nI p) (Or.inr ⟨p, hp, rfl⟩)
        rw [gd_t (inbN (show f < 10 by omega) (by omega)), clN (show f < 2 ^ 31 by omega)]
        by_cases h4 : o f = nI p
        · rw [if_pos h4, if_pos h4]
          simp only [bd_s]
          exact ⟨_, if_pos trivial, _, rfl, rfl, hH0⟩
        · rw [if_neg h4, if_neg h4, hm, ec]
          obtain ⟨ed, cd, hcd, edv⟩ := hRD (6 * c + p) (by omega)
          have hl : fX1_lessen d (nI c) (nI p) (nI w) = some (upd d (6 * c + p) (nI (cd - w))) := by
            unfold fX1_lessen
            rw [sumsN _ hc hp]
            show (fX1_put d (nI c) (nI p) _).bind _ = _
            rw [putN _ hc hp, edv]
            show some (upd d (6 * c + p) (if 0 < nI cd - nI w then nI cd - nI w else 0)) = _
            congr 2
            by_cases q : w < cd
            · rw [subN (by omega), if_pos (show (0 : Int32) < nI (cd - w) from nI_lt (a := 0) (b := cd - w) (by omega) (by omega))]
            · by_cases q2 : cd = w
              · subst q2
                rw [subN (Nat.le_refl _), Nat.sub_self]; rfl
              · rw [if_neg, show cd - w = 0 by omega]; rfl
                have := pk_sneg (a := cd) (b := w) (by omega) (by omega)
                rw [Int32.lt_iff_toInt_lt] at this ⊢
                omega
          simp only [bd_s]
          rw [gd_t (inbN (by omega) (by omega)), m6N, gd_t (inbN (by omega) (by omega)), clN (show 6 * c + p < 2 ^ 31 by omega), clN (show 8 * f + 1 < 2 ^ 31 by omega)]
          refine ⟨(nI w, mh + (l f - nI w), upd l f (nI w), upd o f (nI p), tornT t f (o f), upd d (6 * c + p) (nI (cd - w))), ?_, _, rfl, h1.symm, n, hn, rfl, rfl, rfl, rfl, hC2, ?_⟩
          · refine (if_pos trivial).trans ?_
            rw [hx]
            show (fX1_lessen d (nI c) (nI p) (nI w)).bind _ = _
            rw [hl]
            rfl
          show RD (upd d (6 * c + p) (nI (cd - w))) (upd debts (6 * c + p) (if 0 ≤ debts (6 * c + p) - handM rows f (nI w) (nI p) (8 * f + 1) then debts (6 * c + p) - handM rows f (nI w) (nI p) (8 * f + 1) else 0))
          rw [h1, ed, edv]
          have e2 : (if 0 ≤ nI cd - nI w then nI cd - nI w else 0) = nI (cd - w) := by
            by_cases q : w ≤ cd
            · rw [subN q, if_pos (nI_pos' (by omega))]
            · rw [if_neg, show cd - w = 0 by omega]; rfl
              have := pk_sneg (a := cd) (b := w) (by omega) (by omega)
              rw [Int32.lt_iff_toInt_lt] at this
              rw [Int32.le_iff_toInt_le]
              omega
          rw [e2]
          exact RD_put hRD _ (by omega)
