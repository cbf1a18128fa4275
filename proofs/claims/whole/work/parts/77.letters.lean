/-! letters: the codes of a long -/
def lcode (w : Int64) (i : Nat) : Nat := w.toUInt64.toNat / 2 ^ (8 * i) % 256
def lcnt (c : Nat → Nat) : Nat → Nat
  | 0 => 0
  | i + 1 => lcnt c i + (if c i = 0 then 0 else 1)
def lok (c : Nat → Nat) : Nat → Bool
  | 0 => true
  | i + 1 => lok c i && (decide (c i ≤ 126) && (decide (c i = 0) || decide (lcnt c i = i)))
theorem lcnt_le (c : Nat → Nat) : ∀ i, lcnt c i ≤ i
  | 0 => Nat.le_refl _
  | i + 1 => by
    have := lcnt_le c i
    show lcnt c i + _ ≤ _
    split <;> omega
theorem lok_mono (c : Nat → Nat) (i : Nat) (h : lok c i = false) : ∀ k, lok c (i + k) = false
  | 0 => h
  | k + 1 => by
    show (lok c (i + k) && _) = false
    rw [lok_mono c i h k]
    rfl
theorem lok_le (c : Nat → Nat) : ∀ n, lok c n = true → ∀ j, j < n → c j ≤ 126
  | 0, _, j, hj => absurd hj (Nat.not_lt_zero _)
  | n + 1, h, j, hj => by
    have h : (lok c n && (decide (c n ≤ 126) && _)) = true := h
    rw [Bool.and_eq_true, Bool.and_eq_true] at h
    by_cases e : j = n
    · subst e; exact of_decide_eq_true h.2.1
    · exact lok_le c n h.1 j (by omega)
theorem lsh (v : UInt64) : (v.toInt64.toInt32 &&& 255) = nI (v.toNat % 256) := by
  apply Int32.toBitVec_inj.mp
  rw [Int32.toBitVec_and]
  apply BitVec.eq_of_toNat_eq
  rw [BitVec.toNat_and]
  show (v.toBitVec.signExtend 32).toNat &&& 255 = (BitVec.ofNat 32 (v.toNat % 256)).toNat
  rw [BitVec.signExtend_eq_setWidth_of_le _ (by omega), BitVec.toNat_setWidth, BitVec.toNat_ofNat, Nat.mod_eq_of_lt (a := v.toNat % 256) (by omega), show (255 : Nat) = 2 ^ 8 - 1 from rfl, Nat.and_two_pow_sub_one_eq_mod]
  show v.toNat % 2 ^ 32 % 2 ^ 8 = v.toNat % 256
  omega
theorem lsh2 (v : Int64) : ((v &&& 255).toInt32) = nI (v.toUInt64.toNat % 256) := by
  apply Int32.toBitVec_inj.mp
  apply BitVec.eq_of_toNat_eq
  show ((v.toBitVec &&& 255#64).signExtend 32).toNat = (BitVec.ofNat 32 (v.toUInt64.toNat % 256)).toNat
  rw [BitVec.signExtend_eq_setWidth_of_le _ (by omega), BitVec.toNat_setWidth, BitVec.toNat_and, show (255#64).toNat = 2 ^ 8 - 1 from rfl, BitVec.toNat_ofNat, Nat.mod_eq_of_lt (a := v.toUInt64.toNat % 256) (by omega), Nat.and_two_pow_sub_one_eq_mod]
  show v.toUInt64.toNat % 2 ^ 8 % 2 ^ 32 = v.toUInt64.toNat % 256
  omega
theorem shN : ∀ i : Fin 8, (((8 * nI i.val) : Int32).toInt64.toUInt64 &&& Int64.toUInt64 63).toNat = 8 * i.val := by decide +kernel
theorem codeN (w : Int64) {i : Nat} (hi : i < 8) : fX6_codeIn w (nI i) = nI (lcode w i) := by
  unfold fX6_codeIn lcode
  rw [lsh, UInt64.toNat_shiftRight, shN ⟨i, hi⟩, show 8 * (⟨i, hi⟩ : Fin 8).val % 64 = 8 * i from Nat.mod_eq_of_lt (by show 8 * i < 64; omega), Nat.shiftRight_eq_div_pow]
theorem codeM (w : Int64) {i : Nat} (hi : i < 8) : ((((w : Int64).toUInt64 >>> (((8 * nI i) : Int32).toInt64.toUInt64 &&& Int64.toUInt64 63)).toInt64 &&& 255 : Int64).toInt32) = nI (lcode w i) := by
  unfold lcode
  rw [lsh2]
  show nI ((w.toUInt64 >>> (((8 * nI i) : Int32).toInt64.toUInt64 &&& Int64.toUInt64 63)).toNat % 256) = _
  rw [UInt64.toNat_shiftRight, shN ⟨i, hi⟩, show 8 * (⟨i, hi⟩ : Fin 8).val % 64 = 8 * i from Nat.mod_eq_of_lt (by show 8 * i < 64; omega), Nat.shiftRight_eq_div_pow]
theorem lettersX (w : Int64) : fX6_lettersIn w = some (if lok (lcode w) 8 = true then nI (lcnt (lcode w) 8) else -1) := by
  unfold fX6_lettersIn
  generalize hc : lcode w = c
  obtain ⟨e, h1, h2⟩ := iter_inv (st := fX6_lettersIn_L7 w)
    (fun z => ∃ i : Nat, i ≤ 8 ∧ z = (nI (lcnt c i), if lcnt c i = i then 0 else 1, nI i) ∧ lok c i = true)
    (fun z => 8 - z.2.2.toNatClampNeg)
    (fun e => (e = Sum.inl () ∧ lok c 8 = false) ∨ (e = Sum.inr (nI (lcnt c 8)) ∧ lok c 8 = true))
    (fun z hI => by
      obtain ⟨i, hi, rfl, hk⟩ := hI
      unfold fX6_lettersIn_L7
      dsimp only
      by_cases h8 : i = 8
      · subst h8
        rw [if_pos (by decide)]
        exact Or.inr ⟨_, rfl, Or.inr ⟨rfl, hk⟩⟩
      have hl := lcnt_le c i
      have hS : lok c (i + 1) = (lok c i && (decide (c i ≤ 126) && (decide (c i = 0) || decide (lcnt c i = i)))) := rfl
      have hT : lcnt c (i + 1) = lcnt c i + (if c i = 0 then 0 else 1) := rfl
      have hck : lcode w i = c i := by rw [hc]
      have hcl : c i < 256 := by rw [← hck]; exact Nat.mod_lt _ (by omega)
      rw [if_neg (show ¬ (8 : Int32) ≤ nI i by rw [show (8 : Int32) = nI 8 from rfl, leN (by omega) (by omega)]; omega), codeN w (by omega), hck]
      unfold fX6_lettersIn_J40
      dsimp only
      rw [codeN w (by omega), hck]
      by_cases h126 : 126 < c i
      · rw [if_pos (show (126 : Int32) < nI (c i) by rw [show (126 : Int32) = nI 126 from rfl, ltN (by omega) (by omega)]; omega)]
        refine Or.inr ⟨_, rfl, Or.inl ⟨rfl, ?_⟩⟩
        rw [show 8 = (i + 1) + (7 - i) by omega]
        refine lok_mono c _ ?_ _
        rw [hS, decide_eq_false (by omega), Bool.false_and, Bool.and_false]
      · rw [if_neg (show ¬ (126 : Int32) < nI (c i) by rw [show (126 : Int32) = nI 126 from rfl, ltN (by omega) (by omega)]; omega)]
        have e0 : (nI (c i) = 0) = (c i = 0) := eqN (a := c i) (b := 0) (by omega) (by omega)
        simp only [e0]
        have hmes : 8 - (nI (i + 1)).toNatClampNeg < 8 - (nI i).toNatClampNeg := by rw [clN (by omega), clN (by omega)]; omega
        by_cases hz : c i = 0
        · simp only [if_pos hz, nI1]
          have hnx : ∃ j : Nat, j ≤ 8 ∧ (nI (lcnt c i), (1 : Int32), nI (i + 1)) = (nI (lcnt c j), if lcnt c j = j then 0 else 1, nI j) ∧ lok c j = true := by
            refine ⟨i + 1, by omega, ?_, ?_⟩
            · rw [hT, if_pos hz, if_neg (show ¬ lcnt c i + 0 = i + 1 by omega)]; rfl
            · rw [hS, hk, decide_eq_true (show c i ≤ 126 by omega), decide_eq_true hz]
              rfl
          by_cases he : lcnt c i = i
          · rw [if_pos (by rw [if_pos he])]
            exact Or.inl ⟨_, rfl, hnx, hmes⟩
          · rw [if_neg (by rw [if_neg he]; decide)]
            exact Or.inl ⟨_, rfl, hnx, hmes⟩
        · simp only [if_neg hz, nI1]
          by_cases he : lcnt c i = i
          · rw [if_pos (by rw [if_pos he])]
            refine Or.inl ⟨_, rfl, ⟨i + 1, by omega, ?_, ?_⟩, hmes⟩
            · rw [hT, if_neg hz, if_pos he, if_pos (by omega)]
            · rw [hS, hk, decide_eq_true (show c i ≤ 126 by omega), decide_eq_true he, Bool.or_true]
              rfl
          · rw [if_neg (by rw [if_neg he]; decide)]
            refine Or.inr ⟨_, rfl, Or.inl ⟨rfl, ?_⟩⟩
            rw [show 8 = (i + 1) + (7 - i) by omega]
            refine lok_mono c _ ?_ _
            rw [hS, decide_eq_false hz, decide_eq_false he, Bool.or_false, Bool.and_false, Bool.and_false])
    FU (0, 0, 0) ⟨0, by omega, rfl, rfl⟩ (by show 8 - _ < 100000; omega)
  rw [h1, bd_s]
  rcases h2 with ⟨rfl, h3⟩ | ⟨rfl, h3⟩
  · rw [h3, if_neg (by decide)]; rfl
  · rw [h3, if_pos rfl]; rfl
theorem lettersM (w : Int64) : iter fX11_letters_L11 FU (0, 1, w, 0) = some (nI (lcnt (lcode w) 8), if lok (lcode w) 8 = true then 1 else 0) := by
  generalize hc : lcode w = c
  obtain ⟨e, h1, h2⟩ := one_for (st := fX11_letters_L11)
    (fun i z => ∃ v : Int64, v.toUInt64.toNat = w.toUInt64.toNat / 2 ^ (8 * i) ∧ z = (nI (lcnt c i), if lok c i = true then 1 else 0, v, nI i))
    (fun e => e = (nI (lcnt c 8), if lok c 8 = true then 1 else 0)) 8 (by omega)
    (fun i z hi hI => by
      obtain ⟨v, hv, rfl⟩ := hI
      unfold fX11_letters_L11
      dsimp only
      have hl := lcnt_le c i
      have hck : v.toUInt64.toNat % 256 = c i := by rw [hv, ← hc]; rfl
      have hcl : c i < 256 := by rw [← hck]; exact Nat.mod_lt _ (by omega)
      have hS : lok c (i + 1) = (lok c i && (decide (c i ≤ 126) && (decide (c i = 0) || decide (lcnt c i = i)))) := rfl
      have hT : lcnt c (i + 1) = lcnt c i + (if c i = 0 then 0 else 1) := rfl
      rw [if_neg (show ¬ (8 : Int32) ≤ nI i by rw [show (8 : Int32) = nI 8 from rfl, leN (by omega) (by omega)]; omega), lsh2, hck]
      have e0 : (nI (c i) = 0) = (c i = 0) := eqN (a := c i) (b := 0) (by omega) (by omega)
      have e1 : (nI (c i) ≤ 0) = (c i = 0) := by
        rw [show (0 : Int32) = nI 0 from rfl, leN (by omega) (by omega)]
        exact propext (by omega)
      have e2 : (126 < nI (c i)) = (126 < c i) := by rw [show (126 : Int32) = nI 126 from rfl, ltN (by omega) (by omega)]
      have e3 : (nI (lcnt c i) = nI i) = (lcnt c i = i) := eqN (by omega) (by omega)
      simp only [e0, e1, e2, e3]
      refine ⟨_, rfl, ?_⟩
      refine ⟨_, ?_, Prod.ext ?_ (Prod.ext ?_ (Prod.ext rfl (nI1 i)))⟩
      · show (v.toUInt64 >>> ((8 : Int32).toInt64.toUInt64 &&& Int64.toUInt64 63)).toNat = _
        rw [UInt64.toNat_shiftRight, show (((8 : Int32).toInt64.toUInt64 &&& Int64.toUInt64 63).toNat % 64) = 8 from by decide, Nat.shiftRight_eq_div_pow, hv, Nat.div_div_eq_div_mul, ← Nat.pow_add]
        rfl
      · show nI (lcnt c i) + (if c i = 0 then 0 else 1) = nI (lcnt c (i + 1))
        rw [hT]
        by_cases hz : c i = 0
        · rw [if_pos hz, if_pos hz]; exact Int32.add_zero _
        · rw [if_neg hz, if_neg hz]; exact nI1 _
      · show (if (if lok c i = true then (1 : Int32) else 0) = 0 then 0 else (if 126 < c i then 0 else (if c i = 0 then 1 else (if lcnt c i = i then 1 else 0 : Int32) : Int32) : Int32) : Int32) = if lok c (i + 1) = true then 1 else 0
        rw [hS]
        cases hk : lok c i with
        | false => rfl
        | true =>
          rw [if_pos rfl, if_neg (by decide)]
          by_cases h126 : 126 < c i
          · rw [if_pos h126, decide_eq_false (show ¬ c i ≤ 126 by omega)]; rfl
          · rw [if_neg h126, decide_eq_true (show c i ≤ 126 by omega)]
            by_cases hz : c i = 0
            · rw [if_pos hz, decide_eq_true hz]; rfl
            · rw [if_neg hz, decide_eq_false hz]
              by_cases he : lcnt c i = i
              · rw [if_pos he, decide_eq_true he]; rfl
              · rw [if_neg he, decide_eq_false he]; rfl)
    (fun z hI => by
      obtain ⟨v, hv, rfl⟩ := hI
      unfold fX11_letters_L11
      dsimp only
      rw [if_pos (by decide)]
      exact ⟨_, rfl, rfl⟩) (0, 1, w, 0) ⟨w, by rw [Nat.mul_zero, Nat.pow_zero, Nat.div_one], rfl⟩
  rw [h1, h2]
theorem q_letters {codes : Nat → Int32} {size : Int32} {page : Nat → Int32} {pm : Int32} (hP : RelP codes size page pm) (kp rm td many mh mm rn sn km kb kc : Int32) (hh : Int64) (x1 : Int64) : ∃ zx, fX10_letters kp size codes x1 = some zx ∧ ∃ zm, fX11_letters pm rm td many mh mm rn sn km kb kc hh page x1 = some zm ∧ zx.1 = zm.1 ∧ RelP zx.2.2 zx.2.1 zm.2.2 zm.2.1 := by
  have hP0 := hP
  obtain ⟨p, hp, rfl, rfl, hq⟩ := hP
  unfold fX10_letters fX11_letters
  rw [lettersX, lettersM, bd_s, bd_s]
  unfold fX11_letters_X11_83
  dsimp only
  cases hk : lok (lcode x1) 8 with
  | false =>
    rw [if_neg Bool.false_ne_true, if_neg Bool.false_ne_true, if_pos rfl, if_pos rfl]
    exact ⟨_, rfl, _, rfl, rfl, hP0⟩
  | true =>
    have hle := lok_le _ _ hk
    have hcl := lcnt_le (lcode x1) 8
    generalize hn : lcnt (lcode x1) 8 = n at hcl ⊢
    rw [if_pos rfl, if_neg (show ¬ nI n = -1 by rw [m1N (by omega)]; exact id), if_pos rfl, if_neg (show ¬ (1 : Int32) = 0 by decide), nI_add, show (22 : Int32) = nI 22 from rfl]
    by_cases h22 : p + n ≤ 22
    · have h22' : nI (p + n) ≤ nI 22 := by rw [leN (by omega) (by omega)]; exact h22
      rw [if_pos h22', if_pos h22']
      unfold fX6_write
      obtain ⟨e1, e2, h1, h2, h3, h4, h5⟩ := two_for (st := fX6_write_L3 x1 (nI n)) (st' := fX11_letters_L108 x1 (nI n, 1))
        (fun i z z' => z.1 = nI i ∧ z'.1 = nI i ∧ z.2.1 = nI (p + i) ∧ z'.2.1 = nI (p + i) ∧ ∀ j : Nat, j < p + i → z'.2.2 j = z.2.2 j ∧ ∃ c : Nat, c < 128 ∧ z.2.2 j = nI c)
        (fun e e' => e.1 = nI (p + n) ∧ e'.1 = nI (p + n) ∧ ∀ j : Nat, j < p + n → e'.2 j = e.2 j ∧ ∃ c : Nat, c < 128 ∧ e.2 j = nI c) n (by omega)
        (fun i z z' hi hI => by
          obtain ⟨i1, s1, C⟩ := z
          obtain ⟨i2, s2, G⟩ := z'
          obtain ⟨g1, g2, g3, g4, g5⟩ := hI
          dsimp only at g1 g2 g3 g4 g5
          subst g1; subst g2; subst g3; subst g4
          unfold fX6_write_L3 fX11_letters_L108
          dsimp only
          have hx : ¬ nI n ≤ nI i := by rw [leN (by omega) (by omega)]; omega
          rw [if_neg hx, if_neg hx, if_neg (show ¬ (22 : Int32) ≤ nI (p + i) by rw [show (22 : Int32) = nI 22 from rfl, leN (by omega) (by omega)]; omega), gd_t (inbN (by omega) (by omega)), gd_t (inbN (by omega) (by omega)), clN (by omega), codeN x1 (by omega), codeM x1 (by omega)]
          have hcv := hle i (by omega)
          refine ⟨_, _, rfl, rfl, nI1 i, nI1 i, nI1 (p + i), nI1 (p + i), fun j hj => ?_⟩
          show upd G (p + i) (nI (lcode x1 i)) j = upd C (p + i) (nI (lcode x1 i)) j ∧ ∃ c : Nat, c < 128 ∧ upd C (p + i) (nI (lcode x1 i)) j = nI c
          rw [upd_eq, upd_eq]
          by_cases e : j = p + i
          · rw [if_pos e, if_pos e]; exact ⟨rfl, _, by omega, rfl⟩
          · rw [if_neg e, if_neg e]; exact g5 j (by omega))
        (fun z z' hI => by
          obtain ⟨i1, s1, C⟩ := z
          obtain ⟨i2, s2, G⟩ := z'
          obtain ⟨g1, g2, g3, g4, g5⟩ := hI
          dsimp only at g1 g2 g3 g4 g5
          subst g1; subst g2; subst g3; subst g4
          unfold fX6_write_L3 fX11_letters_L108
          dsimp only
          have hx : nI n ≤ nI n := by rw [leN (by omega) (by omega)]; omega
          rw [if_pos hx, if_pos hx]
          exact ⟨_, _, rfl, rfl, rfl, rfl, g5⟩)
        (0, nI p, codes) (0, nI p, page) ⟨rfl, rfl, rfl, rfl, hq⟩
      rw [h1, h2, bd_s, bd_s]
      unfold fX6_write_X3_49 fX11_letters_X108_151
      rw [bd_s]
      refine ⟨_, rfl, _, rfl, h3.trans h4.symm, p + n, h22, h3, h4, h5⟩
    · have h22' : ¬ nI (p + n) ≤ nI 22 := by rw [leN (by omega) (by omega)]; exact h22
      rw [if_neg h22', if_neg h22']
      exact ⟨_, rfl, _, rfl, rfl, hP0⟩
