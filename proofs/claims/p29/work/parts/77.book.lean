/-! letters: the codes of a long -/
def lcode (w : Int64) (i : Nat) : Nat := w.toUInt64.toNat / 2 ^ (8 * i) % 256
def lcnt (c : Nat → Nat) : Nat → Nat
  | 0 => 0
  | i + 1 => lcnt c i + (if c i = 0 then 0 else 1)
def lok (c : Nat → Nat) : Nat → Bool
  | 0 => true
  | i + 1 => lok c i && (decide (c i ≤ 126) && (decide (c i = 0) || decide (lcnt c i = i)))
theorem lcnt_le (c : Nat → Nat) : ∀ i, lcnt c i ≤ i
  | 0 => Nat.le_refl _
  | i + 1 => by
    have := lcnt_le c i
    show lcnt c i + _ ≤ _
    split <;> omega
theorem lok_mono (c : Nat → Nat) (i : Nat) (h : lok c i = false) : ∀ k, lok c (i + k) = false
  | 0 => h
  | k + 1 => by
    show (lok c (i + k) && _) = false
    rw [lok_mono c i h k]
    rfl
theorem lok_le (c : Nat → Nat) : ∀ n, lok c n = true → ∀ j, j < n → c j ≤ 126
  | 0, _, j, hj => absurd hj (Nat.not_lt_zero _)
  | n + 1, h, j, hj => by
    have h : (lok c n && (decide (c n ≤ 126) && _)) = true := h
    rw [Bool.and_eq_true, Bool.and_eq_true] at h
    by_cases e : j = n
    · subst e; exact of_decide_eq_true h.2.1
    · exact lok_le c n h.1 j (by omega)
theorem lsh (v : UInt64) : (v.toInt64.toInt32 &&& 255) = nI (v.toNat % 256) := by
  apply Int32.toBitVec_inj.mp
  rw [Int32.toBitVec_and]
  apply BitVec.eq_of_toNat_eq
  rw [BitVec.toNat_and]
  show (v.toBitVec.signExtend 32).toNat &&& 255 = (BitVec.ofNat 32 (v.toNat % 256)).toNat
  rw [BitVec.signExtend_eq_setWidth_of_le _ (by omega), BitVec.toNat_setWidth, BitVec.toNat_ofNat, Nat.mod_eq_of_lt (a := v.toNat % 256) (by omega), show (255 : Nat) = 2 ^ 8 - 1 from rfl, Nat.and_two_pow_sub_one_eq_mod]
  show v.toNat % 2 ^ 32 % 2 ^ 8 = v.toNat % 256
  omega
theorem lsh2 (v : Int64) : ((v &&& 255).toInt32) = nI (v.toUInt64.toNat % 256) := by
  apply Int32.toBitVec_inj.mp
  apply BitVec.eq_of_toNat_eq
  show ((v.toBitVec &&& 255#64).signExtend 32).toNat = (BitVec.ofNat 32 (v.toUInt64.toNat % 256)).toNat
  rw [BitVec.signExtend_eq_setWidth_of_le _ (by omega), BitVec.toNat_setWidth, BitVec.toNat_and, show (255#64).toNat = 2 ^ 8 - 1 from rfl, BitVec.toNat_ofNat, Nat.mod_eq_of_lt (a := v.toUInt64.toNat % 256) (by omega), Nat.and_two_pow_sub_one_eq_mod]
  show v.toUInt64.toNat % 2 ^ 8 % 2 ^ 32 = v.toUInt64.toNat % 256
  omega
theorem shN : ∀ i : Fin 8, (((8 * nI i.val) : Int32).toInt64.toUInt64 &&& Int64.toUInt64 63).toNat = 8 * i.val := by decide +kernel
theorem codeN (w : Int64) {i : Nat} (hi : i < 8) : fX6_codeIn w (nI i) = nI (lcode w i) := by
  unfold fX6_codeIn lcode
  rw [lsh, UInt64.toNat_shiftRight, shN ⟨i, hi⟩, show 8 * (⟨i, hi⟩ : Fin 8).val % 64 = 8 * i from Nat.mod_eq_of_lt (by show 8 * i < 64; omega), Nat.shiftRight_eq_div_pow]
theorem codeM (w : Int64) {i : Nat} (hi : i < 8) : ((((w : Int64).toUInt64 >>> (((8 * nI i) : Int32).toInt64.toUInt64 &&& Int64.toUInt64 63)).toInt64 &&& 255 : Int64).toInt32) = nI (lcode w i) := by
  unfold lcode
  rw [lsh2]
  show nI ((w.toUInt64 >>> (((8 * nI i) : Int32).toInt64.toUInt64 &&& Int64.toUInt64 63)).toNat % 256) = _
  rw [UInt64.toNat_shiftRight, shN ⟨i, hi⟩, show 8 * (⟨i, hi⟩ : Fin 8).val % 64 = 8 * i from Nat.mod_eq_of_lt (by show 8 * i < 64; omega), Nat.shiftRight_eq_div_pow]
theorem lettersX (w : Int64) : fX6_lettersIn w = some (if lok (lcode w) 8 = true then nI (lcnt (lcode w) 8) else -1) := by
  unfold fX6_lettersIn
  generalize hc : lcode w = c
  obtain ⟨e, h1, h2⟩ := iter_inv (st := fX6_lettersIn_L7 w)
    (fun z => ∃ i : Nat, i ≤ 8 ∧ z = (nI (lcnt c i), if lcnt c i = i then 0 else 1, nI i) ∧ lok c i = true)
    (fun z => 8 - z.2.2.toNatClampNeg)
    (fun e => (e = Sum.inl () ∧ lok c 8 = false) ∨ (e = Sum.inr (nI (lcnt c 8)) ∧ lok c 8 = true))
    (fun z hI => by
      obtain ⟨i, hi, rfl, hk⟩ := hI
      unfold fX6_lettersIn_L7
      dsimp only
      by_cases h8 : i = 8
      · subst h8
        rw [if_pos (by decide)]
        exact Or.inr ⟨_, rfl, Or.inr ⟨rfl, hk⟩⟩
      have hl := lcnt_le c i
      have hS : lok c (i + 1) = (lok c i && (decide (c i ≤ 126) && (decide (c i = 0) || decide (lcnt c i = i)))) := rfl
      have hT : lcnt c (i + 1) = lcnt c i + (if c i = 0 then 0 else 1) := rfl
      have hck : lcode w i = c i := by rw [hc]
      have hcl : c i < 256 := by rw [← hck]; exact Nat.mod_lt _ (by omega)
      rw [if_neg (show ¬ (8 : Int32) ≤ nI i by rw [show (8 : Int32) = nI 8 from rfl, leN (by omega) (by omega)]; omega), codeN w (by omega), hck]
      unfold fX6_lettersIn_J40
      dsimp only
      rw [codeN w (by omega), hck]
      by_cases h126 : 126 < c i
      · rw [if_pos (show (126 : Int32) < nI (c i) by rw [show (126 : Int32) = nI 126 from rfl, ltN (by omega) (by omega)]; omega)]
        refine Or.inr ⟨_, rfl, Or.inl ⟨rfl, ?_⟩⟩
        rw [show 8 = (i + 1) + (7 - i) by omega]
        refine lok_mono c _ ?_ _
        rw [hS, decide_eq_false (by omega), Bool.false_and, Bool.and_false]
      · rw [if_neg (show ¬ (126 : Int32) < nI (c i) by rw [show (126 : Int32) = nI 126 from rfl, ltN (by omega) (by omega)]; omega)]
        have e0 : (nI (c i) = 0) = (c i = 0) := eqN (a := c i) (b := 0) (by omega) (by omega)
        simp only [e0]
        have hmes : 8 - (nI (i + 1)).toNatClampNeg < 8 - (nI i).toNatClampNeg := by rw [clN (by omega), clN (by omega)]; omega
        by_cases hz : c i = 0
        · simp only [if_pos hz, nI1]
          have hnx : ∃ j : Nat, j ≤ 8 ∧ (nI (lcnt c i), (1 : Int32), nI (i + 1)) = (nI (lcnt c j), if lcnt c j = j then 0 else 1, nI j) ∧ lok c j = true := by
            refine ⟨i + 1, by omega, ?_, ?_⟩
            · rw [hT, if_pos hz, if_neg (show ¬ lcnt c i + 0 = i + 1 by omega)]; rfl
            · rw [hS, hk, decide_eq_true (show c i ≤ 126 by omega), decide_eq_true hz]
              rfl
          by_cases he : lcnt c i = i
          · rw [if_pos (by rw [if_pos he])]
            exact Or.inl ⟨_, rfl, hnx, hmes⟩
          · rw [if_neg (by rw [if_neg he]; decide)]
            exact Or.inl ⟨_, rfl, hnx, hmes⟩
        · simp only [if_neg hz, nI1]
          by_cases he : lcnt c i = i
          · rw [if_pos (by rw [if_pos he])]
            refine Or.inl ⟨_, rfl, ⟨i + 1, by omega, ?_, ?_⟩, hmes⟩
            · rw [hT, if_neg hz, if_pos he, if_pos (by omega)]
            · rw [hS, hk, decide_eq_true (show c i ≤ 126 by omega), decide_eq_true he, Bool.or_true]
              rfl
          · rw [if_neg (by rw [if_neg he]; decide)]
            refine Or.inr ⟨_, rfl, Or.inl ⟨rfl, ?_⟩⟩
            rw [show 8 = (i + 1) + (7 - i) by omega]
            refine lok_mono c _ ?_ _
            rw [hS, decide_eq_false hz, decide_eq_false he, Bool.or_false, Bool.and_false, Bool.and_false])
    FU (0, 0, 0) ⟨0, by omega, rfl, rfl⟩ (by show 8 - _ < 100000; omega)
  rw [h1, bd_s]
  rcases h2 with ⟨rfl, h3⟩ | ⟨rfl, h3⟩
  · rw [h3, if_neg (by decide)]; rfl
  · rw [h3, if_pos rfl]; rfl
/-! a book: the law's text, what the class reads in it -/
theorem lcodeOne {q : Nat} (hq : q < 127) : lcode (lN q) 0 = q ∧ ∀ i : Nat, 1 ≤ i → lcode (lN q) i = 0 := by
  have hu : (lN q).toUInt64.toNat = q := by
    show (BitVec.ofNat 64 q).toNat = q
    rw [BitVec.toNat_ofNat, Nat.mod_eq_of_lt (by omega)]
  unfold lcode
  rw [hu]
  refine ⟨by rw [Nat.mul_zero, Nat.pow_zero, Nat.div_one, Nat.mod_eq_of_lt (by omega)], fun i hi => ?_⟩
  have h8 : 2 ^ 8 ≤ 2 ^ (8 * i) := Nat.pow_le_pow_right (by omega) (by omega)
  rw [Nat.div_eq_of_lt (show q < 2 ^ (8 * i) by omega)]
theorem lettersOne {p q : Nat} (hp : p < 22) (h0 : 0 < q) (hq : q < 127) (kp : Int32) (codes : Nat → Int32) : fX10_letters kp (nI p) codes (nI q).toInt64 = some (nI (p + 1), nI (p + 1), upd codes p (nI q)) := by
  obtain ⟨c0, c1⟩ := lcodeOne hq
  have hcnt : ∀ i : Nat, lcnt (lcode (lN q)) (i + 1) = 1 := by
    intro i
    induction i with
    | zero =>
      show 0 + (if lcode (lN q) 0 = 0 then 0 else 1) = 1
      rw [c0, if_neg (by omega)]
    | succ i ih =>
      show lcnt (lcode (lN q)) (i + 1) + (if lcode (lN q) (i + 1) = 0 then 0 else 1) = 1
      rw [ih, c1 (i + 1) (by omega), if_pos rfl]
  have hok : ∀ i : Nat, lok (lcode (lN q)) (i + 1) = true := by
    intro i
    induction i with
    | zero =>
      show (true && (decide (lcode (lN q) 0 ≤ 126) && (decide (lcode (lN q) 0 = 0) || decide ((0 : Nat) = 0)))) = true
      rw [c0, decide_eq_true (show q ≤ 126 by omega), decide_eq_true (show (0 : Nat) = 0 from rfl), Bool.or_true]
      rfl
    | succ i ih =>
      show (lok (lcode (lN q)) (i + 1) && (decide (lcode (lN q) (i + 1) ≤ 126) && (decide (lcode (lN q) (i + 1) = 0) || decide (lcnt (lcode (lN q)) (i + 1) = i + 1)))) = true
      rw [ih, c1 (i + 1) (by omega)]
      rfl
  unfold fX10_letters
  rw [nI_l (by omega), lettersX, hok 7, hcnt 7, if_pos rfl, bd_s, if_neg (show ¬ nI 1 = -1 by rw [m1N (by omega)]; exact id), nI_add, if_pos (show nI (p + 1) ≤ 22 by rw [show (22 : Int32) = nI 22 from rfl, leN (by omega) (by omega)]; omega)]
  have hw : fX6_write (nI p) codes (lN q) (nI 1) = some (nI (p + 1), upd codes p (nI q)) := by
    unfold fX6_write
    have h := iter_for (st := fX6_write_L3 (lN q) (nI 1)) (fun i => (nI i, nI (p + i), if i = 0 then codes else upd codes p (nI q))) 1 (nI (p + 1), upd codes p (nI q)) (0, nI p, codes) rfl (by omega) (fun i hi => by
      obtain rfl : i = 0 := by omega
      show fX6_write_L3 (lN q) (nI 1) (nI 0, nI p, codes) = some (Sum.inl (nI 1, nI (p + 1), upd codes p (nI q)))
      unfold fX6_write_L3
      dsimp only
      rw [if_neg (show ¬ nI 1 ≤ nI 0 by decide), if_neg (show ¬ (22 : Int32) ≤ nI p by rw [show (22 : Int32) = nI 22 from rfl, leN (by omega) (by omega)]; omega), gd_t (inbN (by omega) (by omega)), clN (by omega), codeN (lN q) (show 0 < 8 by omega), c0, nI1, nI1]) (by
      show fX6_write_L3 (lN q) (nI 1) (nI 1, nI (p + 1), upd codes p (nI q)) = _
      unfold fX6_write_L3
      dsimp only
      rw [if_pos (show nI 1 ≤ nI 1 by decide)])
    rw [h]
    rfl
  rw [hw]
  rfl
theorem iter_blk {S E : Type} {st : S → Option (S ⊕ E)} (g : Nat → S) (e : E) : ∀ (r k N n : Nat), k + r = N → 2 * r < n → (∀ j : Nat, k ≤ j → j < N → st (g j) = some (Sum.inl (g (j + 1))) ∨ ∃ h : S, st (g j) = some (Sum.inl h) ∧ st h = some (Sum.inl (g (j + 1)))) → st (g N) = some (Sum.inr e) → iter st n (g k) = some e
  | 0, k, N, n, h, hn, hs, he => by
    obtain rfl : k = N := by omega
    obtain ⟨m, rfl⟩ : ∃ m, n = m + 1 := ⟨n - 1, by omega⟩
    rw [iter_succ, he]
    rfl
  | r + 1, k, N, n, h, hn, hs, he => by
    obtain ⟨m, rfl⟩ : ∃ m, n = m + 2 := ⟨n - 2, by omega⟩
    rcases hs k (Nat.le_refl k) (by omega) with h1 | ⟨x, h1, h2⟩
    · rw [show m + 2 = (m + 1) + 1 from rfl, iter_succ, h1]
      exact iter_blk g e r (k + 1) N (m + 1) (by omega) (by omega) (fun j hj hj2 => hs j (by omega) hj2) he
    · rw [show m + 2 = (m + 1) + 1 from rfl, iter_succ, h1]
      show iter st (m + 1) x = some e
      rw [iter_succ, h2]
      exact iter_blk g e r (k + 1) N m (by omega) (by omega) (fun j hj hj2 => hs j (by omega) hj2) he
theorem iter_blocks {S E : Type} {st : S → Option (S ⊕ E)} (g : Nat → S) (N : Nat) (e : E) (s0 : S) (h0 : g 0 = s0) (hN : N < 1000) (hs : ∀ j : Nat, j < N → st (g j) = some (Sum.inl (g (j + 1))) ∨ ∃ h : S, st (g j) = some (Sum.inl h) ∧ st h = some (Sum.inl (g (j + 1)))) (he : st (g N) = some (Sum.inr e)) : iter st FU s0 = some e := by
  subst h0
  exact iter_blk g e N 0 N FU (by omega) (show 2 * N < 100000 by omega) (fun j _ h => hs j h) he
/-- the fronds of a text: kinds and leaflets; where each begins; its letters -/
def ltr (q : Nat) : Int32 := if q = 1 then 98 else if q = 2 then 109 else if q = 3 then 112 else 119
def posN (P : Nat → Nat × Nat) : Nat → Nat
  | 0 => 0
  | k + 1 => posN P k + (if (P k).1 = 0 then 1 else 2)
def cN (c0 : Nat → Int32) (P : Nat → Nat × Nat) : Nat → Nat → Int32
  | 0 => c0
  | k + 1 => upd (upd (cN c0 P k) (1 + k) (nI (P k).1)) (11 + k) (nI (P k).2)
def tN (P : Nat → Nat × Nat) : Nat → Nat → Int32
  | 0 => fun _ => 0
  | k + 1 => if (P k).1 = 0 then upd (tN P k) (posN P k) (nI (48 + (P k).2)) else upd (upd (tN P k) (posN P k) (ltr (P k).1)) (posN P k + 1) (nI (48 + (P k).2))
theorem pos_le (P : Nat → Nat × Nat) : ∀ k : Nat, posN P k ≤ 2 * k
  | 0 => Nat.le_refl _
  | k + 1 => by
    have := pos_le P k
    show posN P k + (if (P k).1 = 0 then 1 else 2) ≤ 2 * (k + 1)
    split <;> omega
theorem pos_ge (P : Nat → Nat × Nat) : ∀ k : Nat, k ≤ posN P k
  | 0 => Nat.le_refl _
  | k + 1 => by
    have := pos_ge P k
    show k + 1 ≤ posN P k + (if (P k).1 = 0 then 1 else 2)
    split <;> omega
theorem pos_mono (P : Nat → Nat × Nat) (j : Nat) : ∀ r : Nat, posN P j ≤ posN P (j + r)
  | 0 => Nat.le_refl _
  | r + 1 => by
    have := pos_mono P j r
    show posN P j ≤ posN P (j + r) + _
    omega
theorem tN_keep (P : Nat → Nat × Nat) {i k : Nat} (hi : i < posN P k) : ∀ r : Nat, tN P (k + r) i = tN P k i
  | 0 => rfl
  | r + 1 => by
    have h1 := pos_mono P k r
    show (if (P (k + r)).1 = 0 then upd (tN P (k + r)) (posN P (k + r)) (nI (48 + (P (k + r)).2)) else upd (upd (tN P (k + r)) (posN P (k + r)) (ltr (P (k + r)).1)) (posN P (k + r) + 1) (nI (48 + (P (k + r)).2))) i = _
    rw [← tN_keep P hi r]
    by_cases c : (P (k + r)).1 = 0
    · rw [if_pos c, upd_eq, if_neg (by omega)]
    · rw [if_neg c, upd_eq, upd_eq, if_neg (by omega), if_neg (by omega)]
theorem tN_zero (P : Nat → Nat × Nat) {k m : Nat} (hk : k < m) (h : (P k).1 = 0) : tN P m (posN P k) = nI (48 + (P k).2) ∧ posN P (k + 1) = posN P k + 1 := by
  have e : posN P (k + 1) = posN P k + 1 := by
    show posN P k + (if (P k).1 = 0 then 1 else 2) = _
    rw [if_pos h]
  refine ⟨?_, e⟩
  have := tN_keep P (i := posN P k) (k := k + 1) (by omega) (m - (k + 1))
  rw [show k + 1 + (m - (k + 1)) = m by omega] at this
  rw [this]
  show (if (P k).1 = 0 then upd (tN P k) (posN P k) (nI (48 + (P k).2)) else upd (upd (tN P k) (posN P k) (ltr (P k).1)) (posN P k + 1) (nI (48 + (P k).2))) (posN P k) = _
  rw [if_pos h, upd_eq, if_pos rfl]
theorem tN_two (P : Nat → Nat × Nat) {k m : Nat} (hk : k < m) (h : ¬ (P k).1 = 0) : tN P m (posN P k) = ltr (P k).1 ∧ tN P m (posN P k + 1) = nI (48 + (P k).2) ∧ posN P (k + 1) = posN P k + 2 := by
  have e : posN P (k + 1) = posN P k + 2 := by
    show posN P k + (if (P k).1 = 0 then 1 else 2) = _
    rw [if_neg h]
  have k1 := tN_keep P (i := posN P k) (k := k + 1) (by omega) (m - (k + 1))
  have k2 := tN_keep P (i := posN P k + 1) (k := k + 1) (by omega) (m - (k + 1))
  rw [show k + 1 + (m - (k + 1)) = m by omega] at k1 k2
  refine ⟨?_, ?_, e⟩
  · rw [k1]
    show (if (P k).1 = 0 then upd (tN P k) (posN P k) (nI (48 + (P k).2)) else upd (upd (tN P k) (posN P k) (ltr (P k).1)) (posN P k + 1) (nI (48 + (P k).2))) (posN P k) = _
    rw [if_neg h, upd_eq, upd_eq, if_neg (by omega), if_pos rfl]
  · rw [k2]
    show (if (P k).1 = 0 then upd (tN P k) (posN P k) (nI (48 + (P k).2)) else upd (upd (tN P k) (posN P k) (ltr (P k).1)) (posN P k + 1) (nI (48 + (P k).2))) (posN P k + 1) = _
    rw [if_neg h, upd_eq, if_pos rfl]
theorem ltr_rng {q : Nat} (h0 : 0 < q) (h5 : q < 5) : ∃ x : Nat, 0 < x ∧ x < 127 ∧ ltr q = nI x ∧ fX6_isDigit (ltr q) = 0 ∧ fX5_ofLetter (ltr q) = nI q ∧ ¬ nI q = -1 := by
  have : q = 1 ∨ q = 2 ∨ q = 3 ∨ q = 4 := by omega
  rcases this with rfl | rfl | rfl | rfl
  · exact ⟨98, by omega, by omega, rfl, by decide, by decide, by decide⟩
  · exact ⟨109, by omega, by omega, rfl, by decide, by decide, by decide⟩
  · exact ⟨112, by omega, by omega, rfl, by decide, by decide, by decide⟩
  · exact ⟨119, by omega, by omega, rfl, by decide, by decide, by decide⟩
theorem dig_all : ∀ v : Fin 10, ¬ fX6_isDigit (nI (48 + v.val)) = 0 ∧ nI (48 + v.val) - 48 = nI v.val := by decide +kernel
theorem tN_rng (P : Nat → Nat × Nat) (hP : ∀ k : Nat, (P k).1 < 5 ∧ (P k).2 < 10) : ∀ (k i : Nat), i < posN P k → ∃ x : Nat, 0 < x ∧ x < 127 ∧ tN P k i = nI x
  | 0, i, h => absurd h (Nat.not_lt_zero _)
  | k + 1, i, h => by
    obtain ⟨p1, p2⟩ := hP k
    by_cases c : i < posN P k
    · have := tN_keep P c 1
      rw [this]
      exact tN_rng P hP k i c
    · by_cases e : (P k).1 = 0
      · obtain ⟨t1, t2⟩ := tN_zero P (Nat.lt_succ_self k) e
        rw [t2] at h
        obtain rfl : i = posN P k := by omega
        exact ⟨48 + (P k).2, by omega, by omega, t1⟩
      · obtain ⟨t1, t3, t2⟩ := tN_two P (Nat.lt_succ_self k) e
        rw [t2] at h
        by_cases c2 : i = posN P k
        · subst c2
          obtain ⟨x, x1, x2, x3, -⟩ := ltr_rng (show 0 < (P k).1 by omega) p1
          exact ⟨x, x1, x2, t1.trans x3⟩
        · obtain rfl : i = posN P k + 1 := by omega
          exact ⟨48 + (P k).2, by omega, by omega, t3⟩
theorem cN_0 (c0 : Nat → Int32) (P : Nat → Nat × Nat) : ∀ k : Nat, cN c0 P k 0 = c0 0
  | 0 => rfl
  | k + 1 => by
    show upd (upd (cN c0 P k) (1 + k) (nI (P k).1)) (11 + k) (nI (P k).2) 0 = _
    rw [upd_eq, upd_eq, if_neg (by omega), if_neg (by omega), cN_0 c0 P k]
theorem cN_at (c0 : Nat → Int32) (P : Nat → Nat × Nat) {j : Nat} : ∀ k : Nat, j < k → k ≤ 10 → cN c0 P k (1 + j) = nI (P j).1 ∧ cN c0 P k (11 + j) = nI (P j).2
  | 0, h, _ => absurd h (Nat.not_lt_zero _)
  | k + 1, h, hk => by
    show upd (upd (cN c0 P k) (1 + k) (nI (P k).1)) (11 + k) (nI (P k).2) (1 + j) = _ ∧ upd (upd (cN c0 P k) (1 + k) (nI (P k).1)) (11 + k) (nI (P k).2) (11 + j) = _
    rw [upd_eq, upd_eq, upd_eq, upd_eq]
    by_cases e : j = k
    · subst e
      rw [if_neg (by omega), if_pos rfl, if_pos rfl]
      exact ⟨rfl, rfl⟩
    · rw [if_neg (by omega), if_neg (by omega), if_neg (by omega), if_neg (by omega)]
      exact cN_at c0 P k (by omega) (by omega)
/-- one frond of the law's text -/
theorem textStep (x y : Int32) (k : Nat) : ∃ p : Nat × Nat, p.1 < 5 ∧ p.2 < 10 ∧ ∀ (cnt n : Nat) (c t : Nat → Int32), cnt ≤ 5 → k < cnt → n ≤ 2 * k → c 0 = nI cnt → fL_bookText_L16 21 20 x y (nI n, nI k, c, t) = some (Sum.inl (nI (n + (if p.1 = 0 then 1 else 2)), nI (k + 1), upd (upd c (1 + k) (nI p.1)) (11 + k) (nI p.2), if p.1 = 0 then upd t n (nI (48 + p.2)) else upd (upd t n (ltr p.1)) (n + 1) (nI (48 + p.2)))) := by
  obtain ⟨u, hu, eu⟩ := atN (x >>> ((2 + (2 * nI k)) &&& 31)) (m := 8) (by omega) (by omega)
  obtain ⟨v, hv, ev⟩ := atN (y >>> ((2 * nI k) &&& 31)) (m := 4) (by omega) (by omega)
  obtain ⟨w, hw, ew⟩ := atN (y >>> ((2 + (2 * nI k)) &&& 31)) (m := 10) (by omega) (by omega)
  have hk1 : (if 4 ≤ nI u then (nI u - 3) else 0 : Int32) = nI (if 4 ≤ u then u - 3 else 0) := by
    have e : ((4 : Int32) ≤ nI u) = (4 ≤ u) := leN (a := 4) (by omega) (by omega)
    by_cases h : 4 ≤ u
    · rw [if_pos (e.mpr h), if_pos h, show (3 : Int32) = nI 3 from rfl, subN (by omega)]
    · rw [if_neg (fun q => h (e.mp q)), if_neg h]; rfl
  generalize hp1 : (if 4 ≤ u then u - 3 else 0) = p1 at hk1
  have hp5 : p1 < 5 := by rw [← hp1]; split <;> omega
  -- the frond's text, once its leaflets are known
  have hJ : ∀ (p2 cnt n : Nat) (c t : Nat → Int32), p2 < 10 → cnt ≤ 5 → k < cnt → n ≤ 2 * k → fL_bookText_J96 21 20 (nI n, nI k, c, t) (nI u) (nI p2) = some (Sum.inl (nI (n + (if p1 = 0 then 1 else 2)), nI (k + 1), upd (upd c (1 + k) (nI p1)) (11 + k) (nI p2), if p1 = 0 then upd t n (nI (48 + p2)) else upd (upd t n (ltr p1)) (n + 1) (nI (48 + p2)))) := by
    intro p2 cnt n c t hp2 hcnt hk hn
    have a1 : upd (upd c (1 + k) (nI p1)) (11 + k) (nI p2) (1 + k) = nI p1 := by rw [upd_eq, upd_eq, if_neg (by omega), if_pos rfl]
    have a2 : upd (upd c (1 + k) (nI p1)) (11 + k) (nI p2) (11 + k) = nI p2 := by rw [upd_eq, if_pos rfl]
    have e0 : (nI p1 ≤ 0) = (p1 = 0) := by
      rw [show (0 : Int32) = nI 0 from rfl, leN (by omega) (by omega)]
      exact propext (by omega)
    have e1 : (nI p1 = 1) = (p1 = 1) := eqN (b := 1) (by omega) (by omega)
    have e2 : (nI p1 = 2) = (p1 = 2) := eqN (b := 2) (by omega) (by omega)
    have e3 : (nI p1 = 3) = (p1 = 3) := eqN (b := 3) (by omega) (by omega)
    have h48 : (48 + nI p2 : Int32) = nI (48 + p2) := nI_add 48 p2
    unfold fL_bookText_J96 fL_bookText_J160 fL_bookText_J161
    dsimp only
    simp only [hk1, a1N, a11N, clN (show 1 + k < 2 ^ 31 by omega), clN (show 11 + k < 2 ^ 31 by omega), a1, a2, e0, e1, e2, e3, nI1, h48, clN (show n < 2 ^ 31 by omega), clN (show n + 1 < 2 ^ 31 by omega)]
    rw [gd_t (inbN (show 11 + k < 21 by omega) (by omega))]
    by_cases c0 : p1 = 0
    · rw [if_pos c0, if_pos c0, if_pos c0, gd_t (inbN (show n < 20 by omega) (by omega))]
    · rw [if_neg c0, if_neg c0, if_neg c0]
      unfold ltr
      by_cases c1 : p1 = 1
      · rw [if_pos c1, if_pos c1, gd_t (inbN (show n < 20 by omega) (by omega)), gd_t (inbN (show n + 1 < 20 by omega) (by omega))]
      · rw [if_neg c1, if_neg c1]
        by_cases c2 : p1 = 2
        · rw [if_pos c2, if_pos c2, gd_t (inbN (show n < 20 by omega) (by omega)), gd_t (inbN (show n + 1 < 20 by omega) (by omega))]
        · rw [if_neg c2, if_neg c2]
          by_cases c3 : p1 = 3
          · rw [if_pos c3, if_pos c3, gd_t (inbN (show n < 20 by omega) (by omega)), gd_t (inbN (show n + 1 < 20 by omega) (by omega))]
          · rw [if_neg c3, if_neg c3, gd_t (inbN (show n < 20 by omega) (by omega)), gd_t (inbN (show n + 1 < 20 by omega) (by omega))]
  have hS : ∀ (cnt n : Nat) (c t : Nat → Int32), cnt ≤ 5 → k < cnt → n ≤ 2 * k → c 0 = nI cnt → fL_bookText_L16 21 20 x y (nI n, nI k, c, t) = if v = 0 then fL_bookText_J96 21 20 (nI n, nI k, c, t) (nI u) 9 else fL_bookText_J96 21 20 (nI n, nI k, c, t) (nI u) (nI w) := by
    intro cnt n c t hcnt hk hn hc
    have e0 : (nI v = 0) = (v = 0) := eqN (b := 0) (by omega) (by omega)
    unfold fL_bookText_L16
    simp only [c00, hc]
    rw [if_neg (by rw [leN (by omega) (by omega)]; omega), show (8 : Int32) = nI 8 from rfl, eu, bd_s, a1N, gd_t (inbN (by omega) (by omega)), show (4 : Int32) = nI 4 from rfl, ev, bd_s, show (10 : Int32) = nI 10 from rfl, ew, bd_s]
    simp only [e0]
  by_cases hv0 : v = 0
  · refine ⟨(p1, 9), hp5, by omega, fun cnt n c t hcnt hk hn hc => ?_⟩
    rw [hS cnt n c t hcnt hk hn hc, if_pos hv0]
    exact hJ 9 cnt n c t (by omega) hcnt hk hn
  · refine ⟨(p1, w), hp5, hw, fun cnt n c t hcnt hk hn hc => ?_⟩
    rw [hS cnt n c t hcnt hk hn hc, if_neg hv0]
    exact hJ w cnt n c t hw hcnt hk hn
theorem textN (x y : Int32) : ∃ (cnt : Nat) (P : Nat → Nat × Nat), 1 ≤ cnt ∧ cnt ≤ 5 ∧ (∀ k : Nat, (P k).1 < 5 ∧ (P k).2 < 10) ∧ fL_bookText 21 20 (fun _ => 0) (fun _ => 0) x y 5 = some (nI (posN P cnt), cN (upd (fun _ => 0) 0 (nI cnt)) P cnt, tN P cnt) := by
  obtain ⟨P, hP⟩ := Classical.axiomOfChoice (textStep x y)
  obtain ⟨j, hj, ej⟩ := atN x (m := 5) (by omega) (by omega)
  refine ⟨j + 1, P, by omega, by omega, fun k => ⟨(hP k).1, (hP k).2.1⟩, ?_⟩
  unfold fL_bookText
  rw [show (5 : Int32) = nI 5 from rfl, ej, bd_s, gd_t (show inb 0 21 = true by decide), c00, show (1 + nI j : Int32) = nI (j + 1) by rw [a1N, Nat.add_comm]]
  have h := iter_for (st := fL_bookText_L16 21 20 x y) (fun k => (nI (posN P k), nI k, cN (upd (fun _ => 0) 0 (nI (j + 1))) P k, tN P k)) (j + 1) (nI (posN P (j + 1)), cN (upd (fun _ => 0) 0 (nI (j + 1))) P (j + 1), tN P (j + 1)) (0, 0, upd (fun _ => 0) 0 (nI (j + 1)), fun _ => 0) rfl (by omega) (fun k hk => by
    exact (hP k).2.2 (j + 1) (posN P k) (cN (upd (fun _ => 0) 0 (nI (j + 1))) P k) (tN P k) (by omega) hk (pos_le P k) ((cN_0 _ P k).trans rfl)) (by
    show fL_bookText_L16 21 20 x y (nI (posN P (j + 1)), nI (j + 1), cN (upd (fun _ => 0) 0 (nI (j + 1))) P (j + 1), tN P (j + 1)) = _
    have h0 : cN (upd (fun _ => 0) 0 (nI (j + 1))) P (j + 1) 0 = nI (j + 1) := (cN_0 _ P (j + 1)).trans rfl
    unfold fL_bookText_L16
    simp only [c00, h0]
    rw [if_pos (by rw [leN (by omega) (by omega)]; omega)])
  rw [h]
  rfl
